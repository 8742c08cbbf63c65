theorem xw_gx {J : xe_J} {ov : List (List Int32)} (hJ : ∀ d mj as h, mj ≠ xe_loff → J d mj as h = none) (hov1 : ov[1]? = some [10, 0, 0, 0, 0, 0]) (hov2 : ov[2]? = some [99, 30, 50, 50, 1, 99999]) {d : Nat} {Q : Option Value → xe_H → Prop} {h : xe_H} {x0 : Int32} (b0 : -20 ≤ x0.toInt ∧ x0.toInt ≤ 99) (kk : ∀ r : Int32, r.toInt = xho x0.toInt → (1 ≤ r.toInt ∧ r.toInt ≤ 300) → Q (some (.int r)) h) : xw J ov (d + 2) 102 (0, [(0, .int x0)], [], h) Q := by
  refine xi_iload_n (pc' := 1) (x := x0) kc_102_0 rfl rfl ?_
  by_cases c1 : x0.toInt < 0
  · refine xi_ift (pc' := 17) kc_102_1 rfl (xc_lt_t (X := x0.toInt) (Y := 0) rfl (by decide) (by omega)) ?_
    refine xi_iconst (pc' := 18) (v := 5) kc_102_17 rfl rfl ?_
    refine xi_iload_n (pc' := 19) (x := x0) kc_102_18 rfl rfl ?_
    refine xi_static (mj := 2) (as := [.int x0]) (st1 := [.int 5]) (lv0 := [(0, .int x0)]) kc_102_19 rfl rfl (Nat.le_of_ble_eq_true rfl) rfl rfl (Nat.le_of_ble_eq_true rfl) (hJ _ _ _ _ (by decide)) (xm_le ml_2 rfl) rfl ?_
    refine xi_iload_n (pc' := 1) (x := x0) kc_2_0 rfl rfl ?_
    refine xi_iff (pc' := 4) kc_2_1 rfl (xc_ge_f (X := x0.toInt) (Y := 0) rfl (by decide) (by omega)) ?_
    refine xi_iload_n (pc' := 5) (x := x0) kc_2_4 rfl rfl ?_
    obtain ⟨v2, ev2⟩ : ∃ q : Int32, -x0 = q := ⟨_, rfl⟩
    have zv2 : v2.toInt = (-1) * x0.toInt := by rw [← ev2]; exact (xz_neg (X := x0.toInt) rfl (by omega)).trans (by omega)
    refine xi_ineg (pc' := 6) (v := v2) kc_2_5 rfl ev2 ?_
    refine xi_goto (pc' := 10) kc_2_6 rfl ?_
    refine xi_ireturn kc_2_10 mr_2 rfl ?_
    show xw J ov (d + 2) 102 (22, [(0, .int x0)], [.int v2, .int 5], h) _
    refine xi_iconst (pc' := 23) (v := 5) kc_102_22 rfl rfl ?_
    obtain ⟨v3, ev3⟩ : ∃ q : Int32, v2 / 5 = q := ⟨_, rfl⟩
    have dv3 : v3.toInt = (-1) * x0.toInt / 5 := by rw [← ev3]; exact xz_dive (X := (-1) * x0.toInt) (Y := 5) zv2 (by decide) (by omega) (by decide)
    have bv3 : 0 ≤ v3.toInt ∧ v3.toInt ≤ 4 := by omega
    refine xi_idiv (pc' := 24) (v := v3) kc_102_23 rfl ev3 (by decide) ?_
    obtain ⟨v4, ev4⟩ : ∃ q : Int32, 5 - v3 = q := ⟨_, rfl⟩
    have zv4 : v4.toInt = ((-1) * v3.toInt + 5) := by rw [← ev4]; exact (xz_sub (X := 5) (Y := v3.toInt) (by decide) rfl (by omega) (by omega)).trans (by omega)
    refine xi_isub (pc' := 25) (v := v4) kc_102_24 rfl ev4 ?_
    refine xi_istore_n (pc' := 26) (lv' := [(1, .int v4), (0, .int x0)]) kc_102_25 rfl rfl (xm_lt ml_102 rfl) ?_
    refine xi_iload_n (pc' := 27) (x := v4) kc_102_26 rfl rfl ?_
    refine xi_iconst (pc' := 28) (v := 1) kc_102_27 rfl rfl ?_
    refine xi_cmt (pc' := 35) kc_102_28 rfl (xc_ge_t (X := ((-1) * v3.toInt + 5)) (Y := 1) zv4 (by decide) (by omega)) ?_
    refine xi_iload_n (pc' := 36) (x := v4) kc_102_35 rfl rfl ?_
    refine xi_ireturn kc_102_36 mr_102 rfl ?_
    have hb := xho_b b0.1 b0.2
    have hv : (v4 : Int32).toInt = xho x0.toInt := by
      unfold xho
      rw [if_neg (show ¬ 0 ≤ x0.toInt by omega)]
      split <;> omega
    exact kk v4 hv (by omega)
  · refine xi_iff (pc' := 4) kc_102_1 rfl (xc_lt_f (X := x0.toInt) (Y := 0) rfl (by decide) (by omega)) ?_
    refine xi_iconst (pc' := 5) (v := 5) kc_102_4 rfl rfl ?_
    refine xi_iload_n (pc' := 6) (x := x0) kc_102_5 rfl rfl ?_
    refine xi_iconst (pc' := 7) (v := 2) kc_102_6 rfl rfl ?_
    obtain ⟨v5, ev5⟩ : ∃ q : Int32, x0 / 2 = q := ⟨_, rfl⟩
    have dv5 : v5.toInt = x0.toInt / 2 := by rw [← ev5]; exact xz_dive (X := x0.toInt) (Y := 2) rfl (by decide) (by omega) (by decide)
    have bv5 : 0 ≤ v5.toInt ∧ v5.toInt ≤ 49 := by omega
    refine xi_idiv (pc' := 8) (v := v5) kc_102_7 rfl ev5 (by decide) ?_
    obtain ⟨v6, ev6⟩ : ∃ q : Int32, 5 + v5 = q := ⟨_, rfl⟩
    have zv6 : v6.toInt = (v5.toInt + 5) := by rw [← ev6]; exact (xz_add (X := 5) (Y := v5.toInt) (by decide) rfl (by omega) (by omega)).trans (by omega)
    refine xi_iadd (pc' := 9) (v := v6) kc_102_8 rfl ev6 ?_
    refine xi_iload_n (pc' := 10) (x := x0) kc_102_9 rfl rfl ?_
    refine xi_iload_n (pc' := 11) (x := x0) kc_102_10 rfl rfl ?_
    obtain ⟨v7, ev7⟩ : ∃ q : Int32, x0 * x0 = q := ⟨_, rfl⟩
    have pv7 := xprod (a := x0.toInt) (A := 99) (b := x0.toInt) (B := 99) (by omega) (by omega) (by omega) (by omega)
    have zv7 : v7.toInt = x0.toInt * x0.toInt := by rw [← ev7]; exact xz_mul rfl rfl (by omega) (by omega)
    have bv7 : 0 ≤ v7.toInt ∧ v7.toInt ≤ 9801 := by omega
    refine xi_imul (pc' := 12) (v := v7) kc_102_11 rfl ev7 ?_
    refine xi_bipush (pc' := 14) (v := 40) kc_102_12 rfl rfl ?_
    obtain ⟨v8, ev8⟩ : ∃ q : Int32, v7 / 40 = q := ⟨_, rfl⟩
    have dv8 : v8.toInt = v7.toInt / 40 := by rw [← ev8]; exact xz_dive (X := v7.toInt) (Y := 40) rfl (by decide) (by omega) (by decide)
    have bv8 : 0 ≤ v8.toInt ∧ v8.toInt ≤ 245 := by omega
    refine xi_idiv (pc' := 15) (v := v8) kc_102_14 rfl ev8 (by decide) ?_
    obtain ⟨v9, ev9⟩ : ∃ q : Int32, v6 + v8 = q := ⟨_, rfl⟩
    have zv9 : v9.toInt = (v5.toInt + v8.toInt + 5) := by rw [← ev9]; exact (xz_add (X := (v5.toInt + 5)) (Y := v8.toInt) zv6 rfl (by omega) (by omega)).trans (by omega)
    refine xi_iadd (pc' := 16) (v := v9) kc_102_15 rfl ev9 ?_
    refine xi_ireturn kc_102_16 mr_102 rfl ?_
    have hb := xho_b b0.1 b0.2
    have hv : (v9 : Int32).toInt = xho x0.toInt := by
      unfold xho
      rw [if_pos (show 0 ≤ x0.toInt by omega)]
      omega
    exact kk v9 hv (by omega)
set_option maxHeartbeats 4000000 in
theorem xw_chg {J : xe_J} {ov : List (List Int32)} (hJ : ∀ d mj as h, mj ≠ xe_loff → J d mj as h = none) (hov1 : ov[1]? = some [10, 0, 0, 0, 0, 0]) (hov2 : ov[2]? = some [99, 30, 50, 50, 1, 99999]) {d : Nat} {Q : Option Value → xe_H → Prop} {h : xe_H} {st : xFn} {x1 x2 x3 : Int32} (T : xt h) (I : xg6 h st) (b1 : 0 ≤ x1.toInt ∧ x1.toInt ≤ 5) (b2 : 0 ≤ x2.toInt ∧ x2.toInt ≤ 4) (kk : ∀ (r : Int32) (h' : xe_H), r.toInt = st x1.toNatClampNeg x2.toNatClampNeg → xk xP_6 h h' → xg6 h' (xu2 st x1.toNatClampNeg x2.toNatClampNeg x3.toInt) → Q (some (.int r)) h') : xw J ov (d + 2) 92 (0, [(0, .ref 1), (1, .int x1), (2, .int x2), (3, .int x3)], [], h) Q := by
  have K : xk xP_6 h h := xk_re T
  have rx3 := xc_rng x3
  refine xi_iload_n (pc' := 1) (x := x1) kc_92_0 rfl rfl ?_
  refine xi_static (mj := 89) (as := [.int x1]) (st1 := []) (lv0 := [(0, .int x1)]) kc_92_1 rfl rfl (Nat.le_of_ble_eq_true rfl) rfl rfl (Nat.le_of_ble_eq_true rfl) (hJ _ _ _ _ (by decide)) (xm_le ml_89 rfl) rfl ?_
  refine xi_iload_n (pc' := 1) (x := x1) kc_89_0 rfl rfl ?_
  refine xi_iff (pc' := 4) kc_89_1 rfl (xc_lt_f (X := x1.toInt) (Y := 0) rfl (by decide) (by omega)) ?_
  refine xi_iload_n (pc' := 5) (x := x1) kc_89_4 rfl rfl ?_
  refine xi_bipush (pc' := 7) (v := 6) kc_89_5 rfl rfl ?_
  refine xi_cmf (pc' := 10) kc_89_7 rfl (xc_ge_f (X := x1.toInt) (Y := 6) rfl (by decide) (by omega)) ?_
  refine xi_iconst (pc' := 11) (v := 1) kc_89_10 rfl rfl ?_
  refine xi_goto (pc' := 15) kc_89_11 rfl ?_
  refine xi_ireturn kc_89_15 mr_89 rfl ?_
  show xw J ov (d + 2) 92 (4, [(0, .ref 1), (1, .int x1), (2, .int x2), (3, .int x3)], [.int 1], h) _
  refine xi_iff (pc' := 7) kc_92_4 rfl rfl ?_
  refine xi_aload_n (pc' := 8) (x := 1) kc_92_7 rfl rfl ?_
  obtain ⟨u1, u2, bu1, bu2, A3⟩ := xq_1 K.1
  refine xi_getfield (pc' := 11) (v := .ref 2) kc_92_8 rfl rfl rfl A3 rfl ?_
  refine xi_iload_n (pc' := 12) (x := x1) kc_92_11 rfl rfl ?_
  have A4 := xk_ex K.1 xD_2
  by_cases c5 : x1.toInt = 0
  · have qx1 : x1 = 0 := xc_of (Eq.trans (by omega) (show (0 : Int) = (0 : Int32).toInt by decide))
    subst qx1
    refine xi_aaload (pc' := 13) (b := 11) kc_92_12 rfl A4 rfl (xi_in (n := 6) (by decide) (by decide)) rfl ?_
    refine xi_iload_n (pc' := 14) (x := x2) kc_92_13 rfl rfl ?_
    refine xi_iload_n (pc' := 15) (x := x3) kc_92_14 rfl rfl ?_
    have A6 := xq_11 K.1
    refine xi_virtual (mj := 93) (as := [.int x2, .int x3]) (st1 := []) (lv0 := [(0, .ref 11), (1, .int x2), (2, .int x3)]) kc_92_15 rfl rfl rfl rfl rfl A6 (Nat.le_of_ble_eq_true rfl) (hJ _ _ _ _ (by decide)) (xm_le ml_93 rfl) rfl ?_
    refine xi_iload_n (pc' := 1) (x := x2) kc_93_0 rfl rfl ?_
    refine xi_iff (pc' := 4) kc_93_1 rfl (xc_lt_f (X := x2.toInt) (Y := 0) rfl (by decide) (by omega)) ?_
    refine xi_iload_n (pc' := 5) (x := x2) kc_93_4 rfl rfl ?_
    refine xi_iconst (pc' := 6) (v := 5) kc_93_5 rfl rfl ?_
    refine xi_cmt (pc' := 11) kc_93_6 rfl (xc_lt_t (X := x2.toInt) (Y := 5) rfl (by decide) (by omega)) ?_
    refine xi_aload_n (pc' := 12) (x := 11) kc_93_11 rfl rfl ?_
    refine xi_getfield (pc' := 15) (v := .ref 12) kc_93_12 rfl rfl rfl A6 rfl ?_
    refine xi_iload_n (pc' := 16) (x := x2) kc_93_15 rfl rfl ?_
    obtain ⟨y7, A7, hy7, ry7⟩ := xk_arr K.1 xD_12
    have R8 : xrp y7 5 (st 0) := xra_ld I.1 A7
    obtain ⟨v9, ev9, bv9, dv9⟩ := xj_get hy7 ry7 (i := x2) (by omega) (by omega)
    refine xi_iaload (pc' := 17) (v := v9) kc_93_16 rfl A7 (by decide) rfl (xi_in (by omega) (by rw [hy7]; omega)) ev9 ?_
    have hlv9 : v9.toInt = (st 0) (Int32.toNatClampNeg x2) := xrp_ld R8 (by omega) (by omega) ev9
    refine xi_istore_n (pc' := 18) (lv' := [(3, .int v9), (0, .ref 11), (1, .int x2), (2, .int x3)]) kc_93_17 rfl rfl (xm_lt ml_93 rfl) ?_
    refine xi_aload_n (pc' := 19) (x := 11) kc_93_18 rfl rfl ?_
    refine xi_getfield (pc' := 22) (v := .ref 12) kc_93_19 rfl rfl rfl A6 rfl ?_
    refine xi_iload_n (pc' := 23) (x := x2) kc_93_22 rfl rfl ?_
    refine xi_iload_n (pc' := 24) (x := x3) kc_93_23 rfl rfl ?_
    obtain ⟨y10, s10, hy10, ry10⟩ := xj_set (v := x3) hy7 ry7 x2 (by first | omega | decide) (by first | omega | decide)
    refine xi_iastore (pc' := 25) (x' := y10) kc_93_24 rfl A7 rfl (xi_in (by omega) (by rw [hy7]; omega)) s10 (fun hh10 eh10 => ?_)
    have K11 := xk_pa K (xk_wa (by decide +kernel)) xD_12 hy10 ry10 eh10
    have R12 : xrp y10 5 (xup (st 0) (Int32.toNatClampNeg x2) (x3 : Int32).toInt) := xrp_set R8 s10
    refine xi_iload_n (pc' := 26) (x := v9) kc_93_25 rfl rfl ?_
    refine xi_ireturn kc_93_26 mr_93 rfl ?_
    show xw J ov (d + 2) 92 (18, [(0, .ref 1), (1, .int 0), (2, .int x2), (3, .int x3)], [.int v9], hh10) _
    refine xi_goto (pc' := 22) kc_92_18 rfl ?_
    refine xi_ireturn kc_92_22 mr_92 rfl ?_
    have n1 : Int32.toNatClampNeg 0 = 0 := by decide
    rw [n1] at kk
    exact kk v9 hh10 hlv9 K11 (xg6_u0 I (xra_mk eh10.1 R12) (fun c hc => eh10.2.1 c hc))
  by_cases c13 : x1.toInt = 1
  · have qx1 : x1 = 1 := xc_of (Eq.trans (by omega) (show (1 : Int) = (1 : Int32).toInt by decide))
    subst qx1
    refine xi_aaload (pc' := 13) (b := 14) kc_92_12 rfl A4 rfl (xi_in (n := 6) (by decide) (by decide)) rfl ?_
    refine xi_iload_n (pc' := 14) (x := x2) kc_92_13 rfl rfl ?_
    refine xi_iload_n (pc' := 15) (x := x3) kc_92_14 rfl rfl ?_
    have A14 := xq_14 K.1
    refine xi_virtual (mj := 93) (as := [.int x2, .int x3]) (st1 := []) (lv0 := [(0, .ref 14), (1, .int x2), (2, .int x3)]) kc_92_15 rfl rfl rfl rfl rfl A14 (Nat.le_of_ble_eq_true rfl) (hJ _ _ _ _ (by decide)) (xm_le ml_93 rfl) rfl ?_
    refine xi_iload_n (pc' := 1) (x := x2) kc_93_0 rfl rfl ?_
    refine xi_iff (pc' := 4) kc_93_1 rfl (xc_lt_f (X := x2.toInt) (Y := 0) rfl (by decide) (by omega)) ?_
    refine xi_iload_n (pc' := 5) (x := x2) kc_93_4 rfl rfl ?_
    refine xi_iconst (pc' := 6) (v := 5) kc_93_5 rfl rfl ?_
    refine xi_cmt (pc' := 11) kc_93_6 rfl (xc_lt_t (X := x2.toInt) (Y := 5) rfl (by decide) (by omega)) ?_
    refine xi_aload_n (pc' := 12) (x := 14) kc_93_11 rfl rfl ?_
    refine xi_getfield (pc' := 15) (v := .ref 15) kc_93_12 rfl rfl rfl A14 rfl ?_
    refine xi_iload_n (pc' := 16) (x := x2) kc_93_15 rfl rfl ?_
    obtain ⟨y15, A15, hy15, ry15⟩ := xk_arr K.1 xD_15
    have R16 : xrp y15 5 (st 1) := xra_ld I.2.1 A15
    obtain ⟨v17, ev17, bv17, dv17⟩ := xj_get hy15 ry15 (i := x2) (by omega) (by omega)
    refine xi_iaload (pc' := 17) (v := v17) kc_93_16 rfl A15 (by decide) rfl (xi_in (by omega) (by rw [hy15]; omega)) ev17 ?_
    have hlv17 : v17.toInt = (st 1) (Int32.toNatClampNeg x2) := xrp_ld R16 (by omega) (by omega) ev17
    refine xi_istore_n (pc' := 18) (lv' := [(3, .int v17), (0, .ref 14), (1, .int x2), (2, .int x3)]) kc_93_17 rfl rfl (xm_lt ml_93 rfl) ?_
    refine xi_aload_n (pc' := 19) (x := 14) kc_93_18 rfl rfl ?_
    refine xi_getfield (pc' := 22) (v := .ref 15) kc_93_19 rfl rfl rfl A14 rfl ?_
    refine xi_iload_n (pc' := 23) (x := x2) kc_93_22 rfl rfl ?_
    refine xi_iload_n (pc' := 24) (x := x3) kc_93_23 rfl rfl ?_
    obtain ⟨y18, s18, hy18, ry18⟩ := xj_set (v := x3) hy15 ry15 x2 (by first | omega | decide) (by first | omega | decide)
    refine xi_iastore (pc' := 25) (x' := y18) kc_93_24 rfl A15 rfl (xi_in (by omega) (by rw [hy15]; omega)) s18 (fun hh18 eh18 => ?_)
    have K19 := xk_pa K (xk_wa (by decide +kernel)) xD_15 hy18 ry18 eh18
    have R20 : xrp y18 5 (xup (st 1) (Int32.toNatClampNeg x2) (x3 : Int32).toInt) := xrp_set R16 s18
    refine xi_iload_n (pc' := 26) (x := v17) kc_93_25 rfl rfl ?_
    refine xi_ireturn kc_93_26 mr_93 rfl ?_
    show xw J ov (d + 2) 92 (18, [(0, .ref 1), (1, .int 1), (2, .int x2), (3, .int x3)], [.int v17], hh18) _
    refine xi_goto (pc' := 22) kc_92_18 rfl ?_
    refine xi_ireturn kc_92_22 mr_92 rfl ?_
    have n1 : Int32.toNatClampNeg 1 = 1 := by decide
    rw [n1] at kk
    exact kk v17 hh18 hlv17 K19 (xg6_u1 I (xra_mk eh18.1 R20) (fun c hc => eh18.2.1 c hc))
  by_cases c21 : x1.toInt = 2
  · have qx1 : x1 = 2 := xc_of (Eq.trans (by omega) (show (2 : Int) = (2 : Int32).toInt by decide))
    subst qx1
    refine xi_aaload (pc' := 13) (b := 17) kc_92_12 rfl A4 rfl (xi_in (n := 6) (by decide) (by decide)) rfl ?_
    refine xi_iload_n (pc' := 14) (x := x2) kc_92_13 rfl rfl ?_
    refine xi_iload_n (pc' := 15) (x := x3) kc_92_14 rfl rfl ?_
    have A22 := xq_17 K.1
    refine xi_virtual (mj := 93) (as := [.int x2, .int x3]) (st1 := []) (lv0 := [(0, .ref 17), (1, .int x2), (2, .int x3)]) kc_92_15 rfl rfl rfl rfl rfl A22 (Nat.le_of_ble_eq_true rfl) (hJ _ _ _ _ (by decide)) (xm_le ml_93 rfl) rfl ?_
    refine xi_iload_n (pc' := 1) (x := x2) kc_93_0 rfl rfl ?_
    refine xi_iff (pc' := 4) kc_93_1 rfl (xc_lt_f (X := x2.toInt) (Y := 0) rfl (by decide) (by omega)) ?_
    refine xi_iload_n (pc' := 5) (x := x2) kc_93_4 rfl rfl ?_
    refine xi_iconst (pc' := 6) (v := 5) kc_93_5 rfl rfl ?_
    refine xi_cmt (pc' := 11) kc_93_6 rfl (xc_lt_t (X := x2.toInt) (Y := 5) rfl (by decide) (by omega)) ?_
    refine xi_aload_n (pc' := 12) (x := 17) kc_93_11 rfl rfl ?_
    refine xi_getfield (pc' := 15) (v := .ref 18) kc_93_12 rfl rfl rfl A22 rfl ?_
    refine xi_iload_n (pc' := 16) (x := x2) kc_93_15 rfl rfl ?_
    obtain ⟨y23, A23, hy23, ry23⟩ := xk_arr K.1 xD_18
    have R24 : xrp y23 5 (st 2) := xra_ld I.2.2.1 A23
    obtain ⟨v25, ev25, bv25, dv25⟩ := xj_get hy23 ry23 (i := x2) (by omega) (by omega)
    refine xi_iaload (pc' := 17) (v := v25) kc_93_16 rfl A23 (by decide) rfl (xi_in (by omega) (by rw [hy23]; omega)) ev25 ?_
    have hlv25 : v25.toInt = (st 2) (Int32.toNatClampNeg x2) := xrp_ld R24 (by omega) (by omega) ev25
    refine xi_istore_n (pc' := 18) (lv' := [(3, .int v25), (0, .ref 17), (1, .int x2), (2, .int x3)]) kc_93_17 rfl rfl (xm_lt ml_93 rfl) ?_
    refine xi_aload_n (pc' := 19) (x := 17) kc_93_18 rfl rfl ?_
    refine xi_getfield (pc' := 22) (v := .ref 18) kc_93_19 rfl rfl rfl A22 rfl ?_
    refine xi_iload_n (pc' := 23) (x := x2) kc_93_22 rfl rfl ?_
    refine xi_iload_n (pc' := 24) (x := x3) kc_93_23 rfl rfl ?_
    obtain ⟨y26, s26, hy26, ry26⟩ := xj_set (v := x3) hy23 ry23 x2 (by first | omega | decide) (by first | omega | decide)
    refine xi_iastore (pc' := 25) (x' := y26) kc_93_24 rfl A23 rfl (xi_in (by omega) (by rw [hy23]; omega)) s26 (fun hh26 eh26 => ?_)
    have K27 := xk_pa K (xk_wa (by decide +kernel)) xD_18 hy26 ry26 eh26
    have R28 : xrp y26 5 (xup (st 2) (Int32.toNatClampNeg x2) (x3 : Int32).toInt) := xrp_set R24 s26
    refine xi_iload_n (pc' := 26) (x := v25) kc_93_25 rfl rfl ?_
    refine xi_ireturn kc_93_26 mr_93 rfl ?_
    show xw J ov (d + 2) 92 (18, [(0, .ref 1), (1, .int 2), (2, .int x2), (3, .int x3)], [.int v25], hh26) _
    refine xi_goto (pc' := 22) kc_92_18 rfl ?_
    refine xi_ireturn kc_92_22 mr_92 rfl ?_
    have n1 : Int32.toNatClampNeg 2 = 2 := by decide
    rw [n1] at kk
    exact kk v25 hh26 hlv25 K27 (xg6_u2 I (xra_mk eh26.1 R28) (fun c hc => eh26.2.1 c hc))
  by_cases c29 : x1.toInt = 3
  · have qx1 : x1 = 3 := xc_of (Eq.trans (by omega) (show (3 : Int) = (3 : Int32).toInt by decide))
    subst qx1
    refine xi_aaload (pc' := 13) (b := 20) kc_92_12 rfl A4 rfl (xi_in (n := 6) (by decide) (by decide)) rfl ?_
    refine xi_iload_n (pc' := 14) (x := x2) kc_92_13 rfl rfl ?_
    refine xi_iload_n (pc' := 15) (x := x3) kc_92_14 rfl rfl ?_
    have A30 := xq_20 K.1
    refine xi_virtual (mj := 93) (as := [.int x2, .int x3]) (st1 := []) (lv0 := [(0, .ref 20), (1, .int x2), (2, .int x3)]) kc_92_15 rfl rfl rfl rfl rfl A30 (Nat.le_of_ble_eq_true rfl) (hJ _ _ _ _ (by decide)) (xm_le ml_93 rfl) rfl ?_
    refine xi_iload_n (pc' := 1) (x := x2) kc_93_0 rfl rfl ?_
    refine xi_iff (pc' := 4) kc_93_1 rfl (xc_lt_f (X := x2.toInt) (Y := 0) rfl (by decide) (by omega)) ?_
    refine xi_iload_n (pc' := 5) (x := x2) kc_93_4 rfl rfl ?_
    refine xi_iconst (pc' := 6) (v := 5) kc_93_5 rfl rfl ?_
    refine xi_cmt (pc' := 11) kc_93_6 rfl (xc_lt_t (X := x2.toInt) (Y := 5) rfl (by decide) (by omega)) ?_
    refine xi_aload_n (pc' := 12) (x := 20) kc_93_11 rfl rfl ?_
    refine xi_getfield (pc' := 15) (v := .ref 21) kc_93_12 rfl rfl rfl A30 rfl ?_
    refine xi_iload_n (pc' := 16) (x := x2) kc_93_15 rfl rfl ?_
    obtain ⟨y31, A31, hy31, ry31⟩ := xk_arr K.1 xD_21
    have R32 : xrp y31 5 (st 3) := xra_ld I.2.2.2.1 A31
    obtain ⟨v33, ev33, bv33, dv33⟩ := xj_get hy31 ry31 (i := x2) (by omega) (by omega)
    refine xi_iaload (pc' := 17) (v := v33) kc_93_16 rfl A31 (by decide) rfl (xi_in (by omega) (by rw [hy31]; omega)) ev33 ?_
    have hlv33 : v33.toInt = (st 3) (Int32.toNatClampNeg x2) := xrp_ld R32 (by omega) (by omega) ev33
    refine xi_istore_n (pc' := 18) (lv' := [(3, .int v33), (0, .ref 20), (1, .int x2), (2, .int x3)]) kc_93_17 rfl rfl (xm_lt ml_93 rfl) ?_
    refine xi_aload_n (pc' := 19) (x := 20) kc_93_18 rfl rfl ?_
    refine xi_getfield (pc' := 22) (v := .ref 21) kc_93_19 rfl rfl rfl A30 rfl ?_
    refine xi_iload_n (pc' := 23) (x := x2) kc_93_22 rfl rfl ?_
    refine xi_iload_n (pc' := 24) (x := x3) kc_93_23 rfl rfl ?_
    obtain ⟨y34, s34, hy34, ry34⟩ := xj_set (v := x3) hy31 ry31 x2 (by first | omega | decide) (by first | omega | decide)
    refine xi_iastore (pc' := 25) (x' := y34) kc_93_24 rfl A31 rfl (xi_in (by omega) (by rw [hy31]; omega)) s34 (fun hh34 eh34 => ?_)
    have K35 := xk_pa K (xk_wa (by decide +kernel)) xD_21 hy34 ry34 eh34
    have R36 : xrp y34 5 (xup (st 3) (Int32.toNatClampNeg x2) (x3 : Int32).toInt) := xrp_set R32 s34
    refine xi_iload_n (pc' := 26) (x := v33) kc_93_25 rfl rfl ?_
    refine xi_ireturn kc_93_26 mr_93 rfl ?_
    show xw J ov (d + 2) 92 (18, [(0, .ref 1), (1, .int 3), (2, .int x2), (3, .int x3)], [.int v33], hh34) _
    refine xi_goto (pc' := 22) kc_92_18 rfl ?_
    refine xi_ireturn kc_92_22 mr_92 rfl ?_
    have n1 : Int32.toNatClampNeg 3 = 3 := by decide
    rw [n1] at kk
    exact kk v33 hh34 hlv33 K35 (xg6_u3 I (xra_mk eh34.1 R36) (fun c hc => eh34.2.1 c hc))
  by_cases c37 : x1.toInt = 4
  · have qx1 : x1 = 4 := xc_of (Eq.trans (by omega) (show (4 : Int) = (4 : Int32).toInt by decide))
    subst qx1
    refine xi_aaload (pc' := 13) (b := 23) kc_92_12 rfl A4 rfl (xi_in (n := 6) (by decide) (by decide)) rfl ?_
    refine xi_iload_n (pc' := 14) (x := x2) kc_92_13 rfl rfl ?_
    refine xi_iload_n (pc' := 15) (x := x3) kc_92_14 rfl rfl ?_
    have A38 := xq_23 K.1
    refine xi_virtual (mj := 93) (as := [.int x2, .int x3]) (st1 := []) (lv0 := [(0, .ref 23), (1, .int x2), (2, .int x3)]) kc_92_15 rfl rfl rfl rfl rfl A38 (Nat.le_of_ble_eq_true rfl) (hJ _ _ _ _ (by decide)) (xm_le ml_93 rfl) rfl ?_
    refine xi_iload_n (pc' := 1) (x := x2) kc_93_0 rfl rfl ?_
    refine xi_iff (pc' := 4) kc_93_1 rfl (xc_lt_f (X := x2.toInt) (Y := 0) rfl (by decide) (by omega)) ?_
    refine xi_iload_n (pc' := 5) (x := x2) kc_93_4 rfl rfl ?_
    refine xi_iconst (pc' := 6) (v := 5) kc_93_5 rfl rfl ?_
    refine xi_cmt (pc' := 11) kc_93_6 rfl (xc_lt_t (X := x2.toInt) (Y := 5) rfl (by decide) (by omega)) ?_
    refine xi_aload_n (pc' := 12) (x := 23) kc_93_11 rfl rfl ?_
    refine xi_getfield (pc' := 15) (v := .ref 24) kc_93_12 rfl rfl rfl A38 rfl ?_
    refine xi_iload_n (pc' := 16) (x := x2) kc_93_15 rfl rfl ?_
    obtain ⟨y39, A39, hy39, ry39⟩ := xk_arr K.1 xD_24
    have R40 : xrp y39 5 (st 4) := xra_ld I.2.2.2.2.1 A39
    obtain ⟨v41, ev41, bv41, dv41⟩ := xj_get hy39 ry39 (i := x2) (by omega) (by omega)
    refine xi_iaload (pc' := 17) (v := v41) kc_93_16 rfl A39 (by decide) rfl (xi_in (by omega) (by rw [hy39]; omega)) ev41 ?_
    have hlv41 : v41.toInt = (st 4) (Int32.toNatClampNeg x2) := xrp_ld R40 (by omega) (by omega) ev41
    refine xi_istore_n (pc' := 18) (lv' := [(3, .int v41), (0, .ref 23), (1, .int x2), (2, .int x3)]) kc_93_17 rfl rfl (xm_lt ml_93 rfl) ?_
    refine xi_aload_n (pc' := 19) (x := 23) kc_93_18 rfl rfl ?_
    refine xi_getfield (pc' := 22) (v := .ref 24) kc_93_19 rfl rfl rfl A38 rfl ?_
    refine xi_iload_n (pc' := 23) (x := x2) kc_93_22 rfl rfl ?_
    refine xi_iload_n (pc' := 24) (x := x3) kc_93_23 rfl rfl ?_
    obtain ⟨y42, s42, hy42, ry42⟩ := xj_set (v := x3) hy39 ry39 x2 (by first | omega | decide) (by first | omega | decide)
    refine xi_iastore (pc' := 25) (x' := y42) kc_93_24 rfl A39 rfl (xi_in (by omega) (by rw [hy39]; omega)) s42 (fun hh42 eh42 => ?_)
    have K43 := xk_pa K (xk_wa (by decide +kernel)) xD_24 hy42 ry42 eh42
    have R44 : xrp y42 5 (xup (st 4) (Int32.toNatClampNeg x2) (x3 : Int32).toInt) := xrp_set R40 s42
    refine xi_iload_n (pc' := 26) (x := v41) kc_93_25 rfl rfl ?_
    refine xi_ireturn kc_93_26 mr_93 rfl ?_
    show xw J ov (d + 2) 92 (18, [(0, .ref 1), (1, .int 4), (2, .int x2), (3, .int x3)], [.int v41], hh42) _
    refine xi_goto (pc' := 22) kc_92_18 rfl ?_
    refine xi_ireturn kc_92_22 mr_92 rfl ?_
    have n1 : Int32.toNatClampNeg 4 = 4 := by decide
    rw [n1] at kk
    exact kk v41 hh42 hlv41 K43 (xg6_u4 I (xra_mk eh42.1 R44) (fun c hc => eh42.2.1 c hc))
  have qx1 : x1 = 5 := xc_of (Eq.trans (by omega) (show (5 : Int) = (5 : Int32).toInt by decide))
  subst qx1
  refine xi_aaload (pc' := 13) (b := 26) kc_92_12 rfl A4 rfl (xi_in (n := 6) (by decide) (by decide)) rfl ?_
  refine xi_iload_n (pc' := 14) (x := x2) kc_92_13 rfl rfl ?_
  refine xi_iload_n (pc' := 15) (x := x3) kc_92_14 rfl rfl ?_
  have A45 := xq_26 K.1
  refine xi_virtual (mj := 93) (as := [.int x2, .int x3]) (st1 := []) (lv0 := [(0, .ref 26), (1, .int x2), (2, .int x3)]) kc_92_15 rfl rfl rfl rfl rfl A45 (Nat.le_of_ble_eq_true rfl) (hJ _ _ _ _ (by decide)) (xm_le ml_93 rfl) rfl ?_
  refine xi_iload_n (pc' := 1) (x := x2) kc_93_0 rfl rfl ?_
  refine xi_iff (pc' := 4) kc_93_1 rfl (xc_lt_f (X := x2.toInt) (Y := 0) rfl (by decide) (by omega)) ?_
  refine xi_iload_n (pc' := 5) (x := x2) kc_93_4 rfl rfl ?_
  refine xi_iconst (pc' := 6) (v := 5) kc_93_5 rfl rfl ?_
  refine xi_cmt (pc' := 11) kc_93_6 rfl (xc_lt_t (X := x2.toInt) (Y := 5) rfl (by decide) (by omega)) ?_
  refine xi_aload_n (pc' := 12) (x := 26) kc_93_11 rfl rfl ?_
  refine xi_getfield (pc' := 15) (v := .ref 27) kc_93_12 rfl rfl rfl A45 rfl ?_
  refine xi_iload_n (pc' := 16) (x := x2) kc_93_15 rfl rfl ?_
  obtain ⟨y46, A46, hy46, ry46⟩ := xk_arr K.1 xD_27
  have R47 : xrp y46 5 (st 5) := xra_ld I.2.2.2.2.2 A46
  obtain ⟨v48, ev48, bv48, dv48⟩ := xj_get hy46 ry46 (i := x2) (by omega) (by omega)
  refine xi_iaload (pc' := 17) (v := v48) kc_93_16 rfl A46 (by decide) rfl (xi_in (by omega) (by rw [hy46]; omega)) ev48 ?_
  have hlv48 : v48.toInt = (st 5) (Int32.toNatClampNeg x2) := xrp_ld R47 (by omega) (by omega) ev48
  refine xi_istore_n (pc' := 18) (lv' := [(3, .int v48), (0, .ref 26), (1, .int x2), (2, .int x3)]) kc_93_17 rfl rfl (xm_lt ml_93 rfl) ?_
  refine xi_aload_n (pc' := 19) (x := 26) kc_93_18 rfl rfl ?_
  refine xi_getfield (pc' := 22) (v := .ref 27) kc_93_19 rfl rfl rfl A45 rfl ?_
  refine xi_iload_n (pc' := 23) (x := x2) kc_93_22 rfl rfl ?_
  refine xi_iload_n (pc' := 24) (x := x3) kc_93_23 rfl rfl ?_
  obtain ⟨y49, s49, hy49, ry49⟩ := xj_set (v := x3) hy46 ry46 x2 (by first | omega | decide) (by first | omega | decide)
  refine xi_iastore (pc' := 25) (x' := y49) kc_93_24 rfl A46 rfl (xi_in (by omega) (by rw [hy46]; omega)) s49 (fun hh49 eh49 => ?_)
  have K50 := xk_pa K (xk_wa (by decide +kernel)) xD_27 hy49 ry49 eh49
  have R51 : xrp y49 5 (xup (st 5) (Int32.toNatClampNeg x2) (x3 : Int32).toInt) := xrp_set R47 s49
  refine xi_iload_n (pc' := 26) (x := v48) kc_93_25 rfl rfl ?_
  refine xi_ireturn kc_93_26 mr_93 rfl ?_
  show xw J ov (d + 2) 92 (18, [(0, .ref 1), (1, .int 5), (2, .int x2), (3, .int x3)], [.int v48], hh49) _
  refine xi_goto (pc' := 22) kc_92_18 rfl ?_
  refine xi_ireturn kc_92_22 mr_92 rfl ?_
  have n1 : Int32.toNatClampNeg 5 = 5 := by decide
  rw [n1] at kk
  exact kk v48 hh49 hlv48 K50 (xg6_u5 I (xra_mk eh49.1 R51) (fun c hc => eh49.2.1 c hc))
set_option maxHeartbeats 4000000 in
theorem bt_lp {J : xe_J} {ov : List (List Int32)} (hJ : ∀ d mj as h, mj ≠ xe_loff → J d mj as h = none) (hov1 : ov[1]? = some [10, 0, 0, 0, 0, 0]) (hov2 : ov[2]? = some [99, 30, 50, 50, 1, 99999]) {d : Nat} {Q : Option Value → xe_H → Prop} {hb : xe_H} {C st : xFn} {wz : Nat → Int} {hr : Int} (C0 : xcX hb C) (hC : xcr C) (Fh : xfi hb 0 9 hr) (kk : ∀ h' : xe_H, xk xP_4 hb h' → xg6 h' (xtb C hr st wz (C 12 0).toNat).1 → xgf h' xG_trial 5 (xtb C hr st wz (C 12 0).toNat).2 → Q none h') : ∀ (m : Nat) (x1 : Int32) (h : xe_H), (0 ≤ x1.toInt ∧ x1.toInt ≤ C 12 0) → xk xP_4 hb h → xg6 h (xtb C hr st wz x1.toNatClampNeg).1 → xgf h xG_trial 5 (xtb C hr st wz x1.toNatClampNeg).2 → 20 - x1.toInt < (m : Int) → xw J ov (d + 3) 123 (2, [(0, .ref 0), (1, .int x1)], [], h) Q := by
  intro m
  induction m with
  | zero => intro x1 h b1 K I6 IB hm; have c12 := hC.2.1; exfalso; omega
  | succ m ih =>
    intro x1 h b1 K I6 IB hm
    have c12 := hC.2.1
    have qx1 := xj_tn b1.1
    refine xi_iload_n (pc' := 3) (x := x1) kc_123_2 rfl rfl ?_
    refine xi_aload_n (pc' := 4) (x := 0) kc_123_3 rfl rfl ?_
    obtain ⟨u1, u2, bu1, bu2, A3⟩ := xq_0 K.1
    have C4 : xcX h C := xcX_k C0 K (by decide +kernel)
    have hfu1 : u1.toInt = (C 12 0) := xfi_ld C4.2.1 A3 rfl
    have hfu2 : u2.toInt = hr := xfi_ld (xfi_fr Fh (K.2.1 (0, 9) (by decide +kernel))) A3 rfl
    refine xi_getfield (pc' := 7) (v := .int u1) kc_123_4 rfl rfl rfl A3 rfl ?_
    by_cases c5 : u1.toInt ≤ x1.toInt
    · refine xi_cmt (pc' := 63) kc_123_7 rfl (xc_ge_t (X := x1.toInt) (Y := u1.toInt) rfl rfl (by omega)) ?_
      refine xi_return kc_123_63 mr_123 ?_
      have en : x1.toNatClampNeg = (C 12 0).toNat := by omega
      rw [en] at I6 IB
      exact kk h K I6 IB
    · refine xi_cmf (pc' := 10) kc_123_7 rfl (xc_ge_f (X := x1.toInt) (Y := u1.toInt) rfl rfl (by omega)) ?_
      refine xi_iload_n (pc' := 11) (x := x1) kc_123_10 rfl rfl ?_
      refine xi_bipush (pc' := 13) (v := 20) kc_123_11 rfl rfl ?_
      refine xi_cmf (pc' := 16) kc_123_13 rfl (xc_ge_f (X := x1.toInt) (Y := 20) rfl (by decide) (by omega)) ?_
      refine xi_aload_n (pc' := 17) (x := 0) kc_123_16 rfl rfl ?_
      refine xi_getfield (pc' := 20) (v := .ref 93) kc_123_17 rfl rfl rfl A3 rfl ?_
      refine xi_iload_n (pc' := 21) (x := x1) kc_123_20 rfl rfl ?_
      have A6 := xk_ex K.1 xD_93
      obtain ⟨pt7, ept7, mpt7⟩ := xR_93 (i := x1) (by omega) (by omega)
      refine xj_aaload (pc' := 22) (b := pt7) kc_123_21 rfl A6 rfl (xi_in (n := 20) (by omega) (by omega)) ept7 ?_
      refine xi_astore_n (pc' := 23) (lv' := [(2, .ref pt7), (0, .ref 0), (1, .int x1)]) kc_123_22 rfl rfl (xm_lt ml_123 rfl) ?_
      refine xi_aload_n (pc' := 24) (x := pt7) kc_123_23 rfl rfl ?_
      obtain ⟨u8, u9, u10, u11, u12, u13, bu8, bu9, bu10, bu11, bu12, bu13, A14⟩ := xg_trial K.1 mpt7
      have hfu8 : u8.toInt = (C 5) (Int32.toNatClampNeg x1) := xgf_ld (Lo := [some 95, some 96, some 97, some 98, some 99, some 100, some 101, some 102, some 103, some 104, some 105, some 106, some 107, some 108, some 109, some 110, some 111, some 112, some 113, some 114]) C4.2.2.2.2.2.2.2.2.2.2.2.2.2.2.1 rfl ept7 (by omega) (by show _ < ((20 : Nat) : Int); omega) A14 rfl
      have hfu11 : u11.toInt = (C 6) (Int32.toNatClampNeg x1) := xgf_ld (Lo := [some 95, some 96, some 97, some 98, some 99, some 100, some 101, some 102, some 103, some 104, some 105, some 106, some 107, some 108, some 109, some 110, some 111, some 112, some 113, some 114]) C4.2.2.2.2.2.2.2.2.2.2.2.2.2.2.2.1 rfl ept7 (by omega) (by show _ < ((20 : Nat) : Int); omega) A14 rfl
      have hfu12 : u12.toInt = (C 7) (Int32.toNatClampNeg x1) := xgf_ld (Lo := [some 95, some 96, some 97, some 98, some 99, some 100, some 101, some 102, some 103, some 104, some 105, some 106, some 107, some 108, some 109, some 110, some 111, some 112, some 113, some 114]) C4.2.2.2.2.2.2.2.2.2.2.2.2.2.2.2.2.1 rfl ept7 (by omega) (by show _ < ((20 : Nat) : Int); omega) A14 rfl
      have hfu9 : u9.toInt = (C 8) (Int32.toNatClampNeg x1) := xgf_ld (Lo := [some 95, some 96, some 97, some 98, some 99, some 100, some 101, some 102, some 103, some 104, some 105, some 106, some 107, some 108, some 109, some 110, some 111, some 112, some 113, some 114]) C4.2.2.2.2.2.2.2.2.2.2.2.2.2.2.2.2.2.1 rfl ept7 (by omega) (by show _ < ((20 : Nat) : Int); omega) A14 rfl
      have hfu10 : u10.toInt = (C 9) (Int32.toNatClampNeg x1) := xgf_ld (Lo := [some 95, some 96, some 97, some 98, some 99, some 100, some 101, some 102, some 103, some 104, some 105, some 106, some 107, some 108, some 109, some 110, some 111, some 112, some 113, some 114]) C4.2.2.2.2.2.2.2.2.2.2.2.2.2.2.2.2.2.2.1 rfl ept7 (by omega) (by show _ < ((20 : Nat) : Int); omega) A14 rfl
      have hfu13 : u13.toInt = (xtb C hr st wz x1.toNatClampNeg).2 (Int32.toNatClampNeg x1) := xgf_ld (Lo := [some 95, some 96, some 97, some 98, some 99, some 100, some 101, some 102, some 103, some 104, some 105, some 106, some 107, some 108, some 109, some 110, some 111, some 112, some 113, some 114]) IB rfl ept7 (by omega) (by show _ < ((20 : Nat) : Int); omega) A14 rfl
      refine xi_getfield (pc' := 27) (v := .int u11) kc_123_24 rfl rfl rfl A14 rfl ?_
      refine xi_aload_n (pc' := 28) (x := 0) kc_123_27 rfl rfl ?_
      refine xi_getfield (pc' := 31) (v := .int u2) kc_123_28 rfl rfl rfl A3 rfl ?_
      by_cases c15 : u11.toInt = u2.toInt
      · refine xi_cmf (pc' := 34) kc_123_31 rfl (xc_ne_f (X := u11.toInt) (Y := u2.toInt) rfl rfl (by omega)) ?_
        refine xi_aload_n (pc' := 35) (x := pt7) kc_123_34 rfl rfl ?_
        refine xi_aload_n (pc' := 36) (x := 0) kc_123_35 rfl rfl ?_
        refine xi_getfield (pc' := 39) (v := .ref 1) kc_123_36 rfl rfl rfl A3 rfl ?_
        refine xi_aload_n (pc' := 40) (x := pt7) kc_123_39 rfl rfl ?_
        refine xi_getfield (pc' := 43) (v := .int u8) kc_123_40 rfl rfl rfl A14 rfl ?_
        refine xi_aload_n (pc' := 44) (x := pt7) kc_123_43 rfl rfl ?_
        refine xi_getfield (pc' := 47) (v := .int u9) kc_123_44 rfl rfl rfl A14 rfl ?_
        refine xi_aload_n (pc' := 48) (x := pt7) kc_123_47 rfl rfl ?_
        refine xi_getfield (pc' := 51) (v := .int u10) kc_123_48 rfl rfl rfl A14 rfl ?_
        obtain ⟨u16, u17, bu16, bu17, A18⟩ := xq_1 K.1
        have hfu16 : u16.toInt = (C 11 0) := xfi_ld C4.1 A18 rfl
        refine xi_virtual (mj := 92) (as := [.int u8, .int u9, .int u10]) (st1 := [.ref pt7]) (lv0 := [(0, .ref 1), (1, .int u8), (2, .int u9), (3, .int u10)]) kc_123_51 rfl rfl rfl rfl rfl A18 (Nat.le_of_ble_eq_true rfl) (hJ _ _ _ _ (by decide)) (xm_le ml_92 rfl) rfl ?_
        have hci := hC.2.2.2.1 x1.toNatClampNeg (by omega)
        refine xw_chg hJ hov1 hov2 (d := d) (x1 := u8) (x2 := u9) (x3 := u10) K.1 I6 (by omega) (by omega) (fun r19 hh20 hr19 K21 I22 => ?_)
        have rr19 := xc_rng r19
        have K23 := xk_tr K K21 (xsb_ok _ _ (by decide +kernel))
        obtain ⟨u24, u25, bu24, bu25, A26⟩ := xq_0 K23.1
        have C27 : xcX hh20 C := xcX_k C0 K23 (by decide +kernel)
        have hfu24 : u24.toInt = (C 12 0) := xfi_ld C27.2.1 A26 rfl
        have hfu25 : u25.toInt = hr := xfi_ld (xfi_fr Fh (K23.2.1 (0, 9) (by decide +kernel))) A26 rfl
        have e28 : u2 = u25 := xk_eqi (q := 9) K21 (by decide +kernel) A3 A26 rfl rfl
        subst e28
        have e29 : u1 = u24 := xk_eqi (q := 8) K21 (by decide +kernel) A3 A26 rfl rfl
        subst e29
        obtain ⟨u30, u31, bu30, bu31, A32⟩ := xq_1 K23.1
        have hfu30 : u30.toInt = (C 11 0) := xfi_ld C27.1 A32 rfl
        have e33 : u16 = u30 := xk_eqi (q := 5) K21 (by decide +kernel) A18 A32 rfl rfl
        subst e33
        show xw J ov (d + 3) 123 (54, [(2, .ref pt7), (0, .ref 0), (1, .int x1)], [.int r19, .ref pt7], hh20) _
        obtain ⟨u34, u35, u36, u37, u38, u39, bu34, bu35, bu36, bu37, bu38, bu39, A40⟩ := xg_trial K23.1 mpt7
        have hfu34 : u34.toInt = (C 5) (Int32.toNatClampNeg x1) := xgf_ld (Lo := [some 95, some 96, some 97, some 98, some 99, some 100, some 101, some 102, some 103, some 104, some 105, some 106, some 107, some 108, some 109, some 110, some 111, some 112, some 113, some 114]) C27.2.2.2.2.2.2.2.2.2.2.2.2.2.2.1 rfl ept7 (by omega) (by show _ < ((20 : Nat) : Int); omega) A40 rfl
        have hfu37 : u37.toInt = (C 6) (Int32.toNatClampNeg x1) := xgf_ld (Lo := [some 95, some 96, some 97, some 98, some 99, some 100, some 101, some 102, some 103, some 104, some 105, some 106, some 107, some 108, some 109, some 110, some 111, some 112, some 113, some 114]) C27.2.2.2.2.2.2.2.2.2.2.2.2.2.2.2.1 rfl ept7 (by omega) (by show _ < ((20 : Nat) : Int); omega) A40 rfl
        have hfu38 : u38.toInt = (C 7) (Int32.toNatClampNeg x1) := xgf_ld (Lo := [some 95, some 96, some 97, some 98, some 99, some 100, some 101, some 102, some 103, some 104, some 105, some 106, some 107, some 108, some 109, some 110, some 111, some 112, some 113, some 114]) C27.2.2.2.2.2.2.2.2.2.2.2.2.2.2.2.2.1 rfl ept7 (by omega) (by show _ < ((20 : Nat) : Int); omega) A40 rfl
        have hfu35 : u35.toInt = (C 8) (Int32.toNatClampNeg x1) := xgf_ld (Lo := [some 95, some 96, some 97, some 98, some 99, some 100, some 101, some 102, some 103, some 104, some 105, some 106, some 107, some 108, some 109, some 110, some 111, some 112, some 113, some 114]) C27.2.2.2.2.2.2.2.2.2.2.2.2.2.2.2.2.2.1 rfl ept7 (by omega) (by show _ < ((20 : Nat) : Int); omega) A40 rfl
        have hfu36 : u36.toInt = (C 9) (Int32.toNatClampNeg x1) := xgf_ld (Lo := [some 95, some 96, some 97, some 98, some 99, some 100, some 101, some 102, some 103, some 104, some 105, some 106, some 107, some 108, some 109, some 110, some 111, some 112, some 113, some 114]) C27.2.2.2.2.2.2.2.2.2.2.2.2.2.2.2.2.2.2.1 rfl ept7 (by omega) (by show _ < ((20 : Nat) : Int); omega) A40 rfl
        refine xi_putfield (pc' := 57) (fs' := [.int u34, .int u35, .int u36, .int u37, .int u38, .int r19]) kc_123_54 rfl rfl rfl A40 rfl rfl rfl (Nat.le_of_ble_eq_true rfl) rfl (fun hh42 eh41 => ?_)
        obtain ⟨ds43, Dds43, dds43_0, dds43_1, dds43_2, dds43_3, dds43_4, dds43_5⟩ := xGo_trial mpt7
        have K44 := xk_pf (k := 5) (v := r19) K23 (xk_gf mpt7 (by decide +kernel)) Dds43 A40 dds43_5 (by first | omega | decide) (by first | omega | decide) eh41 rfl
        obtain ⟨v45, ev45⟩ : ∃ q : Int32, x1 + 1 = q := ⟨_, rfl⟩
        have zv45 : v45.toInt = (x1.toInt + 1) := by rw [← ev45]; exact (xz_add (X := x1.toInt) (Y := 1) rfl (by decide) (by omega) (by omega)).trans (by omega)
        refine xi_iinc (pc' := 60) (x := x1) (v := v45) (lv' := [(1, .int v45), (2, .ref pt7), (0, .ref 0)]) kc_123_57 rfl rfl ev45 rfl (xm_lt ml_123 rfl) ?_
        refine xi_goto (pc' := 2) kc_123_60 rfl ?_
        refine xw_lv (b := [(0, .ref 0), (1, .int v45)]) (lvS_cons (lvS_cons (lvS_nil (show ([1, 2, 0] : List Nat).Nodup by decide)) rfl) rfl) ?_
        have en : v45.toNatClampNeg = x1.toNatClampNeg + 1 := xcl2 b1.1 (by omega)
        have ea : Int32.toNatClampNeg u8 = (C 5 x1.toNatClampNeg).toNat := xcl3 (by omega) (by omega)
        have eq : Int32.toNatClampNeg u9 = (C 8 x1.toNatClampNeg).toNat := xcl3 (by omega) (by omega)
        have ev : (u10 : Int32).toInt = C 9 x1.toNatClampNeg := by omega
        have ey := xtb_y (C := C) (hr := hr) (st := st) (wz := wz) (i := x1.toNatClampNeg) (by omega)
        have G6 := xg6_c I22 (h' := hh42) (fun c hc => eh41.2.1 c (xk_nn hc mpt7 rfl))
        have GB0 := xgf_fr IB K21.2.1 (by decide +kernel)
        have GB := xgf_set (Lo := [some 95, some 96, some 97, some 98, some 99, some 100, some 101, some 102, some 103, some 104, some 105, some 106, some 107, some 108, some 109, some 110, some 111, some 112, some 113, some 114]) (h' := hh42) GB0 xGd_trial rfl ept7 b1.1 (by show _ < ((20 : Nat) : Int); omega) eh41.1 rfl (fun c _ hne => eh41.2.1 c hne)
        rw [ea, eq, ev] at G6
        rw [hr19, ea, eq] at GB
        exact ih v45 hh42 (by omega) K44 (by rw [en, ey]; exact G6) (by rw [en, ey]; exact GB) (by omega)
      · refine xi_cmt (pc' := 57) kc_123_31 rfl (xc_ne_t (X := u11.toInt) (Y := u2.toInt) rfl rfl (by omega)) ?_
        obtain ⟨v46, ev46⟩ : ∃ q : Int32, x1 + 1 = q := ⟨_, rfl⟩
        have zv46 : v46.toInt = (x1.toInt + 1) := by rw [← ev46]; exact (xz_add (X := x1.toInt) (Y := 1) rfl (by decide) (by omega) (by omega)).trans (by omega)
        refine xi_iinc (pc' := 60) (x := x1) (v := v46) (lv' := [(1, .int v46), (2, .ref pt7), (0, .ref 0)]) kc_123_57 rfl rfl ev46 rfl (xm_lt ml_123 rfl) ?_
        refine xi_goto (pc' := 2) kc_123_60 rfl ?_
        refine xw_lv (b := [(0, .ref 0), (1, .int v46)]) (lvS_cons (lvS_cons (lvS_nil (show ([1, 2, 0] : List Nat).Nodup by decide)) rfl) rfl) ?_
        have en : v46.toNatClampNeg = x1.toNatClampNeg + 1 := xcl2 b1.1 (by omega)
        have ey := xtb_n (C := C) (hr := hr) (st := st) (wz := wz) (i := x1.toNatClampNeg) (by omega)
        exact ih v46 h (by omega) K (by rw [en, ey]; exact I6) (by rw [en, ey]; exact IB) (by omega)
theorem xw_bt {J : xe_J} {ov : List (List Int32)} (hJ : ∀ d mj as h, mj ≠ xe_loff → J d mj as h = none) (hov1 : ov[1]? = some [10, 0, 0, 0, 0, 0]) (hov2 : ov[2]? = some [99, 30, 50, 50, 1, 99999]) {d : Nat} {Q : Option Value → xe_H → Prop} {h : xe_H} {C st : xFn} {wz : Nat → Int} {hr : Int} (T : xt h) (C0 : xcX h C) (hC : xcr C) (Fh : xfi h 0 9 hr) (I6 : xg6 h st) (IB : xgf h xG_trial 5 wz) (kk : ∀ h' : xe_H, xk xP_4 h h' → xg6 h' (xtb C hr st wz (C 12 0).toNat).1 → xgf h' xG_trial 5 (xtb C hr st wz (C 12 0).toNat).2 → Q none h') : xw J ov (d + 3) 123 (0, [(0, .ref 0)], [], h) Q := by
  have zc0 : (0 : Int32).toInt = 0 := by decide
  have c12 := hC.2.1
  refine xi_iconst (pc' := 1) (v := 0) kc_123_0 rfl rfl ?_
  refine xi_istore_n (pc' := 2) (lv' := [(1, .int 0), (0, .ref 0)]) kc_123_1 rfl rfl (xm_lt ml_123 rfl) ?_
  refine xw_lv (b := [(0, .ref 0), (1, .int 0)]) (lvS_cons (lvS_cons (lvS_nil (show ([1, 0] : List Nat).Nodup by decide)) rfl) rfl) ?_
  exact bt_lp hJ hov1 hov2 C0 hC Fh kk 21 0 h (by omega) (xk_re T) I6 IB (by omega)
set_option maxHeartbeats 4000000 in
theorem et_lp {J : xe_J} {ov : List (List Int32)} (hJ : ∀ d mj as h, mj ≠ xe_loff → J d mj as h = none) (hov1 : ov[1]? = some [10, 0, 0, 0, 0, 0]) (hov2 : ov[2]? = some [99, 30, 50, 50, 1, 99999]) {d : Nat} {Q : Option Value → xe_H → Prop} {hb : xe_H} {C st : xFn} {wz : Nat → Int} {hr : Int} (C0 : xcX hb C) (hC : xcr C) (Fh : xfi hb 0 9 hr) (IB0 : xgf hb xG_trial 5 wz) (kk : ∀ h' : xe_H, xk xP_6 hb h' → xg6 h' (xte C hr st wz (C 12 0).toNat) → Q none h') : ∀ (m : Nat) (x1 : Int32) (h : xe_H), (0 ≤ x1.toInt ∧ x1.toInt ≤ C 12 0) → xk xP_6 hb h → xg6 h (xte C hr st wz x1.toNatClampNeg) → 20 - x1.toInt < (m : Int) → xw J ov (d + 3) 136 (2, [(0, .ref 0), (1, .int x1)], [], h) Q := by
  intro m
  induction m with
  | zero => intro x1 h b1 K I6 hm; have c12 := hC.2.1; exfalso; omega
  | succ m ih =>
    intro x1 h b1 K I6 hm
    have c12 := hC.2.1
    have qx1 := xj_tn b1.1
    refine xi_iload_n (pc' := 3) (x := x1) kc_136_2 rfl rfl ?_
    refine xi_aload_n (pc' := 4) (x := 0) kc_136_3 rfl rfl ?_
    obtain ⟨u1, u2, bu1, bu2, A3⟩ := xq_0 K.1
    have C4 : xcX h C := xcX_k C0 K (by decide +kernel)
    have hfu1 : u1.toInt = (C 12 0) := xfi_ld C4.2.1 A3 rfl
    have hfu2 : u2.toInt = hr := xfi_ld (xfi_fr Fh (K.2.1 (0, 9) (by decide +kernel))) A3 rfl
    refine xi_getfield (pc' := 7) (v := .int u1) kc_136_4 rfl rfl rfl A3 rfl ?_
    by_cases c5 : u1.toInt ≤ x1.toInt
    · refine xi_cmt (pc' := 60) kc_136_7 rfl (xc_ge_t (X := x1.toInt) (Y := u1.toInt) rfl rfl (by omega)) ?_
      refine xi_return kc_136_60 mr_136 ?_
      have en : x1.toNatClampNeg = (C 12 0).toNat := by omega
      rw [en] at I6
      exact kk h K I6
    · refine xi_cmf (pc' := 10) kc_136_7 rfl (xc_ge_f (X := x1.toInt) (Y := u1.toInt) rfl rfl (by omega)) ?_
      refine xi_iload_n (pc' := 11) (x := x1) kc_136_10 rfl rfl ?_
      refine xi_bipush (pc' := 13) (v := 20) kc_136_11 rfl rfl ?_
      refine xi_cmf (pc' := 16) kc_136_13 rfl (xc_ge_f (X := x1.toInt) (Y := 20) rfl (by decide) (by omega)) ?_
      refine xi_aload_n (pc' := 17) (x := 0) kc_136_16 rfl rfl ?_
      refine xi_getfield (pc' := 20) (v := .ref 93) kc_136_17 rfl rfl rfl A3 rfl ?_
      refine xi_iload_n (pc' := 21) (x := x1) kc_136_20 rfl rfl ?_
      have A6 := xk_ex K.1 xD_93
      obtain ⟨pt7, ept7, mpt7⟩ := xR_93 (i := x1) (by omega) (by omega)
      refine xj_aaload (pc' := 22) (b := pt7) kc_136_21 rfl A6 rfl (xi_in (n := 20) (by omega) (by omega)) ept7 ?_
      refine xi_astore_n (pc' := 23) (lv' := [(2, .ref pt7), (0, .ref 0), (1, .int x1)]) kc_136_22 rfl rfl (xm_lt ml_136 rfl) ?_
      refine xi_aload_n (pc' := 24) (x := pt7) kc_136_23 rfl rfl ?_
      obtain ⟨u8, u9, u10, u11, u12, u13, bu8, bu9, bu10, bu11, bu12, bu13, A14⟩ := xg_trial K.1 mpt7
      have hfu8 : u8.toInt = (C 5) (Int32.toNatClampNeg x1) := xgf_ld (Lo := [some 95, some 96, some 97, some 98, some 99, some 100, some 101, some 102, some 103, some 104, some 105, some 106, some 107, some 108, some 109, some 110, some 111, some 112, some 113, some 114]) C4.2.2.2.2.2.2.2.2.2.2.2.2.2.2.1 rfl ept7 (by omega) (by show _ < ((20 : Nat) : Int); omega) A14 rfl
      have hfu11 : u11.toInt = (C 6) (Int32.toNatClampNeg x1) := xgf_ld (Lo := [some 95, some 96, some 97, some 98, some 99, some 100, some 101, some 102, some 103, some 104, some 105, some 106, some 107, some 108, some 109, some 110, some 111, some 112, some 113, some 114]) C4.2.2.2.2.2.2.2.2.2.2.2.2.2.2.2.1 rfl ept7 (by omega) (by show _ < ((20 : Nat) : Int); omega) A14 rfl
      have hfu12 : u12.toInt = (C 7) (Int32.toNatClampNeg x1) := xgf_ld (Lo := [some 95, some 96, some 97, some 98, some 99, some 100, some 101, some 102, some 103, some 104, some 105, some 106, some 107, some 108, some 109, some 110, some 111, some 112, some 113, some 114]) C4.2.2.2.2.2.2.2.2.2.2.2.2.2.2.2.2.1 rfl ept7 (by omega) (by show _ < ((20 : Nat) : Int); omega) A14 rfl
      have hfu9 : u9.toInt = (C 8) (Int32.toNatClampNeg x1) := xgf_ld (Lo := [some 95, some 96, some 97, some 98, some 99, some 100, some 101, some 102, some 103, some 104, some 105, some 106, some 107, some 108, some 109, some 110, some 111, some 112, some 113, some 114]) C4.2.2.2.2.2.2.2.2.2.2.2.2.2.2.2.2.2.1 rfl ept7 (by omega) (by show _ < ((20 : Nat) : Int); omega) A14 rfl
      have hfu10 : u10.toInt = (C 9) (Int32.toNatClampNeg x1) := xgf_ld (Lo := [some 95, some 96, some 97, some 98, some 99, some 100, some 101, some 102, some 103, some 104, some 105, some 106, some 107, some 108, some 109, some 110, some 111, some 112, some 113, some 114]) C4.2.2.2.2.2.2.2.2.2.2.2.2.2.2.2.2.2.2.1 rfl ept7 (by omega) (by show _ < ((20 : Nat) : Int); omega) A14 rfl
      have hfu13 : u13.toInt = wz (Int32.toNatClampNeg x1) := xgf_ld (Lo := [some 95, some 96, some 97, some 98, some 99, some 100, some 101, some 102, some 103, some 104, some 105, some 106, some 107, some 108, some 109, some 110, some 111, some 112, some 113, some 114]) (xgf_fr IB0 K.2.1 (by decide +kernel)) rfl ept7 (by omega) (by show _ < ((20 : Nat) : Int); omega) A14 rfl
      refine xi_getfield (pc' := 27) (v := .int u12) kc_136_24 rfl rfl rfl A14 rfl ?_
      refine xi_aload_n (pc' := 28) (x := 0) kc_136_27 rfl rfl ?_
      refine xi_getfield (pc' := 31) (v := .int u2) kc_136_28 rfl rfl rfl A3 rfl ?_
      by_cases c15 : u12.toInt = u2.toInt
      · refine xi_cmf (pc' := 34) kc_136_31 rfl (xc_ne_f (X := u12.toInt) (Y := u2.toInt) rfl rfl (by omega)) ?_
        refine xi_aload_n (pc' := 35) (x := 0) kc_136_34 rfl rfl ?_
        refine xi_getfield (pc' := 38) (v := .ref 1) kc_136_35 rfl rfl rfl A3 rfl ?_
        refine xi_aload_n (pc' := 39) (x := pt7) kc_136_38 rfl rfl ?_
        refine xi_getfield (pc' := 42) (v := .int u8) kc_136_39 rfl rfl rfl A14 rfl ?_
        refine xi_aload_n (pc' := 43) (x := pt7) kc_136_42 rfl rfl ?_
        refine xi_getfield (pc' := 46) (v := .int u9) kc_136_43 rfl rfl rfl A14 rfl ?_
        refine xi_aload_n (pc' := 47) (x := pt7) kc_136_46 rfl rfl ?_
        refine xi_getfield (pc' := 50) (v := .int u13) kc_136_47 rfl rfl rfl A14 rfl ?_
        obtain ⟨u16, u17, bu16, bu17, A18⟩ := xq_1 K.1
        have hfu16 : u16.toInt = (C 11 0) := xfi_ld C4.1 A18 rfl
        refine xi_virtual (mj := 92) (as := [.int u8, .int u9, .int u13]) (st1 := []) (lv0 := [(0, .ref 1), (1, .int u8), (2, .int u9), (3, .int u13)]) kc_136_50 rfl rfl rfl rfl rfl A18 (Nat.le_of_ble_eq_true rfl) (hJ _ _ _ _ (by decide)) (xm_le ml_92 rfl) rfl ?_
        have hci := hC.2.2.2.1 x1.toNatClampNeg (by omega)
        refine xw_chg hJ hov1 hov2 (d := d) (x1 := u8) (x2 := u9) (x3 := u13) K.1 I6 (by omega) (by omega) (fun r19 hh20 hr19 K21 I22 => ?_)
        have rr19 := xc_rng r19
        have K23 := xk_tr K K21 (xsb_ok _ _ (by decide +kernel))
        obtain ⟨u24, u25, bu24, bu25, A26⟩ := xq_0 K23.1
        have C27 : xcX hh20 C := xcX_k C0 K23 (by decide +kernel)
        have hfu24 : u24.toInt = (C 12 0) := xfi_ld C27.2.1 A26 rfl
        have hfu25 : u25.toInt = hr := xfi_ld (xfi_fr Fh (K23.2.1 (0, 9) (by decide +kernel))) A26 rfl
        have e28 : u2 = u25 := xk_eqi (q := 9) K21 (by decide +kernel) A3 A26 rfl rfl
        subst e28
        have e29 : u1 = u24 := xk_eqi (q := 8) K21 (by decide +kernel) A3 A26 rfl rfl
        subst e29
        obtain ⟨u30, u31, bu30, bu31, A32⟩ := xq_1 K23.1
        have hfu30 : u30.toInt = (C 11 0) := xfi_ld C27.1 A32 rfl
        have e33 : u16 = u30 := xk_eqi (q := 5) K21 (by decide +kernel) A18 A32 rfl rfl
        subst e33
        show xw J ov (d + 3) 136 (53, [(2, .ref pt7), (0, .ref 0), (1, .int x1)], [.int r19], hh20) _
        refine xi_pop (pc' := 54) kc_136_53 rfl rfl ?_
        obtain ⟨v34, ev34⟩ : ∃ q : Int32, x1 + 1 = q := ⟨_, rfl⟩
        have zv34 : v34.toInt = (x1.toInt + 1) := by rw [← ev34]; exact (xz_add (X := x1.toInt) (Y := 1) rfl (by decide) (by omega) (by omega)).trans (by omega)
        refine xi_iinc (pc' := 57) (x := x1) (v := v34) (lv' := [(1, .int v34), (2, .ref pt7), (0, .ref 0)]) kc_136_54 rfl rfl ev34 rfl (xm_lt ml_136 rfl) ?_
        refine xi_goto (pc' := 2) kc_136_57 rfl ?_
        refine xw_lv (b := [(0, .ref 0), (1, .int v34)]) (lvS_cons (lvS_cons (lvS_nil (show ([1, 2, 0] : List Nat).Nodup by decide)) rfl) rfl) ?_
        have en : v34.toNatClampNeg = x1.toNatClampNeg + 1 := xcl2 b1.1 (by omega)
        have ea : Int32.toNatClampNeg u8 = (C 5 x1.toNatClampNeg).toNat := xcl3 (by omega) (by omega)
        have eq : Int32.toNatClampNeg u9 = (C 8 x1.toNatClampNeg).toNat := xcl3 (by omega) (by omega)
        have ev : (u13 : Int32).toInt = wz x1.toNatClampNeg := by omega
        have ey := xte_y (C := C) (hr := hr) (st := st) (wz := wz) (i := x1.toNatClampNeg) (by omega)
        rw [ea, eq, ev] at I22
        exact ih v34 hh20 (by omega) K23 (by rw [en, ey]; exact I22) (by omega)
      · refine xi_cmt (pc' := 54) kc_136_31 rfl (xc_ne_t (X := u12.toInt) (Y := u2.toInt) rfl rfl (by omega)) ?_
        obtain ⟨v35, ev35⟩ : ∃ q : Int32, x1 + 1 = q := ⟨_, rfl⟩
        have zv35 : v35.toInt = (x1.toInt + 1) := by rw [← ev35]; exact (xz_add (X := x1.toInt) (Y := 1) rfl (by decide) (by omega) (by omega)).trans (by omega)
        refine xi_iinc (pc' := 57) (x := x1) (v := v35) (lv' := [(1, .int v35), (2, .ref pt7), (0, .ref 0)]) kc_136_54 rfl rfl ev35 rfl (xm_lt ml_136 rfl) ?_
        refine xi_goto (pc' := 2) kc_136_57 rfl ?_
        refine xw_lv (b := [(0, .ref 0), (1, .int v35)]) (lvS_cons (lvS_cons (lvS_nil (show ([1, 2, 0] : List Nat).Nodup by decide)) rfl) rfl) ?_
        have en : v35.toNatClampNeg = x1.toNatClampNeg + 1 := xcl2 b1.1 (by omega)
        have ey := xte_n (C := C) (hr := hr) (st := st) (wz := wz) (i := x1.toNatClampNeg) (by omega)
        exact ih v35 h (by omega) K (by rw [en, ey]; exact I6) (by omega)
theorem xw_et {J : xe_J} {ov : List (List Int32)} (hJ : ∀ d mj as h, mj ≠ xe_loff → J d mj as h = none) (hov1 : ov[1]? = some [10, 0, 0, 0, 0, 0]) (hov2 : ov[2]? = some [99, 30, 50, 50, 1, 99999]) {d : Nat} {Q : Option Value → xe_H → Prop} {h : xe_H} {C st : xFn} {wz : Nat → Int} {hr : Int} (T : xt h) (C0 : xcX h C) (hC : xcr C) (Fh : xfi h 0 9 hr) (I6 : xg6 h st) (IB : xgf h xG_trial 5 wz) (kk : ∀ h' : xe_H, xk xP_6 h h' → xg6 h' (xte C hr st wz (C 12 0).toNat) → Q none h') : xw J ov (d + 3) 136 (0, [(0, .ref 0)], [], h) Q := by
  have zc0 : (0 : Int32).toInt = 0 := by decide
  have c12 := hC.2.1
  refine xi_iconst (pc' := 1) (v := 0) kc_136_0 rfl rfl ?_
  refine xi_istore_n (pc' := 2) (lv' := [(1, .int 0), (0, .ref 0)]) kc_136_1 rfl rfl (xm_lt ml_136 rfl) ?_
  refine xw_lv (b := [(0, .ref 0), (1, .int 0)]) (lvS_cons (lvS_cons (lvS_nil (show ([1, 0] : List Nat).Nodup by decide)) rfl) rfl) ?_
  exact et_lp hJ hov1 hov2 C0 hC Fh IB kk 21 0 h (by omega) (xk_re T) I6 (by omega)
set_option maxHeartbeats 4000000 in
theorem br_lp {J : xe_J} {ov : List (List Int32)} (hJ : ∀ d mj as h, mj ≠ xe_loff → J d mj as h = none) (hov1 : ov[1]? = some [10, 0, 0, 0, 0, 0]) (hov2 : ov[2]? = some [99, 30, 50, 50, 1, 99999]) {d : Nat} {Q : Option Value → xe_H → Prop} {hb : xe_H} {C : xFn} {w : Nat → Int} {hr : Int} {x2 : Int32} (C0 : xcX hb C) (hC : xcr C) (hw : xwr 6 99999 w) (b2 : 0 ≤ x2.toInt ∧ x2.toInt ≤ 599) (eh : x2.toInt = hr) (kk : ∀ h' : xe_H, xk xP_5 hb h' → xra h' 64 6 (xwb C hr w (C 11 0).toNat) → Q none h') : ∀ (m : Nat) (x3 : Int32) (h : xe_H), (0 ≤ x3.toInt ∧ x3.toInt ≤ C 11 0) → xk xP_5 hb h → xra h 64 6 (xwb C hr w x3.toNatClampNeg) → 10 - x3.toInt < (m : Int) → xw J ov (d + 3) 125 (2, [(0, .ref 1), (1, .ref 63), (2, .int x2), (3, .int x3)], [], h) Q := by
  intro m
  induction m with
  | zero => intro x3 h b3 K IW hm; have c11 := hC.1; exfalso; omega
  | succ m ih =>
    intro x3 h b3 K IW hm
    have c11 := hC.1
    have qx3 := xj_tn b3.1
    obtain ⟨y1, A1, hy1, ry1⟩ := xk_arr K.1 xD_64
    have R2 : xrp y1 6 (xwb C hr w x3.toNatClampNeg) := xra_ld IW A1
    refine xi_iload_n (pc' := 3) (x := x3) kc_125_2 rfl rfl ?_
    refine xi_aload_n (pc' := 4) (x := 1) kc_125_3 rfl rfl ?_
    obtain ⟨u3, u4, bu3, bu4, A5⟩ := xq_1 K.1
    have C6 : xcX h C := xcX_k C0 K (by decide +kernel)
    have hfu3 : u3.toInt = (C 11 0) := xfi_ld C6.1 A5 rfl
    refine xi_getfield (pc' := 7) (v := .int u3) kc_125_4 rfl rfl rfl A5 rfl ?_
    by_cases c7 : u3.toInt ≤ x3.toInt
    · refine xi_cmt (pc' := 67) kc_125_7 rfl (xc_ge_t (X := x3.toInt) (Y := u3.toInt) rfl rfl (by omega)) ?_
      refine xi_return kc_125_67 mr_125 ?_
      have en : x3.toNatClampNeg = (C 11 0).toNat := by omega
      rw [en] at IW
      exact kk h K IW
    · refine xi_cmf (pc' := 10) kc_125_7 rfl (xc_ge_f (X := x3.toInt) (Y := u3.toInt) rfl rfl (by omega)) ?_
      refine xi_iload_n (pc' := 11) (x := x3) kc_125_10 rfl rfl ?_
      refine xi_bipush (pc' := 13) (v := 10) kc_125_11 rfl rfl ?_
      refine xi_cmf (pc' := 16) kc_125_13 rfl (xc_ge_f (X := x3.toInt) (Y := 10) rfl (by decide) (by omega)) ?_
      refine xi_aload_n (pc' := 17) (x := 1) kc_125_16 rfl rfl ?_
      refine xi_getfield (pc' := 20) (v := .ref 4) kc_125_17 rfl rfl rfl A5 rfl ?_
      refine xi_iload_n (pc' := 21) (x := x3) kc_125_20 rfl rfl ?_
      have A8 := xk_ex K.1 xD_4
      obtain ⟨pt9, ept9, mpt9⟩ := xR_4 (i := x3) (by omega) (by omega)
      refine xj_aaload (pc' := 22) (b := pt9) kc_125_21 rfl A8 rfl (xi_in (n := 10) (by omega) (by omega)) ept9 ?_
      obtain ⟨u10, u11, u12, u13, bu10, bu11, bu12, bu13, A14⟩ := xg_cause K.1 mpt9
      have hfu10 : u10.toInt = (C 0) (Int32.toNatClampNeg x3) := xgf_ld (Lo := [some 53, some 54, some 55, some 56, some 57, some 58, some 59, some 60, some 61, some 62]) C6.2.2.2.2.2.2.2.2.2.1 rfl ept9 (by omega) (by show _ < ((10 : Nat) : Int); omega) A14 rfl
      have hfu11 : u11.toInt = (C 1) (Int32.toNatClampNeg x3) := xgf_ld (Lo := [some 53, some 54, some 55, some 56, some 57, some 58, some 59, some 60, some 61, some 62]) C6.2.2.2.2.2.2.2.2.2.2.1 rfl ept9 (by omega) (by show _ < ((10 : Nat) : Int); omega) A14 rfl
      have hfu12 : u12.toInt = (C 2) (Int32.toNatClampNeg x3) := xgf_ld (Lo := [some 53, some 54, some 55, some 56, some 57, some 58, some 59, some 60, some 61, some 62]) C6.2.2.2.2.2.2.2.2.2.2.2.1 rfl ept9 (by omega) (by show _ < ((10 : Nat) : Int); omega) A14 rfl
      have bru12 : 0 ≤ u12.toInt ∧ u12.toInt ≤ 99 := by have := hC.2.2.1 x3.toNatClampNeg (by omega); omega
      have hfu13 : u13.toInt = (C 3) (Int32.toNatClampNeg x3) := xgf_ld (Lo := [some 53, some 54, some 55, some 56, some 57, some 58, some 59, some 60, some 61, some 62]) C6.2.2.2.2.2.2.2.2.2.2.2.2.1 rfl ept9 (by omega) (by show _ < ((10 : Nat) : Int); omega) A14 rfl
      refine xi_getfield (pc' := 25) (v := .int u10) kc_125_22 rfl rfl rfl A14 rfl ?_
      refine xi_iconst (pc' := 26) (v := 3) kc_125_25 rfl rfl ?_
      by_cases c15 : u10.toInt = 3
      · refine xi_cmf (pc' := 29) kc_125_26 rfl (xc_ne_f (X := u10.toInt) (Y := 3) rfl (by decide) (by omega)) ?_
        refine xi_aload_n (pc' := 30) (x := 1) kc_125_29 rfl rfl ?_
        refine xi_aload_n (pc' := 31) (x := 63) kc_125_30 rfl rfl ?_
        refine xi_iload_n (pc' := 32) (x := x3) kc_125_31 rfl rfl ?_
        refine xi_iload_n (pc' := 33) (x := x2) kc_125_32 rfl rfl ?_
        refine xi_virtual (mj := 126) (as := [.ref 63, .int x3, .int x2]) (st1 := []) (lv0 := [(0, .ref 1), (1, .ref 63), (2, .int x3), (3, .int x2)]) kc_125_33 rfl rfl rfl rfl rfl A5 (Nat.le_of_ble_eq_true rfl) (hJ _ _ _ _ (by decide)) (xm_le ml_126 rfl) rfl ?_
        refine xi_aload_n (pc' := 1) (x := 63) kc_126_0 rfl rfl ?_
        obtain ⟨u16, u17, bu16, bu17, A18⟩ := xq_63 K.1
        have hfu17 : u17.toInt = 63 := xfi_ld C6.2.2.2.2.2.2.2.2.2.2.2.2.2.2.2.2.2.2.2 A18 rfl
        refine xi_getfield (pc' := 4) (v := .int u16) kc_126_1 rfl rfl rfl A18 rfl ?_
        refine xi_iload_n (pc' := 5) (x := x3) kc_126_4 rfl rfl ?_
        obtain ⟨v19, ev19⟩ : ∃ q : Int32, (u16 : Int32) >>> (x3 &&& 31) = q := ⟨_, rfl⟩
        have rv19 := xc_rng v19
        refine xi_ishr (pc' := 6) (v := v19) kc_126_5 rfl ev19 ?_
        refine xi_iconst (pc' := 7) (v := 1) kc_126_6 rfl rfl ?_
        obtain ⟨v20, ev20⟩ : ∃ q : Int32, (v19 : Int32) &&& 1 = q := ⟨_, rfl⟩
        have rv20 := xc_rng v20
        refine xi_iand (pc' := 8) (v := v20) kc_126_7 rfl ev20 ?_
        have hbt := xab_ld C6.2.2.2.2.2.2.2.2.2.2.2.2.2.1 A18 rfl b3.1 (by omega) ev19 ev20
        by_cases c21 : v20.toInt = 0
        · refine xi_ift (pc' := 28) kc_126_8 rfl (xc_eq_t (X := v20.toInt) (Y := 0) rfl (by decide) (by omega)) ?_
          refine xi_iconst (pc' := 29) (v := 0) kc_126_28 rfl rfl ?_
          refine xi_ireturn kc_126_29 mr_126 rfl ?_
          show xw J ov (d + 3) 125 (36, [(0, .ref 1), (1, .ref 63), (2, .int x2), (3, .int x3)], [.int 0], h) _
          refine xi_ift (pc' := 61) kc_125_36 rfl rfl ?_
          obtain ⟨v22, ev22⟩ : ∃ q : Int32, x3 + 1 = q := ⟨_, rfl⟩
          have zv22 : v22.toInt = (x3.toInt + 1) := by rw [← ev22]; exact (xz_add (X := x3.toInt) (Y := 1) rfl (by decide) (by omega) (by omega)).trans (by omega)
          refine xi_iinc (pc' := 64) (x := x3) (v := v22) (lv' := [(3, .int v22), (0, .ref 1), (1, .ref 63), (2, .int x2)]) kc_125_61 rfl rfl ev22 rfl (xm_lt ml_125 rfl) ?_
          refine xi_goto (pc' := 2) kc_125_64 rfl ?_
          refine xw_lv (b := [(0, .ref 1), (1, .ref 63), (2, .int x2), (3, .int v22)]) (lvS_cons (lvS_cons (lvS_cons (lvS_cons (lvS_nil (show ([3, 0, 1, 2] : List Nat).Nodup by decide)) rfl) rfl) rfl) rfl) ?_
          have en : v22.toNatClampNeg = x3.toNatClampNeg + 1 := xcl2 b3.1 (by omega)
          have hp := hC.2.2.1 x3.toNatClampNeg (by omega)
          exact ih v22 h (by omega) K (by rw [en]; exact xra_cg IW (xwb_n (fun r hr6 z => by obtain ⟨z0, z1, z4, z3⟩ := z; omega))) (by omega)
        · refine xi_iff (pc' := 11) kc_126_8 rfl (xc_eq_f (X := v20.toInt) (Y := 0) rfl (by decide) (by omega)) ?_
          refine xi_iload_n (pc' := 12) (x := x2) kc_126_11 rfl rfl ?_
          refine xi_aload_n (pc' := 13) (x := 1) kc_126_12 rfl rfl ?_
          refine xi_getfield (pc' := 16) (v := .ref 4) kc_126_13 rfl rfl rfl A5 rfl ?_
          refine xi_iload_n (pc' := 17) (x := x3) kc_126_16 rfl rfl ?_
          refine xj_aaload (pc' := 18) (b := pt9) kc_126_17 rfl A8 rfl (xi_in (n := 10) (by omega) (by omega)) ept9 ?_
          refine xi_getfield (pc' := 21) (v := .int u13) kc_126_18 rfl rfl rfl A14 rfl ?_
          by_cases c23 : x2.toInt < u13.toInt
          · refine xi_cmt (pc' := 28) kc_126_21 rfl (xc_lt_t (X := x2.toInt) (Y := u13.toInt) rfl rfl (by omega)) ?_
            refine xi_iconst (pc' := 29) (v := 0) kc_126_28 rfl rfl ?_
            refine xi_ireturn kc_126_29 mr_126 rfl ?_
            show xw J ov (d + 3) 125 (36, [(0, .ref 1), (1, .ref 63), (2, .int x2), (3, .int x3)], [.int 0], h) _
            refine xi_ift (pc' := 61) kc_125_36 rfl rfl ?_
            obtain ⟨v24, ev24⟩ : ∃ q : Int32, x3 + 1 = q := ⟨_, rfl⟩
            have zv24 : v24.toInt = (x3.toInt + 1) := by rw [← ev24]; exact (xz_add (X := x3.toInt) (Y := 1) rfl (by decide) (by omega) (by omega)).trans (by omega)
            refine xi_iinc (pc' := 64) (x := x3) (v := v24) (lv' := [(3, .int v24), (0, .ref 1), (1, .ref 63), (2, .int x2)]) kc_125_61 rfl rfl ev24 rfl (xm_lt ml_125 rfl) ?_
            refine xi_goto (pc' := 2) kc_125_64 rfl ?_
            refine xw_lv (b := [(0, .ref 1), (1, .ref 63), (2, .int x2), (3, .int v24)]) (lvS_cons (lvS_cons (lvS_cons (lvS_cons (lvS_nil (show ([3, 0, 1, 2] : List Nat).Nodup by decide)) rfl) rfl) rfl) rfl) ?_
            have en : v24.toNatClampNeg = x3.toNatClampNeg + 1 := xcl2 b3.1 (by omega)
            have hp := hC.2.2.1 x3.toNatClampNeg (by omega)
            exact ih v24 h (by omega) K (by rw [en]; exact xra_cg IW (xwb_n (fun r hr6 z => by obtain ⟨z0, z1, z4, z3⟩ := z; omega))) (by omega)
          · refine xi_cmf (pc' := 24) kc_126_21 rfl (xc_lt_f (X := x2.toInt) (Y := u13.toInt) rfl rfl (by omega)) ?_
            refine xi_iconst (pc' := 25) (v := 1) kc_126_24 rfl rfl ?_
            refine xi_goto (pc' := 29) kc_126_25 rfl ?_
            refine xi_ireturn kc_126_29 mr_126 rfl ?_
            show xw J ov (d + 3) 125 (36, [(0, .ref 1), (1, .ref 63), (2, .int x2), (3, .int x3)], [.int 1], h) _
            refine xi_iff (pc' := 39) kc_125_36 rfl rfl ?_
            refine xi_aload_n (pc' := 40) (x := 63) kc_125_39 rfl rfl ?_
            refine xi_aload_n (pc' := 41) (x := 1) kc_125_40 rfl rfl ?_
            refine xi_getfield (pc' := 44) (v := .ref 4) kc_125_41 rfl rfl rfl A5 rfl ?_
            refine xi_iload_n (pc' := 45) (x := x3) kc_125_44 rfl rfl ?_
            refine xj_aaload (pc' := 46) (b := pt9) kc_125_45 rfl A8 rfl (xi_in (n := 10) (by omega) (by omega)) ept9 ?_
            refine xi_getfield (pc' := 49) (v := .int u11) kc_125_46 rfl rfl rfl A14 rfl ?_
            refine xi_aload_n (pc' := 50) (x := 1) kc_125_49 rfl rfl ?_
            refine xi_getfield (pc' := 53) (v := .ref 4) kc_125_50 rfl rfl rfl A5 rfl ?_
            refine xi_iload_n (pc' := 54) (x := x3) kc_125_53 rfl rfl ?_
            refine xj_aaload (pc' := 55) (b := pt9) kc_125_54 rfl A8 rfl (xi_in (n := 10) (by omega) (by omega)) ept9 ?_
            refine xi_getfield (pc' := 58) (v := .int u12) kc_125_55 rfl rfl rfl A14 rfl ?_
            refine xi_virtual (mj := 127) (as := [.int u11, .int u12]) (st1 := []) (lv0 := [(0, .ref 63), (1, .int u11), (2, .int u12)]) kc_125_58 rfl rfl rfl rfl rfl A18 (Nat.le_of_ble_eq_true rfl) (hJ _ _ _ _ (by decide)) (xm_le ml_127 rfl) rfl ?_
            refine xi_iload_n (pc' := 1) (x := u11) kc_127_0 rfl rfl ?_
            by_cases c25 : u11.toInt < 0
            · refine xi_ift (pc' := 40) kc_127_1 rfl (xc_lt_t (X := u11.toInt) (Y := 0) rfl (by decide) (by omega)) ?_
              refine xi_return kc_127_40 mr_127 ?_
              show xw J ov (d + 3) 125 (61, [(0, .ref 1), (1, .ref 63), (2, .int x2), (3, .int x3)], [], h) _
              obtain ⟨v26, ev26⟩ : ∃ q : Int32, x3 + 1 = q := ⟨_, rfl⟩
              have zv26 : v26.toInt = (x3.toInt + 1) := by rw [← ev26]; exact (xz_add (X := x3.toInt) (Y := 1) rfl (by decide) (by omega) (by omega)).trans (by omega)
              refine xi_iinc (pc' := 64) (x := x3) (v := v26) (lv' := [(3, .int v26), (0, .ref 1), (1, .ref 63), (2, .int x2)]) kc_125_61 rfl rfl ev26 rfl (xm_lt ml_125 rfl) ?_
              refine xi_goto (pc' := 2) kc_125_64 rfl ?_
              refine xw_lv (b := [(0, .ref 1), (1, .ref 63), (2, .int x2), (3, .int v26)]) (lvS_cons (lvS_cons (lvS_cons (lvS_cons (lvS_nil (show ([3, 0, 1, 2] : List Nat).Nodup by decide)) rfl) rfl) rfl) rfl) ?_
              have en : v26.toNatClampNeg = x3.toNatClampNeg + 1 := xcl2 b3.1 (by omega)
              have hp := hC.2.2.1 x3.toNatClampNeg (by omega)
              exact ih v26 h (by omega) K (by rw [en]; exact xra_cg IW (xwb_n (fun r hr6 z => by obtain ⟨z0, z1, z4, z3⟩ := z; omega))) (by omega)
            · refine xi_iff (pc' := 4) kc_127_1 rfl (xc_lt_f (X := u11.toInt) (Y := 0) rfl (by decide) (by omega)) ?_
              refine xi_iload_n (pc' := 5) (x := u11) kc_127_4 rfl rfl ?_
              refine xi_aload_n (pc' := 6) (x := 63) kc_127_5 rfl rfl ?_
              refine xi_getfield (pc' := 9) (v := .ref 64) kc_127_6 rfl rfl rfl A18 rfl ?_
              refine xi_arraylength (pc' := 10) (n := 6) (v := 6) kc_127_9 rfl (xl_lenI (by decide) (by decide) A1 hy1) rfl ?_
              by_cases c27 : 6 ≤ u11.toInt
              · refine xi_cmt (pc' := 40) kc_127_10 rfl (xc_ge_t (X := u11.toInt) (Y := 6) rfl (by decide) (by omega)) ?_
                refine xi_return kc_127_40 mr_127 ?_
                show xw J ov (d + 3) 125 (61, [(0, .ref 1), (1, .ref 63), (2, .int x2), (3, .int x3)], [], h) _
                obtain ⟨v28, ev28⟩ : ∃ q : Int32, x3 + 1 = q := ⟨_, rfl⟩
                have zv28 : v28.toInt = (x3.toInt + 1) := by rw [← ev28]; exact (xz_add (X := x3.toInt) (Y := 1) rfl (by decide) (by omega) (by omega)).trans (by omega)
                refine xi_iinc (pc' := 64) (x := x3) (v := v28) (lv' := [(3, .int v28), (0, .ref 1), (1, .ref 63), (2, .int x2)]) kc_125_61 rfl rfl ev28 rfl (xm_lt ml_125 rfl) ?_
                refine xi_goto (pc' := 2) kc_125_64 rfl ?_
                refine xw_lv (b := [(0, .ref 1), (1, .ref 63), (2, .int x2), (3, .int v28)]) (lvS_cons (lvS_cons (lvS_cons (lvS_cons (lvS_nil (show ([3, 0, 1, 2] : List Nat).Nodup by decide)) rfl) rfl) rfl) rfl) ?_
                have en : v28.toNatClampNeg = x3.toNatClampNeg + 1 := xcl2 b3.1 (by omega)
                have hp := hC.2.2.1 x3.toNatClampNeg (by omega)
                exact ih v28 h (by omega) K (by rw [en]; exact xra_cg IW (xwb_n (fun r hr6 z => by obtain ⟨z0, z1, z4, z3⟩ := z; omega))) (by omega)
              · refine xi_cmf (pc' := 13) kc_127_10 rfl (xc_ge_f (X := u11.toInt) (Y := 6) rfl (by decide) (by omega)) ?_
                refine xi_aload_n (pc' := 14) (x := 63) kc_127_13 rfl rfl ?_
                refine xi_getfield (pc' := 17) (v := .ref 64) kc_127_14 rfl rfl rfl A18 rfl ?_
                refine xi_iload_n (pc' := 18) (x := u11) kc_127_17 rfl rfl ?_
                obtain ⟨v29, ev29, bv29, dv29⟩ := xj_get hy1 ry1 (i := u11) (by omega) (by omega)
                refine xi_iaload (pc' := 19) (v := v29) kc_127_18 rfl A1 (by decide) rfl (xi_in (by omega) (by rw [hy1]; omega)) ev29 ?_
                have hlv29 : v29.toInt = (xwb C hr w x3.toNatClampNeg) (Int32.toNatClampNeg u11) := xrp_ld R2 (by omega) (by omega) ev29
                have brv29 : 0 ≤ v29.toInt ∧ v29.toInt ≤ 99999 := by have := xwb_b (hr := hr) hC hw x3.toNatClampNeg (by omega) (Int32.toNatClampNeg u11) (by have := xj_tn (i := u11) (by omega); omega); omega
                refine xi_iload_n (pc' := 20) (x := u12) kc_127_19 rfl rfl ?_
                obtain ⟨v30, ev30⟩ : ∃ q : Int32, v29 + u12 = q := ⟨_, rfl⟩
                have zv30 : v30.toInt = (v29.toInt + u12.toInt) := by rw [← ev30]; exact (xz_add (X := v29.toInt) (Y := u12.toInt) rfl rfl (by omega) (by omega)).trans (by omega)
                refine xi_iadd (pc' := 21) (v := v30) kc_127_20 rfl ev30 ?_
                refine xi_istore_n (pc' := 22) (lv' := [(3, .int v30), (0, .ref 63), (1, .int u11), (2, .int u12)]) kc_127_21 rfl rfl (xm_lt ml_127 rfl) ?_
                refine xi_aload_n (pc' := 23) (x := 63) kc_127_22 rfl rfl ?_
                refine xi_getfield (pc' := 26) (v := .ref 64) kc_127_23 rfl rfl rfl A18 rfl ?_
                refine xi_iload_n (pc' := 27) (x := u11) kc_127_26 rfl rfl ?_
                refine xi_iload_n (pc' := 28) (x := v30) kc_127_27 rfl rfl ?_
                refine xi_ldc (pc' := 30) (v := 99999) kc_127_28 rfl rfl ?_
                by_cases c31 : (v29.toInt + u12.toInt) ≤ 99999
                · refine xi_cmt (pc' := 38) kc_127_30 rfl (xc_le_t (X := (v29.toInt + u12.toInt)) (Y := 99999) zv30 (by decide) (by omega)) ?_
                  refine xi_iload_n (pc' := 39) (x := v30) kc_127_38 rfl rfl ?_
                  obtain ⟨y32, s32, hy32, ry32⟩ := xj_set (v := v30) hy1 ry1 u11 (by first | omega | decide) (by first | omega | decide)
                  refine xi_iastore (pc' := 40) (x' := y32) kc_127_39 rfl A1 rfl (xi_in (by omega) (by rw [hy1]; omega)) s32 (fun hh32 eh32 => ?_)
                  have K33 := xk_pa K (xk_wa (by decide +kernel)) xD_64 hy32 ry32 eh32
                  have R34 : xrp y32 6 (xup (xwb C hr w x3.toNatClampNeg) (Int32.toNatClampNeg u11) (v30 : Int32).toInt) := xrp_set R2 s32
                  refine xi_return kc_127_40 mr_127 ?_
                  show xw J ov (d + 3) 125 (61, [(0, .ref 1), (1, .ref 63), (2, .int x2), (3, .int x3)], [], hh32) _
                  obtain ⟨v35, ev35⟩ : ∃ q : Int32, x3 + 1 = q := ⟨_, rfl⟩
                  have zv35 : v35.toInt = (x3.toInt + 1) := by rw [← ev35]; exact (xz_add (X := x3.toInt) (Y := 1) rfl (by decide) (by omega) (by omega)).trans (by omega)
                  refine xi_iinc (pc' := 64) (x := x3) (v := v35) (lv' := [(3, .int v35), (0, .ref 1), (1, .ref 63), (2, .int x2)]) kc_125_61 rfl rfl ev35 rfl (xm_lt ml_125 rfl) ?_
                  refine xi_goto (pc' := 2) kc_125_64 rfl ?_
                  refine xw_lv (b := [(0, .ref 1), (1, .ref 63), (2, .int x2), (3, .int v35)]) (lvS_cons (lvS_cons (lvS_cons (lvS_cons (lvS_nil (show ([3, 0, 1, 2] : List Nat).Nodup by decide)) rfl) rfl) rfl) rfl) ?_
                  have en : v35.toNatClampNeg = x3.toNatClampNeg + 1 := xcl2 b3.1 (by omega)
                  have hp := hC.2.2.1 x3.toNatClampNeg (by omega)
                  have zc99999 : (99999 : Int32).toInt = 99999 := by decide
                  have qat := xj_tn (i := u11) (by omega)
                  have hW := xrp_cg R34 (xwb_y (C := C) (hr := hr) (w := w) (i := x3.toNatClampNeg) (a := Int32.toNatClampNeg u11) (v := (v30 : Int32).toInt) (p := u12.toInt) (by omega) (by omega) (by omega) (by omega) (by omega) (by omega) (xcap_is (fun z => by omega) (fun z => by omega)))
                  exact ih v35 hh32 (by omega) K33 (by rw [en]; exact xra_mk eh32.1 hW) (by omega)
                · refine xi_cmf (pc' := 33) kc_127_30 rfl (xc_le_f (X := (v29.toInt + u12.toInt)) (Y := 99999) zv30 (by decide) (by omega)) ?_
                  refine xi_ldc (pc' := 35) (v := 99999) kc_127_33 rfl rfl ?_
                  refine xi_goto (pc' := 39) kc_127_35 rfl ?_
                  obtain ⟨y36, s36, hy36, ry36⟩ := xj_set (v := 99999) hy1 ry1 u11 (by first | omega | decide) (by first | omega | decide)
                  refine xi_iastore (pc' := 40) (x' := y36) kc_127_39 rfl A1 rfl (xi_in (by omega) (by rw [hy1]; omega)) s36 (fun hh36 eh36 => ?_)
                  have K37 := xk_pa K (xk_wa (by decide +kernel)) xD_64 hy36 ry36 eh36
                  have R38 : xrp y36 6 (xup (xwb C hr w x3.toNatClampNeg) (Int32.toNatClampNeg u11) (99999 : Int32).toInt) := xrp_set R2 s36
                  refine xi_return kc_127_40 mr_127 ?_
                  show xw J ov (d + 3) 125 (61, [(0, .ref 1), (1, .ref 63), (2, .int x2), (3, .int x3)], [], hh36) _
                  obtain ⟨v39, ev39⟩ : ∃ q : Int32, x3 + 1 = q := ⟨_, rfl⟩
                  have zv39 : v39.toInt = (x3.toInt + 1) := by rw [← ev39]; exact (xz_add (X := x3.toInt) (Y := 1) rfl (by decide) (by omega) (by omega)).trans (by omega)
                  refine xi_iinc (pc' := 64) (x := x3) (v := v39) (lv' := [(3, .int v39), (0, .ref 1), (1, .ref 63), (2, .int x2)]) kc_125_61 rfl rfl ev39 rfl (xm_lt ml_125 rfl) ?_
                  refine xi_goto (pc' := 2) kc_125_64 rfl ?_
                  refine xw_lv (b := [(0, .ref 1), (1, .ref 63), (2, .int x2), (3, .int v39)]) (lvS_cons (lvS_cons (lvS_cons (lvS_cons (lvS_nil (show ([3, 0, 1, 2] : List Nat).Nodup by decide)) rfl) rfl) rfl) rfl) ?_
                  have en : v39.toNatClampNeg = x3.toNatClampNeg + 1 := xcl2 b3.1 (by omega)
                  have hp := hC.2.2.1 x3.toNatClampNeg (by omega)
                  have zc99999 : (99999 : Int32).toInt = 99999 := by decide
                  have qat := xj_tn (i := u11) (by omega)
                  have hW := xrp_cg R38 (xwb_y (C := C) (hr := hr) (w := w) (i := x3.toNatClampNeg) (a := Int32.toNatClampNeg u11) (v := (99999 : Int32).toInt) (p := u12.toInt) (by omega) (by omega) (by omega) (by omega) (by omega) (by omega) (xcap_is (fun z => by omega) (fun z => by omega)))
                  exact ih v39 hh36 (by omega) K37 (by rw [en]; exact xra_mk eh36.1 hW) (by omega)
      · refine xi_cmt (pc' := 61) kc_125_26 rfl (xc_ne_t (X := u10.toInt) (Y := 3) rfl (by decide) (by omega)) ?_
        obtain ⟨v40, ev40⟩ : ∃ q : Int32, x3 + 1 = q := ⟨_, rfl⟩
        have zv40 : v40.toInt = (x3.toInt + 1) := by rw [← ev40]; exact (xz_add (X := x3.toInt) (Y := 1) rfl (by decide) (by omega) (by omega)).trans (by omega)
        refine xi_iinc (pc' := 64) (x := x3) (v := v40) (lv' := [(3, .int v40), (0, .ref 1), (1, .ref 63), (2, .int x2)]) kc_125_61 rfl rfl ev40 rfl (xm_lt ml_125 rfl) ?_
        refine xi_goto (pc' := 2) kc_125_64 rfl ?_
        refine xw_lv (b := [(0, .ref 1), (1, .ref 63), (2, .int x2), (3, .int v40)]) (lvS_cons (lvS_cons (lvS_cons (lvS_cons (lvS_nil (show ([3, 0, 1, 2] : List Nat).Nodup by decide)) rfl) rfl) rfl) rfl) ?_
        have en : v40.toNatClampNeg = x3.toNatClampNeg + 1 := xcl2 b3.1 (by omega)
        have hp := hC.2.2.1 x3.toNatClampNeg (by omega)
        exact ih v40 h (by omega) K (by rw [en]; exact xra_cg IW (xwb_n (fun r hr6 z => by obtain ⟨z0, z1, z4, z3⟩ := z; omega))) (by omega)
theorem xw_br {J : xe_J} {ov : List (List Int32)} (hJ : ∀ d mj as h, mj ≠ xe_loff → J d mj as h = none) (hov1 : ov[1]? = some [10, 0, 0, 0, 0, 0]) (hov2 : ov[2]? = some [99, 30, 50, 50, 1, 99999]) {d : Nat} {Q : Option Value → xe_H → Prop} {h : xe_H} {C : xFn} {w : Nat → Int} {hr : Int} {x2 : Int32} (T : xt h) (C0 : xcX h C) (hC : xcr C) (b2 : 0 ≤ x2.toInt ∧ x2.toInt ≤ 599) (eh : x2.toInt = hr) (hw : xwr 6 99999 w) (IW : xra h 64 6 w) (kk : ∀ h' : xe_H, xk xP_5 h h' → xra h' 64 6 (xwb C hr w (C 11 0).toNat) → Q none h') : xw J ov (d + 3) 125 (0, [(0, .ref 1), (1, .ref 63), (2, .int x2)], [], h) Q := by
  have zc0 : (0 : Int32).toInt = 0 := by decide
  have c11 := hC.1
  refine xi_iconst (pc' := 1) (v := 0) kc_125_0 rfl rfl ?_
  refine xi_istore_n (pc' := 2) (lv' := [(3, .int 0), (0, .ref 1), (1, .ref 63), (2, .int x2)]) kc_125_1 rfl rfl (xm_lt ml_125 rfl) ?_
  refine xw_lv (b := [(0, .ref 1), (1, .ref 63), (2, .int x2), (3, .int 0)]) (lvS_cons (lvS_cons (lvS_cons (lvS_cons (lvS_nil (show ([3, 0, 1, 2] : List Nat).Nodup by decide)) rfl) rfl) rfl) rfl) ?_
  exact br_lp hJ hov1 hov2 C0 hC hw b2 eh kk 11 0 h (by omega) (xk_re T) (xra_cg IW (xwb_0 hw)) (by omega)
set_option maxHeartbeats 8000000 in
theorem xw_ar {J : xe_J} {ov : List (List Int32)} (hJ : ∀ d mj as h, mj ≠ xe_loff → J d mj as h = none) (hov1 : ov[1]? = some [10, 0, 0, 0, 0, 0]) (hov2 : ov[2]? = some [99, 30, 50, 50, 1, 99999]) {d : Nat} {Q : Option Value → xe_H → Prop} {h : xe_H} {C st : xFn} {gw : Nat → Int} {hr : Int} {x2 x3 x4 : Int32} (T : xt h) (C0 : xcX h C) (hC : xcr C) (I6 : xg6 h st) (hq : xsq st) (IW : xra h 64 6 gw) (hw : xwr 6 99999 gw) (b2 : 0 ≤ x2.toInt ∧ x2.toInt ≤ 5) (b3 : 0 ≤ x3.toInt ∧ x3.toInt ≤ 599) (eh : x3.toInt = hr) (b4 : -20 ≤ x4.toInt ∧ x4.toInt ≤ 99) (kk : ∀ h' : xe_H, xk xP_5 h h' → xra h' 64 6 (xup gw x2.toNatClampNeg (xro (gw x2.toNatClampNeg) (C (20 + x2.toNatClampNeg) (hr % 24).toNat) (st x2.toNatClampNeg 0) (st x2.toNatClampNeg 1) (st x2.toNatClampNeg 2 + (if st x2.toNatClampNeg 4 = 1 then st x2.toNatClampNeg 3 else 0)) (xho x4.toInt))) → Q none h') : xw J ov (d + 4) 128 (0, [(0, .ref 1), (1, .ref 63), (2, .int x2), (3, .int x3), (4, .int x4)], [], h) Q := by
  have K : xk xP_5 h h := xk_re T
  refine xi_aload_n (pc' := 1) (x := 1) kc_128_0 rfl rfl ?_
  obtain ⟨u1, u2, bu1, bu2, A3⟩ := xq_1 K.1
  have C4 : xcX h C := xcX_k C0 K (by decide +kernel)
  have hfu1 : u1.toInt = (C 11 0) := xfi_ld C4.1 A3 rfl
  refine xi_getfield (pc' := 4) (v := .ref 2) kc_128_1 rfl rfl rfl A3 rfl ?_
  refine xi_iload_n (pc' := 5) (x := x2) kc_128_4 rfl rfl ?_
  have A5 := xk_ex K.1 xD_2
  by_cases c6 : x2.toInt = 0
  · have qx2 : x2 = 0 := xc_of (Eq.trans (by omega) (show (0 : Int) = (0 : Int32).toInt by decide))
    subst qx2
    refine xi_aaload (pc' := 6) (b := 11) kc_128_5 rfl A5 rfl (xi_in (n := 6) (by decide) (by decide)) rfl ?_
    refine xi_astore (pc' := 8) (lv' := [(5, .ref 11), (0, .ref 1), (1, .ref 63), (2, .int 0), (3, .int x3), (4, .int x4)]) kc_128_6 rfl rfl (xm_lt ml_128 rfl) ?_
    refine xi_aload_n (pc' := 9) (x := 63) kc_128_8 rfl rfl ?_
    refine xi_iload_n (pc' := 10) (x := 0) kc_128_9 rfl rfl ?_
    refine xi_aload (pc' := 12) (x := 11) kc_128_10 rfl rfl ?_
    have A7 := xq_11 K.1
    refine xi_getfield (pc' := 15) (v := .ref 13) kc_128_12 rfl rfl rfl A7 rfl ?_
    refine xi_iload_n (pc' := 16) (x := x3) kc_128_15 rfl rfl ?_
    refine xi_bipush (pc' := 18) (v := 24) kc_128_16 rfl rfl ?_
    refine xi_static (mj := 3) (as := [.int x3, .int 24]) (st1 := [.ref 13, .int 0, .ref 63]) (lv0 := [(0, .int x3), (1, .int 24)]) kc_128_18 rfl rfl (Nat.le_of_ble_eq_true rfl) rfl rfl (Nat.le_of_ble_eq_true rfl) (hJ _ _ _ _ (by decide)) (xm_le ml_3 rfl) rfl ?_
    refine xi_iload_n (pc' := 1) (x := x3) kc_3_0 rfl rfl ?_
    refine xi_iload_n (pc' := 2) (x := 24) kc_3_1 rfl rfl ?_
    obtain ⟨v8, ev8⟩ : ∃ q : Int32, x3 - x3 / 24 * 24 = q := ⟨_, rfl⟩
    have dv8 : v8.toInt = x3.toInt % 24 := by rw [← ev8]; exact xz_reme (X := x3.toInt) (Y := 24) rfl (by decide) (by omega) (by decide)
    have bv8 : 0 ≤ v8.toInt ∧ v8.toInt ≤ 23 := by omega
    refine xi_irem (pc' := 3) (v := v8) kc_3_2 rfl ev8 (by decide) ?_
    refine xi_istore_n (pc' := 4) (lv' := [(2, .int v8), (0, .int x3), (1, .int 24)]) kc_3_3 rfl rfl (xm_lt ml_3 rfl) ?_
    refine xi_iload_n (pc' := 5) (x := x3) kc_3_4 rfl rfl ?_
    refine xi_iload_n (pc' := 6) (x := 24) kc_3_5 rfl rfl ?_
    obtain ⟨v9, ev9⟩ : ∃ q : Int32, (x3 : Int32) ^^^ 24 = q := ⟨_, rfl⟩
    have rv9 := xc_rng v9
    have bv9 : 0 ≤ v9.toInt := by rw [← ev9]; exact xz_xor (by first | omega | decide) (by first | omega | decide)
    refine xi_ixor (pc' := 7) (v := v9) kc_3_6 rfl ev9 ?_
    refine xi_ift (pc' := 18) kc_3_7 rfl (xc_ge_t (X := v9.toInt) (Y := 0) rfl (by decide) (by omega)) ?_
    refine xi_iload_n (pc' := 19) (x := v8) kc_3_18 rfl rfl ?_
    refine xi_ireturn kc_3_19 mr_3 rfl ?_
    show xw J ov (d + 4) 128 (21, [(5, .ref 11), (0, .ref 1), (1, .ref 63), (2, .int 0), (3, .int x3), (4, .int x4)], [.int v8, .ref 13, .int 0, .ref 63], h) _
    obtain ⟨y10, A10, hy10, ry10⟩ := xk_arr K.1 xD_13
    have R11 : xrp y10 24 (C 20) := xra_ld C4.2.2.1 A10
    obtain ⟨v12, ev12, bv12, dv12⟩ := xj_get hy10 ry10 (i := v8) (by omega) (by omega)
    refine xi_iaload (pc' := 22) (v := v12) kc_128_21 rfl A10 (by decide) rfl (xi_in (by omega) (by rw [hy10]; omega)) ev12 ?_
    have hlv12 : v12.toInt = (C 20) (Int32.toNatClampNeg v8) := xrp_ld R11 (by omega) (by omega) ev12
    have brv12 : 0 ≤ v12.toInt ∧ v12.toInt ≤ 999 := by have hz : 0 ≤ C 20 (Int32.toNatClampNeg v8) ∧ C 20 (Int32.toNatClampNeg v8) ≤ 999 := hC.2.2.2.2.2 0 (by omega) (Int32.toNatClampNeg v8) (by have := xj_tn (i := v8) (by omega); omega); omega
    obtain ⟨u13, u14, bu13, bu14, A15⟩ := xq_63 K.1
    have hfu14 : u14.toInt = 63 := xfi_ld C4.2.2.2.2.2.2.2.2.2.2.2.2.2.2.2.2.2.2.2 A15 rfl
    refine xi_virtual (mj := 127) (as := [.int 0, .int v12]) (st1 := []) (lv0 := [(0, .ref 63), (1, .int 0), (2, .int v12)]) kc_128_22 rfl rfl rfl rfl rfl A15 (Nat.le_of_ble_eq_true rfl) (hJ _ _ _ _ (by decide)) (xm_le ml_127 rfl) rfl ?_
    refine xi_iload_n (pc' := 1) (x := 0) kc_127_0 rfl rfl ?_
    refine xi_iff (pc' := 4) kc_127_1 rfl rfl ?_
    refine xi_iload_n (pc' := 5) (x := 0) kc_127_4 rfl rfl ?_
    refine xi_aload_n (pc' := 6) (x := 63) kc_127_5 rfl rfl ?_
    refine xi_getfield (pc' := 9) (v := .ref 64) kc_127_6 rfl rfl rfl A15 rfl ?_
    obtain ⟨y16, A16, hy16, ry16⟩ := xk_arr K.1 xD_64
    have R17 : xrp y16 6 gw := xra_ld IW A16
    refine xi_arraylength (pc' := 10) (n := 6) (v := 6) kc_127_9 rfl (xl_lenI (by decide) (by decide) A16 hy16) rfl ?_
    refine xi_cmf (pc' := 13) kc_127_10 rfl rfl ?_
    refine xi_aload_n (pc' := 14) (x := 63) kc_127_13 rfl rfl ?_
    refine xi_getfield (pc' := 17) (v := .ref 64) kc_127_14 rfl rfl rfl A15 rfl ?_
    refine xi_iload_n (pc' := 18) (x := 0) kc_127_17 rfl rfl ?_
    obtain ⟨v18, ev18, bv18, dv18⟩ := xj_get hy16 ry16 (i := 0) (by decide) (by decide)
    refine xi_iaload (pc' := 19) (v := v18) kc_127_18 rfl A16 (by decide) rfl (xi_in (by decide) (by rw [hy16]; decide)) ev18 ?_
    have hlv18 : v18.toInt = gw 0 := xrp_ldc R17 (k := 0) (by decide) (by decide) ev18
    have brv18 : 0 ≤ v18.toInt ∧ v18.toInt ≤ 99999 := by have := hw 0 (by omega); omega
    refine xi_iload_n (pc' := 20) (x := v12) kc_127_19 rfl rfl ?_
    obtain ⟨v19, ev19⟩ : ∃ q : Int32, v18 + v12 = q := ⟨_, rfl⟩
    have zv19 : v19.toInt = (v18.toInt + v12.toInt) := by rw [← ev19]; exact (xz_add (X := v18.toInt) (Y := v12.toInt) rfl rfl (by omega) (by omega)).trans (by omega)
    refine xi_iadd (pc' := 21) (v := v19) kc_127_20 rfl ev19 ?_
    refine xi_istore_n (pc' := 22) (lv' := [(3, .int v19), (0, .ref 63), (1, .int 0), (2, .int v12)]) kc_127_21 rfl rfl (xm_lt ml_127 rfl) ?_
    refine xi_aload_n (pc' := 23) (x := 63) kc_127_22 rfl rfl ?_
    refine xi_getfield (pc' := 26) (v := .ref 64) kc_127_23 rfl rfl rfl A15 rfl ?_
    refine xi_iload_n (pc' := 27) (x := 0) kc_127_26 rfl rfl ?_
    refine xi_iload_n (pc' := 28) (x := v19) kc_127_27 rfl rfl ?_
    refine xi_ldc (pc' := 30) (v := 99999) kc_127_28 rfl rfl ?_
    by_cases c20 : (v18.toInt + v12.toInt) ≤ 99999
    · refine xi_cmt (pc' := 38) kc_127_30 rfl (xc_le_t (X := (v18.toInt + v12.toInt)) (Y := 99999) zv19 (by decide) (by omega)) ?_
      refine xi_iload_n (pc' := 39) (x := v19) kc_127_38 rfl rfl ?_
      obtain ⟨y21, s21, hy21, ry21⟩ := xj_set (v := v19) hy16 ry16 0 (by first | omega | decide) (by first | omega | decide)
      refine xi_iastore (pc' := 40) (x' := y21) kc_127_39 rfl A16 rfl (xi_in (by decide) (by rw [hy16]; decide)) s21 (fun hh21 eh21 => ?_)
      have K22 := xk_pa K (xk_wa (by decide +kernel)) xD_64 hy21 ry21 eh21
      have R23 : xrp y21 6 (xup gw 0 (v19 : Int32).toInt) := xrp_setc R17 s21 (by decide) rfl
      refine xi_return kc_127_40 mr_127 ?_
      show xw J ov (d + 4) 128 (25, [(5, .ref 11), (0, .ref 1), (1, .ref 63), (2, .int 0), (3, .int x3), (4, .int x4)], [], hh21) _
      refine xi_aload_n (pc' := 26) (x := 63) kc_128_25 rfl rfl ?_
      have A24 := ((eh21.2.1 63 (by decide)).trans A15)
      refine xi_getfield (pc' := 29) (v := .ref 64) kc_128_26 rfl rfl rfl A24 rfl ?_
      refine xi_iload_n (pc' := 30) (x := 0) kc_128_29 rfl rfl ?_
      obtain ⟨v25, ev25, bv25, dv25⟩ := xj_get hy21 ry21 (i := 0) (by decide) (by decide)
      refine xi_iaload (pc' := 31) (v := v25) kc_128_30 rfl eh21.1 (by decide) rfl (xi_in (by decide) (by rw [hy21]; decide)) ev25 ?_
      have hlv25 : v25.toInt = (v19 : Int32).toInt := (xrp_ldc R23 (k := 0) (by decide) (by decide) ev25).trans xup_s
      refine xi_istore (pc' := 33) (lv' := [(6, .int v25), (5, .ref 11), (0, .ref 1), (1, .ref 63), (2, .int 0), (3, .int x3), (4, .int x4)]) kc_128_31 rfl rfl (xm_lt ml_128 rfl) ?_
      refine xi_aload (pc' := 35) (x := 11) kc_128_33 rfl rfl ?_
      have A26 := ((eh21.2.1 11 (by decide)).trans A7)
      refine xi_getfield (pc' := 38) (v := .ref 12) kc_128_35 rfl rfl rfl A26 rfl ?_
      refine xi_iconst (pc' := 39) (v := 0) kc_128_38 rfl rfl ?_
      obtain ⟨y27, A27, hy27, ry27⟩ := xk_arr K22.1 xD_12
      have R28 : xrp y27 5 (st 0) := xra_ld (xg6_k I6 K22 (by decide +kernel)).1 A27
      obtain ⟨v29, ev29, bv29, dv29⟩ := xj_get hy27 ry27 (i := 0) (by decide) (by decide)
      refine xi_iaload (pc' := 40) (v := v29) kc_128_39 rfl A27 (by decide) rfl (xi_in (by decide) (by rw [hy27]; decide)) ev29 ?_
      have hlv29 : v29.toInt = (st 0) 0 := xrp_ldc R28 (k := 0) (by decide) (by decide) ev29
      have brv29 : 0 ≤ v29.toInt ∧ v29.toInt ≤ 99 := by have := hq 0 (by omega); omega
      refine xi_istore (pc' := 42) (lv' := [(7, .int v29), (6, .int v25), (5, .ref 11), (0, .ref 1), (1, .ref 63), (2, .int 0), (3, .int x3), (4, .int x4)]) kc_128_40 rfl rfl (xm_lt ml_128 rfl) ?_
      refine xi_iload (pc' := 44) (x := v29) kc_128_42 rfl rfl ?_
      refine xi_iload (pc' := 46) (x := x4) kc_128_44 rfl rfl ?_
      refine xi_static (mj := 102) (as := [.int x4]) (st1 := [.int v29]) (lv0 := [(0, .int x4)]) kc_128_46 rfl rfl (Nat.le_of_ble_eq_true rfl) rfl rfl (Nat.le_of_ble_eq_true rfl) (hJ _ _ _ _ (by decide)) (xm_le ml_102 rfl) rfl ?_
      refine xw_gx hJ hov1 hov2 (d := d + 1) (x0 := x4) (by omega) (fun r30 hr30 br30 => ?_)
      show xw J ov (d + 4) 128 (49, [(7, .int v29), (6, .int v25), (5, .ref 11), (0, .ref 1), (1, .ref 63), (2, .int 0), (3, .int x3), (4, .int x4)], [.int r30, .int v29], hh21) _
      obtain ⟨v31, ev31⟩ : ∃ q : Int32, (v29 : Int32) * r30 = q := ⟨_, rfl⟩
      have rv31 := xc_rng v31
      refine xi_imul (pc' := 50) (v := v31) kc_128_49 rfl ev31 ?_
      refine xi_iconst (pc' := 51) (v := 2) kc_128_50 rfl rfl ?_
      obtain ⟨v32, ev32⟩ : ∃ q : Int32, v31 / 2 = q := ⟨_, rfl⟩
      have dv32 : 2 * v32.toInt ≤ v31.toInt + 1 ∧ v31.toInt ≤ 2 * v32.toInt + 1 := by rw [← ev32]; exact xz_div (X := v31.toInt) (Y := 2) rfl (by decide) (by decide)
      have bv32 : -1073741825 ≤ v32.toInt ∧ v32.toInt ≤ 1073741824 := by omega
      refine xi_idiv (pc' := 52) (v := v32) kc_128_51 rfl ev32 (by decide) ?_
      refine xi_istore (pc' := 54) (lv' := [(8, .int v32), (7, .int v29), (6, .int v25), (5, .ref 11), (0, .ref 1), (1, .ref 63), (2, .int 0), (3, .int x3), (4, .int x4)]) kc_128_52 rfl rfl (xm_lt ml_128 rfl) ?_
      refine xi_iload (pc' := 56) (x := v25) kc_128_54 rfl rfl ?_
      refine xi_iload (pc' := 58) (x := v25) kc_128_56 rfl rfl ?_
      refine xi_iload (pc' := 60) (x := v32) kc_128_58 rfl rfl ?_
      obtain ⟨v33, ev33⟩ : ∃ q : Int32, (v25 : Int32) - v32 = q := ⟨_, rfl⟩
      have rv33 := xc_rng v33
      refine xi_isub (pc' := 61) (v := v33) kc_128_60 rfl ev33 ?_
      refine xi_aload (pc' := 63) (x := 11) kc_128_61 rfl rfl ?_
      refine xi_virtual (mj := 129) (as := []) (st1 := [.int v33, .int v25]) (lv0 := [(0, .ref 11)]) kc_128_63 rfl rfl rfl rfl rfl A26 (Nat.le_of_ble_eq_true rfl) (hJ _ _ _ _ (by decide)) (xm_le ml_129 rfl) rfl ?_
      refine xi_aload_n (pc' := 1) (x := 11) kc_129_0 rfl rfl ?_
      refine xi_getfield (pc' := 4) (v := .ref 12) kc_129_1 rfl rfl rfl A26 rfl ?_
      refine xi_iconst (pc' := 5) (v := 2) kc_129_4 rfl rfl ?_
      obtain ⟨v34, ev34, bv34, dv34⟩ := xj_get hy27 ry27 (i := 2) (by decide) (by decide)
      refine xi_iaload (pc' := 6) (v := v34) kc_129_5 rfl A27 (by decide) rfl (xi_in (by decide) (by rw [hy27]; decide)) ev34 ?_
      have hlv34 : v34.toInt = (st 0) 2 := xrp_ldc R28 (k := 2) (by decide) (by decide) ev34
      have brv34 : 0 ≤ v34.toInt ∧ v34.toInt ≤ 99 := by have := hq 0 (by omega); omega
      refine xi_aload_n (pc' := 7) (x := 11) kc_129_6 rfl rfl ?_
      refine xi_getfield (pc' := 10) (v := .ref 12) kc_129_7 rfl rfl rfl A26 rfl ?_
      refine xi_iconst (pc' := 11) (v := 4) kc_129_10 rfl rfl ?_
      obtain ⟨v35, ev35, bv35, dv35⟩ := xj_get hy27 ry27 (i := 4) (by decide) (by decide)
      refine xi_iaload (pc' := 12) (v := v35) kc_129_11 rfl A27 (by decide) rfl (xi_in (by decide) (by rw [hy27]; decide)) ev35 ?_
      have hlv35 : v35.toInt = (st 0) 4 := xrp_ldc R28 (k := 4) (by decide) (by decide) ev35
      have brv35 : 0 ≤ v35.toInt ∧ v35.toInt ≤ 99 := by have := hq 0 (by omega); omega
      refine xi_iconst (pc' := 13) (v := 1) kc_129_12 rfl rfl ?_
      by_cases c36 : v35.toInt = 1
      · refine xi_cmf (pc' := 16) kc_129_13 rfl (xc_ne_f (X := v35.toInt) (Y := 1) rfl (by decide) (by omega)) ?_
        refine xi_aload_n (pc' := 17) (x := 11) kc_129_16 rfl rfl ?_
        refine xi_getfield (pc' := 20) (v := .ref 12) kc_129_17 rfl rfl rfl A26 rfl ?_
        refine xi_iconst (pc' := 21) (v := 3) kc_129_20 rfl rfl ?_
        obtain ⟨v37, ev37, bv37, dv37⟩ := xj_get hy27 ry27 (i := 3) (by decide) (by decide)
        refine xi_iaload (pc' := 22) (v := v37) kc_129_21 rfl A27 (by decide) rfl (xi_in (by decide) (by rw [hy27]; decide)) ev37 ?_
        have hlv37 : v37.toInt = (st 0) 3 := xrp_ldc R28 (k := 3) (by decide) (by decide) ev37
        have brv37 : 0 ≤ v37.toInt ∧ v37.toInt ≤ 99 := by have := hq 0 (by omega); omega
        refine xi_goto (pc' := 26) kc_129_22 rfl ?_
        obtain ⟨v38, ev38⟩ : ∃ q : Int32, v34 + v37 = q := ⟨_, rfl⟩
        have zv38 : v38.toInt = (v34.toInt + v37.toInt) := by rw [← ev38]; exact (xz_add (X := v34.toInt) (Y := v37.toInt) rfl rfl (by omega) (by omega)).trans (by omega)
        refine xi_iadd (pc' := 27) (v := v38) kc_129_26 rfl ev38 ?_
        refine xi_ireturn kc_129_27 mr_129 rfl ?_
        show xw J ov (d + 4) 128 (66, [(8, .int v32), (7, .int v29), (6, .int v25), (5, .ref 11), (0, .ref 1), (1, .ref 63), (2, .int 0), (3, .int x3), (4, .int x4)], [.int v38, .int v33, .int v25], hh21) _
        obtain ⟨v39, ev39⟩ : ∃ q : Int32, (v33 : Int32) * v38 = q := ⟨_, rfl⟩
        have rv39 := xc_rng v39
        refine xi_imul (pc' := 67) (v := v39) kc_128_66 rfl ev39 ?_
        refine xi_bipush (pc' := 69) (v := 100) kc_128_67 rfl rfl ?_
        obtain ⟨v40, ev40⟩ : ∃ q : Int32, v39 / 100 = q := ⟨_, rfl⟩
        have dv40 : 100 * v40.toInt ≤ v39.toInt + 99 ∧ v39.toInt ≤ 100 * v40.toInt + 99 := by rw [← ev40]; exact xz_div (X := v39.toInt) (Y := 100) rfl (by decide) (by decide)
        have bv40 : -21474837 ≤ v40.toInt ∧ v40.toInt ≤ 21474837 := by omega
        refine xi_idiv (pc' := 70) (v := v40) kc_128_69 rfl ev40 (by decide) ?_
        obtain ⟨v41, ev41⟩ : ∃ q : Int32, (v25 : Int32) - v40 = q := ⟨_, rfl⟩
        have rv41 := xc_rng v41
        refine xi_isub (pc' := 71) (v := v41) kc_128_70 rfl ev41 ?_
        refine xi_istore (pc' := 73) (lv' := [(6, .int v41), (8, .int v32), (7, .int v29), (5, .ref 11), (0, .ref 1), (1, .ref 63), (2, .int 0), (3, .int x3), (4, .int x4)]) kc_128_71 rfl rfl (xm_lt ml_128 rfl) ?_
        refine xi_aload (pc' := 75) (x := 11) kc_128_73 rfl rfl ?_
        refine xi_getfield (pc' := 78) (v := .ref 12) kc_128_75 rfl rfl rfl A26 rfl ?_
        refine xi_iconst (pc' := 79) (v := 1) kc_128_78 rfl rfl ?_
        obtain ⟨v42, ev42, bv42, dv42⟩ := xj_get hy27 ry27 (i := 1) (by decide) (by decide)
        refine xi_iaload (pc' := 80) (v := v42) kc_128_79 rfl A27 (by decide) rfl (xi_in (by decide) (by rw [hy27]; decide)) ev42 ?_
        have hlv42 : v42.toInt = (st 0) 1 := xrp_ldc R28 (k := 1) (by decide) (by decide) ev42
        have brv42 : 0 ≤ v42.toInt ∧ v42.toInt ≤ 99 := by have := hq 0 (by omega); omega
        refine xi_istore (pc' := 82) (lv' := [(9, .int v42), (6, .int v41), (8, .int v32), (7, .int v29), (5, .ref 11), (0, .ref 1), (1, .ref 63), (2, .int 0), (3, .int x3), (4, .int x4)]) kc_128_80 rfl rfl (xm_lt ml_128 rfl) ?_
        refine xi_iload (pc' := 84) (x := v29) kc_128_82 rfl rfl ?_
        refine xi_iload (pc' := 86) (x := v42) kc_128_84 rfl rfl ?_
        refine xi_static (mj := 102) (as := [.int v42]) (st1 := [.int v29]) (lv0 := [(0, .int v42)]) kc_128_86 rfl rfl (Nat.le_of_ble_eq_true rfl) rfl rfl (Nat.le_of_ble_eq_true rfl) (hJ _ _ _ _ (by decide)) (xm_le ml_102 rfl) rfl ?_
        refine xw_gx hJ hov1 hov2 (d := d + 1) (x0 := v42) (by omega) (fun r43 hr43 br43 => ?_)
        show xw J ov (d + 4) 128 (89, [(9, .int v42), (6, .int v41), (8, .int v32), (7, .int v29), (5, .ref 11), (0, .ref 1), (1, .ref 63), (2, .int 0), (3, .int x3), (4, .int x4)], [.int r43, .int v29], hh21) _
        obtain ⟨v44, ev44⟩ : ∃ q : Int32, (v29 : Int32) * r43 = q := ⟨_, rfl⟩
        have rv44 := xc_rng v44
        refine xi_imul (pc' := 90) (v := v44) kc_128_89 rfl ev44 ?_
        refine xi_istore (pc' := 92) (lv' := [(10, .int v44), (9, .int v42), (6, .int v41), (8, .int v32), (7, .int v29), (5, .ref 11), (0, .ref 1), (1, .ref 63), (2, .int 0), (3, .int x3), (4, .int x4)]) kc_128_90 rfl rfl (xm_lt ml_128 rfl) ?_
        refine xi_iload (pc' := 94) (x := v41) kc_128_92 rfl rfl ?_
        refine xi_iload (pc' := 96) (x := v44) kc_128_94 rfl rfl ?_
        by_cases c45 : v41.toInt ≤ v44.toInt
        · refine xi_cmt (pc' := 119) kc_128_96 rfl (xc_le_t (X := v41.toInt) (Y := v44.toInt) rfl rfl (by omega)) ?_
          refine xi_aload_n (pc' := 120) (x := 63) kc_128_119 rfl rfl ?_
          refine xi_getfield (pc' := 123) (v := .ref 64) kc_128_120 rfl rfl rfl A24 rfl ?_
          refine xi_iload_n (pc' := 124) (x := 0) kc_128_123 rfl rfl ?_
          refine xi_iload (pc' := 126) (x := v41) kc_128_124 rfl rfl ?_
          obtain ⟨y46, s46, hy46, ry46⟩ := xj_set (v := v41) hy21 ry21 0 (by first | omega | decide) (by first | omega | decide)
          refine xi_iastore (pc' := 127) (x' := y46) kc_128_126 rfl eh21.1 rfl (xi_in (by decide) (by rw [hy21]; decide)) s46 (fun hh46 eh46 => ?_)
          have K47 := xk_pa K22 (xk_wa (by decide +kernel)) xD_64 hy46 ry46 eh46
          have R48 : xrp y46 6 (xup (xup gw 0 (v19 : Int32).toInt) 0 (v41 : Int32).toInt) := xrp_setc R23 s46 (by decide) rfl
          refine xi_return kc_128_127 mr_128 ?_
          have hqr := hq 0 (by omega)
          have hwr := hw 0 (by omega)
          have em : Int32.toNatClampNeg v8 = (hr % 24).toNat := xcl3 (by omega) (by omega)
          have hmr : 0 ≤ C 20 (hr % 24).toNat ∧ C 20 (hr % 24).toNat ≤ 999 := hC.2.2.2.2.2 0 (by omega) (hr % 24).toNat (by omega)
          rw [em] at hlv12
          have n1 : Int32.toNatClampNeg 0 = 0 := by decide
          rw [n1] at kk
          have zc99999 : (99999 : Int32).toInt = 99999 := by decide
          have ew : (v25 : Int32).toInt = xcap (gw 0 + C 20 (hr % 24).toNat) := xcap_is (fun z => by omega) (fun z => by omega)
          have hfan := xc_of_fan hq (show 0 < 6 by omega)
          have ec : (v38 : Int32).toInt = st 0 2 + (if st 0 4 = 1 then st 0 3 else 0) := by rw [if_pos (show st 0 4 = 1 by omega)]; omega
          have hcb := xho_b b4.1 b4.2
          have eg : (r43 : Int32).toInt = xho (st 0 1) := by rw [hr43, show (v42 : Int32).toInt = st 0 1 by omega]
          obtain ⟨ha1, ha2, ha3, ha4⟩ := xair ew (show (v29 : Int32).toInt = st 0 0 by omega) hr30 ec eg (xcap_b (by omega)) hqr.1 ⟨by omega, by omega⟩ hfan ⟨by omega, by omega⟩ ev31 ev32 ev33 ev39 ev40 ev41 ev44
          have hv := xro_v ha1 ha3
          have hW := xrp_fn R48 (show _ = (xup gw 0 (xro (gw 0) (C 20 (hr % 24).toNat) (st 0 0) (st 0 1) (st 0 2 + (if st 0 4 = 1 then st 0 3 else 0)) (xho x4.toInt))) from (congrArg (xup _ 0) (show (v41 : Int32).toInt = _ from hv.2 (by omega))).trans xup_2)
          exact kk hh46 K47 (xra_mk eh46.1 hW)
        · refine xi_cmf (pc' := 99) kc_128_96 rfl (xc_le_f (X := v41.toInt) (Y := v44.toInt) rfl rfl (by omega)) ?_
          refine xi_aload_n (pc' := 100) (x := 1) kc_128_99 rfl rfl ?_
          refine xi_aload_n (pc' := 101) (x := 63) kc_128_100 rfl rfl ?_
          refine xi_iload_n (pc' := 102) (x := 0) kc_128_101 rfl rfl ?_
          refine xi_iload (pc' := 104) (x := v41) kc_128_102 rfl rfl ?_
          refine xi_iload (pc' := 106) (x := v44) kc_128_104 rfl rfl ?_
          obtain ⟨v49, ev49⟩ : ∃ q : Int32, (v41 : Int32) - v44 = q := ⟨_, rfl⟩
          have rv49 := xc_rng v49
          refine xi_isub (pc' := 107) (v := v49) kc_128_106 rfl ev49 ?_
          refine xi_iload (pc' := 109) (x := v42) kc_128_107 rfl rfl ?_
          refine xi_iload (pc' := 111) (x := x4) kc_128_109 rfl rfl ?_
          obtain ⟨v50, ev50⟩ : ∃ q : Int32, v42 - x4 = q := ⟨_, rfl⟩
          have zv50 : v50.toInt = (v42.toInt + (-1) * x4.toInt) := by rw [← ev50]; exact (xz_sub (X := v42.toInt) (Y := x4.toInt) rfl rfl (by omega) (by omega)).trans (by omega)
          refine xi_isub (pc' := 112) (v := v50) kc_128_111 rfl ev50 ?_
          have A51 := ((eh21.2.1 1 (by decide)).trans A3)
          refine xi_virtual (mj := 130) (as := [.ref 63, .int 0, .int v49, .int v50]) (st1 := []) (lv0 := [(0, .ref 1), (1, .ref 63), (2, .int 0), (3, .int v49), (4, .int v50)]) kc_128_112 rfl rfl rfl rfl rfl A51 (Nat.le_of_ble_eq_true rfl) (hJ _ _ _ _ (by decide)) (xm_le ml_130 rfl) rfl ?_
          have zc0 : (0 : Int32).toInt = 0 := by decide
          refine mt_130_0 hJ hov1 hov2 (d := d + 1) (x2 := 0) (x3 := v49) (x4 := v50) K22.1 (by first | omega | decide) (fun hh53 K54 => ?_)
          have A55 := ((eh21.2.1 13 (by decide)).trans A10)
          have K56 := xk_tr K22 K54 (xsb_ok _ _ (by decide +kernel))
          obtain ⟨u57, u58, bu57, bu58, A59⟩ := xq_1 K56.1
          have C60 : xcX hh53 C := xcX_k C0 K56 (by decide +kernel)
          have hfu57 : u57.toInt = (C 11 0) := xfi_ld C60.1 A59 rfl
          have e61 : u1 = u57 := xk_eqi (q := 5) K54 (by decide +kernel) A51 A59 rfl rfl
          subst e61
          have A62 := xk_eqa (q := 0) K54 (by decide +kernel) A55
          obtain ⟨u63, u64, bu63, bu64, A65⟩ := xq_63 K56.1
          have hfu64 : u64.toInt = 63 := xfi_ld C60.2.2.2.2.2.2.2.2.2.2.2.2.2.2.2.2.2.2.2 A65 rfl
          have e66 : u13 = u63 := xk_eqi (q := 2) K54 (by decide +kernel) A24 A65 rfl rfl
          subst e66
          have e67 : u14 = u64 := xk_eqi (q := 3) K54 (by decide +kernel) A24 A65 rfl rfl
          subst e67
          have A68 := xk_eqa (q := 0) K54 (by decide +kernel) eh21.1
          have A69 := xk_eqa (q := 0) K54 (by decide +kernel) A27
          show xw J ov (d + 4) 128 (115, [(10, .int v44), (9, .int v42), (6, .int v41), (8, .int v32), (7, .int v29), (5, .ref 11), (0, .ref 1), (1, .ref 63), (2, .int 0), (3, .int x3), (4, .int x4)], [], hh53) _
          refine xi_iload (pc' := 117) (x := v44) kc_128_115 rfl rfl ?_
          refine xi_istore (pc' := 119) (lv' := [(6, .int v44), (10, .int v44), (9, .int v42), (8, .int v32), (7, .int v29), (5, .ref 11), (0, .ref 1), (1, .ref 63), (2, .int 0), (3, .int x3), (4, .int x4)]) kc_128_117 rfl rfl (xm_lt ml_128 rfl) ?_
          refine xi_aload_n (pc' := 120) (x := 63) kc_128_119 rfl rfl ?_
          refine xi_getfield (pc' := 123) (v := .ref 64) kc_128_120 rfl rfl rfl A65 rfl ?_
          refine xi_iload_n (pc' := 124) (x := 0) kc_128_123 rfl rfl ?_
          refine xi_iload (pc' := 126) (x := v44) kc_128_124 rfl rfl ?_
          obtain ⟨y70, s70, hy70, ry70⟩ := xj_set (v := v44) hy21 ry21 0 (by first | omega | decide) (by first | omega | decide)
          refine xi_iastore (pc' := 127) (x' := y70) kc_128_126 rfl A68 rfl (xi_in (by decide) (by rw [hy21]; decide)) s70 (fun hh70 eh70 => ?_)
          have K71 := xk_pa K56 (xk_wa (by decide +kernel)) xD_64 hy70 ry70 eh70
          have R72 : xrp y70 6 (xup (xup gw 0 (v19 : Int32).toInt) 0 (v44 : Int32).toInt) := xrp_setc R23 s70 (by decide) rfl
          refine xi_return kc_128_127 mr_128 ?_
          have hqr := hq 0 (by omega)
          have hwr := hw 0 (by omega)
          have em : Int32.toNatClampNeg v8 = (hr % 24).toNat := xcl3 (by omega) (by omega)
          have hmr : 0 ≤ C 20 (hr % 24).toNat ∧ C 20 (hr % 24).toNat ≤ 999 := hC.2.2.2.2.2 0 (by omega) (hr % 24).toNat (by omega)
          rw [em] at hlv12
          have n1 : Int32.toNatClampNeg 0 = 0 := by decide
          rw [n1] at kk
          have zc99999 : (99999 : Int32).toInt = 99999 := by decide
          have ew : (v25 : Int32).toInt = xcap (gw 0 + C 20 (hr % 24).toNat) := xcap_is (fun z => by omega) (fun z => by omega)
          have hfan := xc_of_fan hq (show 0 < 6 by omega)
          have ec : (v38 : Int32).toInt = st 0 2 + (if st 0 4 = 1 then st 0 3 else 0) := by rw [if_pos (show st 0 4 = 1 by omega)]; omega
          have hcb := xho_b b4.1 b4.2
          have eg : (r43 : Int32).toInt = xho (st 0 1) := by rw [hr43, show (v42 : Int32).toInt = st 0 1 by omega]
          obtain ⟨ha1, ha2, ha3, ha4⟩ := xair ew (show (v29 : Int32).toInt = st 0 0 by omega) hr30 ec eg (xcap_b (by omega)) hqr.1 ⟨by omega, by omega⟩ hfan ⟨by omega, by omega⟩ ev31 ev32 ev33 ev39 ev40 ev41 ev44
          have hv := xro_v ha1 ha3
          have hW := xrp_fn R72 (show _ = (xup gw 0 (xro (gw 0) (C 20 (hr % 24).toNat) (st 0 0) (st 0 1) (st 0 2 + (if st 0 4 = 1 then st 0 3 else 0)) (xho x4.toInt))) from (congrArg (xup _ 0) (show (v44 : Int32).toInt = _ from hv.1 (by omega))).trans xup_2)
          exact kk hh70 K71 (xra_mk eh70.1 hW)
      · refine xi_cmt (pc' := 25) kc_129_13 rfl (xc_ne_t (X := v35.toInt) (Y := 1) rfl (by decide) (by omega)) ?_
        refine xi_iconst (pc' := 26) (v := 0) kc_129_25 rfl rfl ?_
        obtain ⟨v73, ev73⟩ : ∃ q : Int32, v34 + 0 = q := ⟨_, rfl⟩
        have zv73 : v73.toInt = v34.toInt := by rw [← ev73]; exact (xz_add (X := v34.toInt) (Y := 0) rfl (by decide) (by omega) (by omega)).trans (by omega)
        refine xi_iadd (pc' := 27) (v := v73) kc_129_26 rfl ev73 ?_
        refine xi_ireturn kc_129_27 mr_129 rfl ?_
        show xw J ov (d + 4) 128 (66, [(8, .int v32), (7, .int v29), (6, .int v25), (5, .ref 11), (0, .ref 1), (1, .ref 63), (2, .int 0), (3, .int x3), (4, .int x4)], [.int v73, .int v33, .int v25], hh21) _
        obtain ⟨v74, ev74⟩ : ∃ q : Int32, (v33 : Int32) * v73 = q := ⟨_, rfl⟩
        have rv74 := xc_rng v74
        refine xi_imul (pc' := 67) (v := v74) kc_128_66 rfl ev74 ?_
        refine xi_bipush (pc' := 69) (v := 100) kc_128_67 rfl rfl ?_
        obtain ⟨v75, ev75⟩ : ∃ q : Int32, v74 / 100 = q := ⟨_, rfl⟩
        have dv75 : 100 * v75.toInt ≤ v74.toInt + 99 ∧ v74.toInt ≤ 100 * v75.toInt + 99 := by rw [← ev75]; exact xz_div (X := v74.toInt) (Y := 100) rfl (by decide) (by decide)
        have bv75 : -21474837 ≤ v75.toInt ∧ v75.toInt ≤ 21474837 := by omega
        refine xi_idiv (pc' := 70) (v := v75) kc_128_69 rfl ev75 (by decide) ?_
        obtain ⟨v76, ev76⟩ : ∃ q : Int32, (v25 : Int32) - v75 = q := ⟨_, rfl⟩
        have rv76 := xc_rng v76
        refine xi_isub (pc' := 71) (v := v76) kc_128_70 rfl ev76 ?_
        refine xi_istore (pc' := 73) (lv' := [(6, .int v76), (8, .int v32), (7, .int v29), (5, .ref 11), (0, .ref 1), (1, .ref 63), (2, .int 0), (3, .int x3), (4, .int x4)]) kc_128_71 rfl rfl (xm_lt ml_128 rfl) ?_
        refine xi_aload (pc' := 75) (x := 11) kc_128_73 rfl rfl ?_
        refine xi_getfield (pc' := 78) (v := .ref 12) kc_128_75 rfl rfl rfl A26 rfl ?_
        refine xi_iconst (pc' := 79) (v := 1) kc_128_78 rfl rfl ?_
        obtain ⟨v77, ev77, bv77, dv77⟩ := xj_get hy27 ry27 (i := 1) (by decide) (by decide)
        refine xi_iaload (pc' := 80) (v := v77) kc_128_79 rfl A27 (by decide) rfl (xi_in (by decide) (by rw [hy27]; decide)) ev77 ?_
        have hlv77 : v77.toInt = (st 0) 1 := xrp_ldc R28 (k := 1) (by decide) (by decide) ev77
        have brv77 : 0 ≤ v77.toInt ∧ v77.toInt ≤ 99 := by have := hq 0 (by omega); omega
        refine xi_istore (pc' := 82) (lv' := [(9, .int v77), (6, .int v76), (8, .int v32), (7, .int v29), (5, .ref 11), (0, .ref 1), (1, .ref 63), (2, .int 0), (3, .int x3), (4, .int x4)]) kc_128_80 rfl rfl (xm_lt ml_128 rfl) ?_
        refine xi_iload (pc' := 84) (x := v29) kc_128_82 rfl rfl ?_
        refine xi_iload (pc' := 86) (x := v77) kc_128_84 rfl rfl ?_
        refine xi_static (mj := 102) (as := [.int v77]) (st1 := [.int v29]) (lv0 := [(0, .int v77)]) kc_128_86 rfl rfl (Nat.le_of_ble_eq_true rfl) rfl rfl (Nat.le_of_ble_eq_true rfl) (hJ _ _ _ _ (by decide)) (xm_le ml_102 rfl) rfl ?_
        refine xw_gx hJ hov1 hov2 (d := d + 1) (x0 := v77) (by omega) (fun r78 hr78 br78 => ?_)
        show xw J ov (d + 4) 128 (89, [(9, .int v77), (6, .int v76), (8, .int v32), (7, .int v29), (5, .ref 11), (0, .ref 1), (1, .ref 63), (2, .int 0), (3, .int x3), (4, .int x4)], [.int r78, .int v29], hh21) _
        obtain ⟨v79, ev79⟩ : ∃ q : Int32, (v29 : Int32) * r78 = q := ⟨_, rfl⟩
        have rv79 := xc_rng v79
        refine xi_imul (pc' := 90) (v := v79) kc_128_89 rfl ev79 ?_
        refine xi_istore (pc' := 92) (lv' := [(10, .int v79), (9, .int v77), (6, .int v76), (8, .int v32), (7, .int v29), (5, .ref 11), (0, .ref 1), (1, .ref 63), (2, .int 0), (3, .int x3), (4, .int x4)]) kc_128_90 rfl rfl (xm_lt ml_128 rfl) ?_
        refine xi_iload (pc' := 94) (x := v76) kc_128_92 rfl rfl ?_
        refine xi_iload (pc' := 96) (x := v79) kc_128_94 rfl rfl ?_
        by_cases c80 : v76.toInt ≤ v79.toInt
        · refine xi_cmt (pc' := 119) kc_128_96 rfl (xc_le_t (X := v76.toInt) (Y := v79.toInt) rfl rfl (by omega)) ?_
          refine xi_aload_n (pc' := 120) (x := 63) kc_128_119 rfl rfl ?_
          refine xi_getfield (pc' := 123) (v := .ref 64) kc_128_120 rfl rfl rfl A24 rfl ?_
          refine xi_iload_n (pc' := 124) (x := 0) kc_128_123 rfl rfl ?_
          refine xi_iload (pc' := 126) (x := v76) kc_128_124 rfl rfl ?_
          obtain ⟨y81, s81, hy81, ry81⟩ := xj_set (v := v76) hy21 ry21 0 (by first | omega | decide) (by first | omega | decide)
          refine xi_iastore (pc' := 127) (x' := y81) kc_128_126 rfl eh21.1 rfl (xi_in (by decide) (by rw [hy21]; decide)) s81 (fun hh81 eh81 => ?_)
          have K82 := xk_pa K22 (xk_wa (by decide +kernel)) xD_64 hy81 ry81 eh81
          have R83 : xrp y81 6 (xup (xup gw 0 (v19 : Int32).toInt) 0 (v76 : Int32).toInt) := xrp_setc R23 s81 (by decide) rfl
          refine xi_return kc_128_127 mr_128 ?_
          have hqr := hq 0 (by omega)
          have hwr := hw 0 (by omega)
          have em : Int32.toNatClampNeg v8 = (hr % 24).toNat := xcl3 (by omega) (by omega)
          have hmr : 0 ≤ C 20 (hr % 24).toNat ∧ C 20 (hr % 24).toNat ≤ 999 := hC.2.2.2.2.2 0 (by omega) (hr % 24).toNat (by omega)
          rw [em] at hlv12
          have n1 : Int32.toNatClampNeg 0 = 0 := by decide
          rw [n1] at kk
          have zc99999 : (99999 : Int32).toInt = 99999 := by decide
          have ew : (v25 : Int32).toInt = xcap (gw 0 + C 20 (hr % 24).toNat) := xcap_is (fun z => by omega) (fun z => by omega)
          have hfan := xc_of_fan hq (show 0 < 6 by omega)
          have ec : (v73 : Int32).toInt = st 0 2 + (if st 0 4 = 1 then st 0 3 else 0) := by rw [if_neg (show ¬ st 0 4 = 1 by omega)]; omega
          have hcb := xho_b b4.1 b4.2
          have eg : (r78 : Int32).toInt = xho (st 0 1) := by rw [hr78, show (v77 : Int32).toInt = st 0 1 by omega]
          obtain ⟨ha1, ha2, ha3, ha4⟩ := xair ew (show (v29 : Int32).toInt = st 0 0 by omega) hr30 ec eg (xcap_b (by omega)) hqr.1 ⟨by omega, by omega⟩ hfan ⟨by omega, by omega⟩ ev31 ev32 ev33 ev74 ev75 ev76 ev79
          have hv := xro_v ha1 ha3
          have hW := xrp_fn R83 (show _ = (xup gw 0 (xro (gw 0) (C 20 (hr % 24).toNat) (st 0 0) (st 0 1) (st 0 2 + (if st 0 4 = 1 then st 0 3 else 0)) (xho x4.toInt))) from (congrArg (xup _ 0) (show (v76 : Int32).toInt = _ from hv.2 (by omega))).trans xup_2)
          exact kk hh81 K82 (xra_mk eh81.1 hW)
        · refine xi_cmf (pc' := 99) kc_128_96 rfl (xc_le_f (X := v76.toInt) (Y := v79.toInt) rfl rfl (by omega)) ?_
          refine xi_aload_n (pc' := 100) (x := 1) kc_128_99 rfl rfl ?_
          refine xi_aload_n (pc' := 101) (x := 63) kc_128_100 rfl rfl ?_
          refine xi_iload_n (pc' := 102) (x := 0) kc_128_101 rfl rfl ?_
          refine xi_iload (pc' := 104) (x := v76) kc_128_102 rfl rfl ?_
          refine xi_iload (pc' := 106) (x := v79) kc_128_104 rfl rfl ?_
          obtain ⟨v84, ev84⟩ : ∃ q : Int32, (v76 : Int32) - v79 = q := ⟨_, rfl⟩
          have rv84 := xc_rng v84
          refine xi_isub (pc' := 107) (v := v84) kc_128_106 rfl ev84 ?_
          refine xi_iload (pc' := 109) (x := v77) kc_128_107 rfl rfl ?_
          refine xi_iload (pc' := 111) (x := x4) kc_128_109 rfl rfl ?_
          obtain ⟨v85, ev85⟩ : ∃ q : Int32, v77 - x4 = q := ⟨_, rfl⟩
          have zv85 : v85.toInt = (v77.toInt + (-1) * x4.toInt) := by rw [← ev85]; exact (xz_sub (X := v77.toInt) (Y := x4.toInt) rfl rfl (by omega) (by omega)).trans (by omega)
          refine xi_isub (pc' := 112) (v := v85) kc_128_111 rfl ev85 ?_
          have A86 := ((eh21.2.1 1 (by decide)).trans A3)
          refine xi_virtual (mj := 130) (as := [.ref 63, .int 0, .int v84, .int v85]) (st1 := []) (lv0 := [(0, .ref 1), (1, .ref 63), (2, .int 0), (3, .int v84), (4, .int v85)]) kc_128_112 rfl rfl rfl rfl rfl A86 (Nat.le_of_ble_eq_true rfl) (hJ _ _ _ _ (by decide)) (xm_le ml_130 rfl) rfl ?_
          have zc0 : (0 : Int32).toInt = 0 := by decide
          refine mt_130_0 hJ hov1 hov2 (d := d + 1) (x2 := 0) (x3 := v84) (x4 := v85) K22.1 (by first | omega | decide) (fun hh88 K89 => ?_)
          have A90 := ((eh21.2.1 13 (by decide)).trans A10)
          have K91 := xk_tr K22 K89 (xsb_ok _ _ (by decide +kernel))
          obtain ⟨u92, u93, bu92, bu93, A94⟩ := xq_1 K91.1
          have C95 : xcX hh88 C := xcX_k C0 K91 (by decide +kernel)
          have hfu92 : u92.toInt = (C 11 0) := xfi_ld C95.1 A94 rfl
          have e96 : u1 = u92 := xk_eqi (q := 5) K89 (by decide +kernel) A86 A94 rfl rfl
          subst e96
          have A97 := xk_eqa (q := 0) K89 (by decide +kernel) A90
          obtain ⟨u98, u99, bu98, bu99, A100⟩ := xq_63 K91.1
          have hfu99 : u99.toInt = 63 := xfi_ld C95.2.2.2.2.2.2.2.2.2.2.2.2.2.2.2.2.2.2.2 A100 rfl
          have e101 : u13 = u98 := xk_eqi (q := 2) K89 (by decide +kernel) A24 A100 rfl rfl
          subst e101
          have e102 : u14 = u99 := xk_eqi (q := 3) K89 (by decide +kernel) A24 A100 rfl rfl
          subst e102
          have A103 := xk_eqa (q := 0) K89 (by decide +kernel) eh21.1
          have A104 := xk_eqa (q := 0) K89 (by decide +kernel) A27
          show xw J ov (d + 4) 128 (115, [(10, .int v79), (9, .int v77), (6, .int v76), (8, .int v32), (7, .int v29), (5, .ref 11), (0, .ref 1), (1, .ref 63), (2, .int 0), (3, .int x3), (4, .int x4)], [], hh88) _
          refine xi_iload (pc' := 117) (x := v79) kc_128_115 rfl rfl ?_
          refine xi_istore (pc' := 119) (lv' := [(6, .int v79), (10, .int v79), (9, .int v77), (8, .int v32), (7, .int v29), (5, .ref 11), (0, .ref 1), (1, .ref 63), (2, .int 0), (3, .int x3), (4, .int x4)]) kc_128_117 rfl rfl (xm_lt ml_128 rfl) ?_
          refine xi_aload_n (pc' := 120) (x := 63) kc_128_119 rfl rfl ?_
          refine xi_getfield (pc' := 123) (v := .ref 64) kc_128_120 rfl rfl rfl A100 rfl ?_
          refine xi_iload_n (pc' := 124) (x := 0) kc_128_123 rfl rfl ?_
          refine xi_iload (pc' := 126) (x := v79) kc_128_124 rfl rfl ?_
          obtain ⟨y105, s105, hy105, ry105⟩ := xj_set (v := v79) hy21 ry21 0 (by first | omega | decide) (by first | omega | decide)
          refine xi_iastore (pc' := 127) (x' := y105) kc_128_126 rfl A103 rfl (xi_in (by decide) (by rw [hy21]; decide)) s105 (fun hh105 eh105 => ?_)
          have K106 := xk_pa K91 (xk_wa (by decide +kernel)) xD_64 hy105 ry105 eh105
          have R107 : xrp y105 6 (xup (xup gw 0 (v19 : Int32).toInt) 0 (v79 : Int32).toInt) := xrp_setc R23 s105 (by decide) rfl
          refine xi_return kc_128_127 mr_128 ?_
          have hqr := hq 0 (by omega)
          have hwr := hw 0 (by omega)
          have em : Int32.toNatClampNeg v8 = (hr % 24).toNat := xcl3 (by omega) (by omega)
          have hmr : 0 ≤ C 20 (hr % 24).toNat ∧ C 20 (hr % 24).toNat ≤ 999 := hC.2.2.2.2.2 0 (by omega) (hr % 24).toNat (by omega)
          rw [em] at hlv12
          have n1 : Int32.toNatClampNeg 0 = 0 := by decide
          rw [n1] at kk
          have zc99999 : (99999 : Int32).toInt = 99999 := by decide
          have ew : (v25 : Int32).toInt = xcap (gw 0 + C 20 (hr % 24).toNat) := xcap_is (fun z => by omega) (fun z => by omega)
          have hfan := xc_of_fan hq (show 0 < 6 by omega)
          have ec : (v73 : Int32).toInt = st 0 2 + (if st 0 4 = 1 then st 0 3 else 0) := by rw [if_neg (show ¬ st 0 4 = 1 by omega)]; omega
          have hcb := xho_b b4.1 b4.2
          have eg : (r78 : Int32).toInt = xho (st 0 1) := by rw [hr78, show (v77 : Int32).toInt = st 0 1 by omega]
          obtain ⟨ha1, ha2, ha3, ha4⟩ := xair ew (show (v29 : Int32).toInt = st 0 0 by omega) hr30 ec eg (xcap_b (by omega)) hqr.1 ⟨by omega, by omega⟩ hfan ⟨by omega, by omega⟩ ev31 ev32 ev33 ev74 ev75 ev76 ev79
          have hv := xro_v ha1 ha3
          have hW := xrp_fn R107 (show _ = (xup gw 0 (xro (gw 0) (C 20 (hr % 24).toNat) (st 0 0) (st 0 1) (st 0 2 + (if st 0 4 = 1 then st 0 3 else 0)) (xho x4.toInt))) from (congrArg (xup _ 0) (show (v79 : Int32).toInt = _ from hv.1 (by omega))).trans xup_2)
          exact kk hh105 K106 (xra_mk eh105.1 hW)
    · refine xi_cmf (pc' := 33) kc_127_30 rfl (xc_le_f (X := (v18.toInt + v12.toInt)) (Y := 99999) zv19 (by decide) (by omega)) ?_
      refine xi_ldc (pc' := 35) (v := 99999) kc_127_33 rfl rfl ?_
      refine xi_goto (pc' := 39) kc_127_35 rfl ?_
      obtain ⟨y108, s108, hy108, ry108⟩ := xj_set (v := 99999) hy16 ry16 0 (by first | omega | decide) (by first | omega | decide)
      refine xi_iastore (pc' := 40) (x' := y108) kc_127_39 rfl A16 rfl (xi_in (by decide) (by rw [hy16]; decide)) s108 (fun hh108 eh108 => ?_)
      have K109 := xk_pa K (xk_wa (by decide +kernel)) xD_64 hy108 ry108 eh108
      have R110 : xrp y108 6 (xup gw 0 (99999 : Int32).toInt) := xrp_setc R17 s108 (by decide) rfl
      refine xi_return kc_127_40 mr_127 ?_
      show xw J ov (d + 4) 128 (25, [(5, .ref 11), (0, .ref 1), (1, .ref 63), (2, .int 0), (3, .int x3), (4, .int x4)], [], hh108) _
      refine xi_aload_n (pc' := 26) (x := 63) kc_128_25 rfl rfl ?_
      have A111 := ((eh108.2.1 63 (by decide)).trans A15)
      refine xi_getfield (pc' := 29) (v := .ref 64) kc_128_26 rfl rfl rfl A111 rfl ?_
      refine xi_iload_n (pc' := 30) (x := 0) kc_128_29 rfl rfl ?_
      obtain ⟨v112, ev112, bv112, dv112⟩ := xj_get hy108 ry108 (i := 0) (by decide) (by decide)
      refine xi_iaload (pc' := 31) (v := v112) kc_128_30 rfl eh108.1 (by decide) rfl (xi_in (by decide) (by rw [hy108]; decide)) ev112 ?_
      have hlv112 : v112.toInt = (99999 : Int32).toInt := (xrp_ldc R110 (k := 0) (by decide) (by decide) ev112).trans xup_s
      refine xi_istore (pc' := 33) (lv' := [(6, .int v112), (5, .ref 11), (0, .ref 1), (1, .ref 63), (2, .int 0), (3, .int x3), (4, .int x4)]) kc_128_31 rfl rfl (xm_lt ml_128 rfl) ?_
      refine xi_aload (pc' := 35) (x := 11) kc_128_33 rfl rfl ?_
      have A113 := ((eh108.2.1 11 (by decide)).trans A7)
      refine xi_getfield (pc' := 38) (v := .ref 12) kc_128_35 rfl rfl rfl A113 rfl ?_
      refine xi_iconst (pc' := 39) (v := 0) kc_128_38 rfl rfl ?_
      obtain ⟨y114, A114, hy114, ry114⟩ := xk_arr K109.1 xD_12
      have R115 : xrp y114 5 (st 0) := xra_ld (xg6_k I6 K109 (by decide +kernel)).1 A114
      obtain ⟨v116, ev116, bv116, dv116⟩ := xj_get hy114 ry114 (i := 0) (by decide) (by decide)
      refine xi_iaload (pc' := 40) (v := v116) kc_128_39 rfl A114 (by decide) rfl (xi_in (by decide) (by rw [hy114]; decide)) ev116 ?_
      have hlv116 : v116.toInt = (st 0) 0 := xrp_ldc R115 (k := 0) (by decide) (by decide) ev116
      have brv116 : 0 ≤ v116.toInt ∧ v116.toInt ≤ 99 := by have := hq 0 (by omega); omega
      refine xi_istore (pc' := 42) (lv' := [(7, .int v116), (6, .int v112), (5, .ref 11), (0, .ref 1), (1, .ref 63), (2, .int 0), (3, .int x3), (4, .int x4)]) kc_128_40 rfl rfl (xm_lt ml_128 rfl) ?_
      refine xi_iload (pc' := 44) (x := v116) kc_128_42 rfl rfl ?_
      refine xi_iload (pc' := 46) (x := x4) kc_128_44 rfl rfl ?_
      refine xi_static (mj := 102) (as := [.int x4]) (st1 := [.int v116]) (lv0 := [(0, .int x4)]) kc_128_46 rfl rfl (Nat.le_of_ble_eq_true rfl) rfl rfl (Nat.le_of_ble_eq_true rfl) (hJ _ _ _ _ (by decide)) (xm_le ml_102 rfl) rfl ?_
      refine xw_gx hJ hov1 hov2 (d := d + 1) (x0 := x4) (by omega) (fun r117 hr117 br117 => ?_)
      show xw J ov (d + 4) 128 (49, [(7, .int v116), (6, .int v112), (5, .ref 11), (0, .ref 1), (1, .ref 63), (2, .int 0), (3, .int x3), (4, .int x4)], [.int r117, .int v116], hh108) _
      obtain ⟨v118, ev118⟩ : ∃ q : Int32, (v116 : Int32) * r117 = q := ⟨_, rfl⟩
      have rv118 := xc_rng v118
      refine xi_imul (pc' := 50) (v := v118) kc_128_49 rfl ev118 ?_
      refine xi_iconst (pc' := 51) (v := 2) kc_128_50 rfl rfl ?_
      obtain ⟨v119, ev119⟩ : ∃ q : Int32, v118 / 2 = q := ⟨_, rfl⟩
      have dv119 : 2 * v119.toInt ≤ v118.toInt + 1 ∧ v118.toInt ≤ 2 * v119.toInt + 1 := by rw [← ev119]; exact xz_div (X := v118.toInt) (Y := 2) rfl (by decide) (by decide)
      have bv119 : -1073741825 ≤ v119.toInt ∧ v119.toInt ≤ 1073741824 := by omega
      refine xi_idiv (pc' := 52) (v := v119) kc_128_51 rfl ev119 (by decide) ?_
      refine xi_istore (pc' := 54) (lv' := [(8, .int v119), (7, .int v116), (6, .int v112), (5, .ref 11), (0, .ref 1), (1, .ref 63), (2, .int 0), (3, .int x3), (4, .int x4)]) kc_128_52 rfl rfl (xm_lt ml_128 rfl) ?_
      refine xi_iload (pc' := 56) (x := v112) kc_128_54 rfl rfl ?_
      refine xi_iload (pc' := 58) (x := v112) kc_128_56 rfl rfl ?_
      refine xi_iload (pc' := 60) (x := v119) kc_128_58 rfl rfl ?_
      obtain ⟨v120, ev120⟩ : ∃ q : Int32, (v112 : Int32) - v119 = q := ⟨_, rfl⟩
      have rv120 := xc_rng v120
      refine xi_isub (pc' := 61) (v := v120) kc_128_60 rfl ev120 ?_
      refine xi_aload (pc' := 63) (x := 11) kc_128_61 rfl rfl ?_
      refine xi_virtual (mj := 129) (as := []) (st1 := [.int v120, .int v112]) (lv0 := [(0, .ref 11)]) kc_128_63 rfl rfl rfl rfl rfl A113 (Nat.le_of_ble_eq_true rfl) (hJ _ _ _ _ (by decide)) (xm_le ml_129 rfl) rfl ?_
      refine xi_aload_n (pc' := 1) (x := 11) kc_129_0 rfl rfl ?_
      refine xi_getfield (pc' := 4) (v := .ref 12) kc_129_1 rfl rfl rfl A113 rfl ?_
      refine xi_iconst (pc' := 5) (v := 2) kc_129_4 rfl rfl ?_
      obtain ⟨v121, ev121, bv121, dv121⟩ := xj_get hy114 ry114 (i := 2) (by decide) (by decide)
      refine xi_iaload (pc' := 6) (v := v121) kc_129_5 rfl A114 (by decide) rfl (xi_in (by decide) (by rw [hy114]; decide)) ev121 ?_
      have hlv121 : v121.toInt = (st 0) 2 := xrp_ldc R115 (k := 2) (by decide) (by decide) ev121
      have brv121 : 0 ≤ v121.toInt ∧ v121.toInt ≤ 99 := by have := hq 0 (by omega); omega
      refine xi_aload_n (pc' := 7) (x := 11) kc_129_6 rfl rfl ?_
      refine xi_getfield (pc' := 10) (v := .ref 12) kc_129_7 rfl rfl rfl A113 rfl ?_
      refine xi_iconst (pc' := 11) (v := 4) kc_129_10 rfl rfl ?_
      obtain ⟨v122, ev122, bv122, dv122⟩ := xj_get hy114 ry114 (i := 4) (by decide) (by decide)
      refine xi_iaload (pc' := 12) (v := v122) kc_129_11 rfl A114 (by decide) rfl (xi_in (by decide) (by rw [hy114]; decide)) ev122 ?_
      have hlv122 : v122.toInt = (st 0) 4 := xrp_ldc R115 (k := 4) (by decide) (by decide) ev122
      have brv122 : 0 ≤ v122.toInt ∧ v122.toInt ≤ 99 := by have := hq 0 (by omega); omega
      refine xi_iconst (pc' := 13) (v := 1) kc_129_12 rfl rfl ?_
      by_cases c123 : v122.toInt = 1
      · refine xi_cmf (pc' := 16) kc_129_13 rfl (xc_ne_f (X := v122.toInt) (Y := 1) rfl (by decide) (by omega)) ?_
        refine xi_aload_n (pc' := 17) (x := 11) kc_129_16 rfl rfl ?_
        refine xi_getfield (pc' := 20) (v := .ref 12) kc_129_17 rfl rfl rfl A113 rfl ?_
        refine xi_iconst (pc' := 21) (v := 3) kc_129_20 rfl rfl ?_
        obtain ⟨v124, ev124, bv124, dv124⟩ := xj_get hy114 ry114 (i := 3) (by decide) (by decide)
        refine xi_iaload (pc' := 22) (v := v124) kc_129_21 rfl A114 (by decide) rfl (xi_in (by decide) (by rw [hy114]; decide)) ev124 ?_
        have hlv124 : v124.toInt = (st 0) 3 := xrp_ldc R115 (k := 3) (by decide) (by decide) ev124
        have brv124 : 0 ≤ v124.toInt ∧ v124.toInt ≤ 99 := by have := hq 0 (by omega); omega
        refine xi_goto (pc' := 26) kc_129_22 rfl ?_
        obtain ⟨v125, ev125⟩ : ∃ q : Int32, v121 + v124 = q := ⟨_, rfl⟩
        have zv125 : v125.toInt = (v121.toInt + v124.toInt) := by rw [← ev125]; exact (xz_add (X := v121.toInt) (Y := v124.toInt) rfl rfl (by omega) (by omega)).trans (by omega)
        refine xi_iadd (pc' := 27) (v := v125) kc_129_26 rfl ev125 ?_
        refine xi_ireturn kc_129_27 mr_129 rfl ?_
        show xw J ov (d + 4) 128 (66, [(8, .int v119), (7, .int v116), (6, .int v112), (5, .ref 11), (0, .ref 1), (1, .ref 63), (2, .int 0), (3, .int x3), (4, .int x4)], [.int v125, .int v120, .int v112], hh108) _
        obtain ⟨v126, ev126⟩ : ∃ q : Int32, (v120 : Int32) * v125 = q := ⟨_, rfl⟩
        have rv126 := xc_rng v126
        refine xi_imul (pc' := 67) (v := v126) kc_128_66 rfl ev126 ?_
        refine xi_bipush (pc' := 69) (v := 100) kc_128_67 rfl rfl ?_
        obtain ⟨v127, ev127⟩ : ∃ q : Int32, v126 / 100 = q := ⟨_, rfl⟩
        have dv127 : 100 * v127.toInt ≤ v126.toInt + 99 ∧ v126.toInt ≤ 100 * v127.toInt + 99 := by rw [← ev127]; exact xz_div (X := v126.toInt) (Y := 100) rfl (by decide) (by decide)
        have bv127 : -21474837 ≤ v127.toInt ∧ v127.toInt ≤ 21474837 := by omega
        refine xi_idiv (pc' := 70) (v := v127) kc_128_69 rfl ev127 (by decide) ?_
        obtain ⟨v128, ev128⟩ : ∃ q : Int32, (v112 : Int32) - v127 = q := ⟨_, rfl⟩
        have rv128 := xc_rng v128
        refine xi_isub (pc' := 71) (v := v128) kc_128_70 rfl ev128 ?_
        refine xi_istore (pc' := 73) (lv' := [(6, .int v128), (8, .int v119), (7, .int v116), (5, .ref 11), (0, .ref 1), (1, .ref 63), (2, .int 0), (3, .int x3), (4, .int x4)]) kc_128_71 rfl rfl (xm_lt ml_128 rfl) ?_
        refine xi_aload (pc' := 75) (x := 11) kc_128_73 rfl rfl ?_
        refine xi_getfield (pc' := 78) (v := .ref 12) kc_128_75 rfl rfl rfl A113 rfl ?_
        refine xi_iconst (pc' := 79) (v := 1) kc_128_78 rfl rfl ?_
        obtain ⟨v129, ev129, bv129, dv129⟩ := xj_get hy114 ry114 (i := 1) (by decide) (by decide)
        refine xi_iaload (pc' := 80) (v := v129) kc_128_79 rfl A114 (by decide) rfl (xi_in (by decide) (by rw [hy114]; decide)) ev129 ?_
        have hlv129 : v129.toInt = (st 0) 1 := xrp_ldc R115 (k := 1) (by decide) (by decide) ev129
        have brv129 : 0 ≤ v129.toInt ∧ v129.toInt ≤ 99 := by have := hq 0 (by omega); omega
        refine xi_istore (pc' := 82) (lv' := [(9, .int v129), (6, .int v128), (8, .int v119), (7, .int v116), (5, .ref 11), (0, .ref 1), (1, .ref 63), (2, .int 0), (3, .int x3), (4, .int x4)]) kc_128_80 rfl rfl (xm_lt ml_128 rfl) ?_
        refine xi_iload (pc' := 84) (x := v116) kc_128_82 rfl rfl ?_
        refine xi_iload (pc' := 86) (x := v129) kc_128_84 rfl rfl ?_
        refine xi_static (mj := 102) (as := [.int v129]) (st1 := [.int v116]) (lv0 := [(0, .int v129)]) kc_128_86 rfl rfl (Nat.le_of_ble_eq_true rfl) rfl rfl (Nat.le_of_ble_eq_true rfl) (hJ _ _ _ _ (by decide)) (xm_le ml_102 rfl) rfl ?_
        refine xw_gx hJ hov1 hov2 (d := d + 1) (x0 := v129) (by omega) (fun r130 hr130 br130 => ?_)
        show xw J ov (d + 4) 128 (89, [(9, .int v129), (6, .int v128), (8, .int v119), (7, .int v116), (5, .ref 11), (0, .ref 1), (1, .ref 63), (2, .int 0), (3, .int x3), (4, .int x4)], [.int r130, .int v116], hh108) _
        obtain ⟨v131, ev131⟩ : ∃ q : Int32, (v116 : Int32) * r130 = q := ⟨_, rfl⟩
        have rv131 := xc_rng v131
        refine xi_imul (pc' := 90) (v := v131) kc_128_89 rfl ev131 ?_
        refine xi_istore (pc' := 92) (lv' := [(10, .int v131), (9, .int v129), (6, .int v128), (8, .int v119), (7, .int v116), (5, .ref 11), (0, .ref 1), (1, .ref 63), (2, .int 0), (3, .int x3), (4, .int x4)]) kc_128_90 rfl rfl (xm_lt ml_128 rfl) ?_
        refine xi_iload (pc' := 94) (x := v128) kc_128_92 rfl rfl ?_
        refine xi_iload (pc' := 96) (x := v131) kc_128_94 rfl rfl ?_
        by_cases c132 : v128.toInt ≤ v131.toInt
        · refine xi_cmt (pc' := 119) kc_128_96 rfl (xc_le_t (X := v128.toInt) (Y := v131.toInt) rfl rfl (by omega)) ?_
          refine xi_aload_n (pc' := 120) (x := 63) kc_128_119 rfl rfl ?_
          refine xi_getfield (pc' := 123) (v := .ref 64) kc_128_120 rfl rfl rfl A111 rfl ?_
          refine xi_iload_n (pc' := 124) (x := 0) kc_128_123 rfl rfl ?_
          refine xi_iload (pc' := 126) (x := v128) kc_128_124 rfl rfl ?_
          obtain ⟨y133, s133, hy133, ry133⟩ := xj_set (v := v128) hy108 ry108 0 (by first | omega | decide) (by first | omega | decide)
          refine xi_iastore (pc' := 127) (x' := y133) kc_128_126 rfl eh108.1 rfl (xi_in (by decide) (by rw [hy108]; decide)) s133 (fun hh133 eh133 => ?_)
          have K134 := xk_pa K109 (xk_wa (by decide +kernel)) xD_64 hy133 ry133 eh133
          have R135 : xrp y133 6 (xup (xup gw 0 (99999 : Int32).toInt) 0 (v128 : Int32).toInt) := xrp_setc R110 s133 (by decide) rfl
          refine xi_return kc_128_127 mr_128 ?_
          have hqr := hq 0 (by omega)
          have hwr := hw 0 (by omega)
          have em : Int32.toNatClampNeg v8 = (hr % 24).toNat := xcl3 (by omega) (by omega)
          have hmr : 0 ≤ C 20 (hr % 24).toNat ∧ C 20 (hr % 24).toNat ≤ 999 := hC.2.2.2.2.2 0 (by omega) (hr % 24).toNat (by omega)
          rw [em] at hlv12
          have n1 : Int32.toNatClampNeg 0 = 0 := by decide
          rw [n1] at kk
          have zc99999 : (99999 : Int32).toInt = 99999 := by decide
          have ew : (v112 : Int32).toInt = xcap (gw 0 + C 20 (hr % 24).toNat) := xcap_is (fun z => by omega) (fun z => by omega)
          have hfan := xc_of_fan hq (show 0 < 6 by omega)
          have ec : (v125 : Int32).toInt = st 0 2 + (if st 0 4 = 1 then st 0 3 else 0) := by rw [if_pos (show st 0 4 = 1 by omega)]; omega
          have hcb := xho_b b4.1 b4.2
          have eg : (r130 : Int32).toInt = xho (st 0 1) := by rw [hr130, show (v129 : Int32).toInt = st 0 1 by omega]
          obtain ⟨ha1, ha2, ha3, ha4⟩ := xair ew (show (v116 : Int32).toInt = st 0 0 by omega) hr117 ec eg (xcap_b (by omega)) hqr.1 ⟨by omega, by omega⟩ hfan ⟨by omega, by omega⟩ ev118 ev119 ev120 ev126 ev127 ev128 ev131
          have hv := xro_v ha1 ha3
          have hW := xrp_fn R135 (show _ = (xup gw 0 (xro (gw 0) (C 20 (hr % 24).toNat) (st 0 0) (st 0 1) (st 0 2 + (if st 0 4 = 1 then st 0 3 else 0)) (xho x4.toInt))) from (congrArg (xup _ 0) (show (v128 : Int32).toInt = _ from hv.2 (by omega))).trans xup_2)
          exact kk hh133 K134 (xra_mk eh133.1 hW)
        · refine xi_cmf (pc' := 99) kc_128_96 rfl (xc_le_f (X := v128.toInt) (Y := v131.toInt) rfl rfl (by omega)) ?_
          refine xi_aload_n (pc' := 100) (x := 1) kc_128_99 rfl rfl ?_
          refine xi_aload_n (pc' := 101) (x := 63) kc_128_100 rfl rfl ?_
          refine xi_iload_n (pc' := 102) (x := 0) kc_128_101 rfl rfl ?_
          refine xi_iload (pc' := 104) (x := v128) kc_128_102 rfl rfl ?_
          refine xi_iload (pc' := 106) (x := v131) kc_128_104 rfl rfl ?_
          obtain ⟨v136, ev136⟩ : ∃ q : Int32, (v128 : Int32) - v131 = q := ⟨_, rfl⟩
          have rv136 := xc_rng v136
          refine xi_isub (pc' := 107) (v := v136) kc_128_106 rfl ev136 ?_
          refine xi_iload (pc' := 109) (x := v129) kc_128_107 rfl rfl ?_
          refine xi_iload (pc' := 111) (x := x4) kc_128_109 rfl rfl ?_
          obtain ⟨v137, ev137⟩ : ∃ q : Int32, v129 - x4 = q := ⟨_, rfl⟩
          have zv137 : v137.toInt = (v129.toInt + (-1) * x4.toInt) := by rw [← ev137]; exact (xz_sub (X := v129.toInt) (Y := x4.toInt) rfl rfl (by omega) (by omega)).trans (by omega)
          refine xi_isub (pc' := 112) (v := v137) kc_128_111 rfl ev137 ?_
          have A138 := ((eh108.2.1 1 (by decide)).trans A3)
          refine xi_virtual (mj := 130) (as := [.ref 63, .int 0, .int v136, .int v137]) (st1 := []) (lv0 := [(0, .ref 1), (1, .ref 63), (2, .int 0), (3, .int v136), (4, .int v137)]) kc_128_112 rfl rfl rfl rfl rfl A138 (Nat.le_of_ble_eq_true rfl) (hJ _ _ _ _ (by decide)) (xm_le ml_130 rfl) rfl ?_
          have zc0 : (0 : Int32).toInt = 0 := by decide
          refine mt_130_0 hJ hov1 hov2 (d := d + 1) (x2 := 0) (x3 := v136) (x4 := v137) K109.1 (by first | omega | decide) (fun hh140 K141 => ?_)
          have A142 := ((eh108.2.1 13 (by decide)).trans A10)
          have K143 := xk_tr K109 K141 (xsb_ok _ _ (by decide +kernel))
          obtain ⟨u144, u145, bu144, bu145, A146⟩ := xq_1 K143.1
          have C147 : xcX hh140 C := xcX_k C0 K143 (by decide +kernel)
          have hfu144 : u144.toInt = (C 11 0) := xfi_ld C147.1 A146 rfl
          have e148 : u1 = u144 := xk_eqi (q := 5) K141 (by decide +kernel) A138 A146 rfl rfl
          subst e148
          have A149 := xk_eqa (q := 0) K141 (by decide +kernel) A142
          obtain ⟨u150, u151, bu150, bu151, A152⟩ := xq_63 K143.1
          have hfu151 : u151.toInt = 63 := xfi_ld C147.2.2.2.2.2.2.2.2.2.2.2.2.2.2.2.2.2.2.2 A152 rfl
          have e153 : u13 = u150 := xk_eqi (q := 2) K141 (by decide +kernel) A111 A152 rfl rfl
          subst e153
          have e154 : u14 = u151 := xk_eqi (q := 3) K141 (by decide +kernel) A111 A152 rfl rfl
          subst e154
          have A155 := xk_eqa (q := 0) K141 (by decide +kernel) eh108.1
          have A156 := xk_eqa (q := 0) K141 (by decide +kernel) A114
          show xw J ov (d + 4) 128 (115, [(10, .int v131), (9, .int v129), (6, .int v128), (8, .int v119), (7, .int v116), (5, .ref 11), (0, .ref 1), (1, .ref 63), (2, .int 0), (3, .int x3), (4, .int x4)], [], hh140) _
          refine xi_iload (pc' := 117) (x := v131) kc_128_115 rfl rfl ?_
          refine xi_istore (pc' := 119) (lv' := [(6, .int v131), (10, .int v131), (9, .int v129), (8, .int v119), (7, .int v116), (5, .ref 11), (0, .ref 1), (1, .ref 63), (2, .int 0), (3, .int x3), (4, .int x4)]) kc_128_117 rfl rfl (xm_lt ml_128 rfl) ?_
          refine xi_aload_n (pc' := 120) (x := 63) kc_128_119 rfl rfl ?_
          refine xi_getfield (pc' := 123) (v := .ref 64) kc_128_120 rfl rfl rfl A152 rfl ?_
          refine xi_iload_n (pc' := 124) (x := 0) kc_128_123 rfl rfl ?_
          refine xi_iload (pc' := 126) (x := v131) kc_128_124 rfl rfl ?_
          obtain ⟨y157, s157, hy157, ry157⟩ := xj_set (v := v131) hy108 ry108 0 (by first | omega | decide) (by first | omega | decide)
          refine xi_iastore (pc' := 127) (x' := y157) kc_128_126 rfl A155 rfl (xi_in (by decide) (by rw [hy108]; decide)) s157 (fun hh157 eh157 => ?_)
          have K158 := xk_pa K143 (xk_wa (by decide +kernel)) xD_64 hy157 ry157 eh157
          have R159 : xrp y157 6 (xup (xup gw 0 (99999 : Int32).toInt) 0 (v131 : Int32).toInt) := xrp_setc R110 s157 (by decide) rfl
          refine xi_return kc_128_127 mr_128 ?_
          have hqr := hq 0 (by omega)
          have hwr := hw 0 (by omega)
          have em : Int32.toNatClampNeg v8 = (hr % 24).toNat := xcl3 (by omega) (by omega)
          have hmr : 0 ≤ C 20 (hr % 24).toNat ∧ C 20 (hr % 24).toNat ≤ 999 := hC.2.2.2.2.2 0 (by omega) (hr % 24).toNat (by omega)
          rw [em] at hlv12
          have n1 : Int32.toNatClampNeg 0 = 0 := by decide
          rw [n1] at kk
          have zc99999 : (99999 : Int32).toInt = 99999 := by decide
          have ew : (v112 : Int32).toInt = xcap (gw 0 + C 20 (hr % 24).toNat) := xcap_is (fun z => by omega) (fun z => by omega)
          have hfan := xc_of_fan hq (show 0 < 6 by omega)
          have ec : (v125 : Int32).toInt = st 0 2 + (if st 0 4 = 1 then st 0 3 else 0) := by rw [if_pos (show st 0 4 = 1 by omega)]; omega
          have hcb := xho_b b4.1 b4.2
          have eg : (r130 : Int32).toInt = xho (st 0 1) := by rw [hr130, show (v129 : Int32).toInt = st 0 1 by omega]
          obtain ⟨ha1, ha2, ha3, ha4⟩ := xair ew (show (v116 : Int32).toInt = st 0 0 by omega) hr117 ec eg (xcap_b (by omega)) hqr.1 ⟨by omega, by omega⟩ hfan ⟨by omega, by omega⟩ ev118 ev119 ev120 ev126 ev127 ev128 ev131
          have hv := xro_v ha1 ha3
          have hW := xrp_fn R159 (show _ = (xup gw 0 (xro (gw 0) (C 20 (hr % 24).toNat) (st 0 0) (st 0 1) (st 0 2 + (if st 0 4 = 1 then st 0 3 else 0)) (xho x4.toInt))) from (congrArg (xup _ 0) (show (v131 : Int32).toInt = _ from hv.1 (by omega))).trans xup_2)
          exact kk hh157 K158 (xra_mk eh157.1 hW)
      · refine xi_cmt (pc' := 25) kc_129_13 rfl (xc_ne_t (X := v122.toInt) (Y := 1) rfl (by decide) (by omega)) ?_
        refine xi_iconst (pc' := 26) (v := 0) kc_129_25 rfl rfl ?_
        obtain ⟨v160, ev160⟩ : ∃ q : Int32, v121 + 0 = q := ⟨_, rfl⟩
        have zv160 : v160.toInt = v121.toInt := by rw [← ev160]; exact (xz_add (X := v121.toInt) (Y := 0) rfl (by decide) (by omega) (by omega)).trans (by omega)
        refine xi_iadd (pc' := 27) (v := v160) kc_129_26 rfl ev160 ?_
        refine xi_ireturn kc_129_27 mr_129 rfl ?_
        show xw J ov (d + 4) 128 (66, [(8, .int v119), (7, .int v116), (6, .int v112), (5, .ref 11), (0, .ref 1), (1, .ref 63), (2, .int 0), (3, .int x3), (4, .int x4)], [.int v160, .int v120, .int v112], hh108) _
        obtain ⟨v161, ev161⟩ : ∃ q : Int32, (v120 : Int32) * v160 = q := ⟨_, rfl⟩
        have rv161 := xc_rng v161
        refine xi_imul (pc' := 67) (v := v161) kc_128_66 rfl ev161 ?_
        refine xi_bipush (pc' := 69) (v := 100) kc_128_67 rfl rfl ?_
        obtain ⟨v162, ev162⟩ : ∃ q : Int32, v161 / 100 = q := ⟨_, rfl⟩
        have dv162 : 100 * v162.toInt ≤ v161.toInt + 99 ∧ v161.toInt ≤ 100 * v162.toInt + 99 := by rw [← ev162]; exact xz_div (X := v161.toInt) (Y := 100) rfl (by decide) (by decide)
        have bv162 : -21474837 ≤ v162.toInt ∧ v162.toInt ≤ 21474837 := by omega
        refine xi_idiv (pc' := 70) (v := v162) kc_128_69 rfl ev162 (by decide) ?_
        obtain ⟨v163, ev163⟩ : ∃ q : Int32, (v112 : Int32) - v162 = q := ⟨_, rfl⟩
        have rv163 := xc_rng v163
        refine xi_isub (pc' := 71) (v := v163) kc_128_70 rfl ev163 ?_
        refine xi_istore (pc' := 73) (lv' := [(6, .int v163), (8, .int v119), (7, .int v116), (5, .ref 11), (0, .ref 1), (1, .ref 63), (2, .int 0), (3, .int x3), (4, .int x4)]) kc_128_71 rfl rfl (xm_lt ml_128 rfl) ?_
        refine xi_aload (pc' := 75) (x := 11) kc_128_73 rfl rfl ?_
        refine xi_getfield (pc' := 78) (v := .ref 12) kc_128_75 rfl rfl rfl A113 rfl ?_
        refine xi_iconst (pc' := 79) (v := 1) kc_128_78 rfl rfl ?_
        obtain ⟨v164, ev164, bv164, dv164⟩ := xj_get hy114 ry114 (i := 1) (by decide) (by decide)
        refine xi_iaload (pc' := 80) (v := v164) kc_128_79 rfl A114 (by decide) rfl (xi_in (by decide) (by rw [hy114]; decide)) ev164 ?_
        have hlv164 : v164.toInt = (st 0) 1 := xrp_ldc R115 (k := 1) (by decide) (by decide) ev164
        have brv164 : 0 ≤ v164.toInt ∧ v164.toInt ≤ 99 := by have := hq 0 (by omega); omega
        refine xi_istore (pc' := 82) (lv' := [(9, .int v164), (6, .int v163), (8, .int v119), (7, .int v116), (5, .ref 11), (0, .ref 1), (1, .ref 63), (2, .int 0), (3, .int x3), (4, .int x4)]) kc_128_80 rfl rfl (xm_lt ml_128 rfl) ?_
        refine xi_iload (pc' := 84) (x := v116) kc_128_82 rfl rfl ?_
        refine xi_iload (pc' := 86) (x := v164) kc_128_84 rfl rfl ?_
        refine xi_static (mj := 102) (as := [.int v164]) (st1 := [.int v116]) (lv0 := [(0, .int v164)]) kc_128_86 rfl rfl (Nat.le_of_ble_eq_true rfl) rfl rfl (Nat.le_of_ble_eq_true rfl) (hJ _ _ _ _ (by decide)) (xm_le ml_102 rfl) rfl ?_
        refine xw_gx hJ hov1 hov2 (d := d + 1) (x0 := v164) (by omega) (fun r165 hr165 br165 => ?_)
        show xw J ov (d + 4) 128 (89, [(9, .int v164), (6, .int v163), (8, .int v119), (7, .int v116), (5, .ref 11), (0, .ref 1), (1, .ref 63), (2, .int 0), (3, .int x3), (4, .int x4)], [.int r165, .int v116], hh108) _
        obtain ⟨v166, ev166⟩ : ∃ q : Int32, (v116 : Int32) * r165 = q := ⟨_, rfl⟩
        have rv166 := xc_rng v166
        refine xi_imul (pc' := 90) (v := v166) kc_128_89 rfl ev166 ?_
        refine xi_istore (pc' := 92) (lv' := [(10, .int v166), (9, .int v164), (6, .int v163), (8, .int v119), (7, .int v116), (5, .ref 11), (0, .ref 1), (1, .ref 63), (2, .int 0), (3, .int x3), (4, .int x4)]) kc_128_90 rfl rfl (xm_lt ml_128 rfl) ?_
        refine xi_iload (pc' := 94) (x := v163) kc_128_92 rfl rfl ?_
        refine xi_iload (pc' := 96) (x := v166) kc_128_94 rfl rfl ?_
        by_cases c167 : v163.toInt ≤ v166.toInt
        · refine xi_cmt (pc' := 119) kc_128_96 rfl (xc_le_t (X := v163.toInt) (Y := v166.toInt) rfl rfl (by omega)) ?_
          refine xi_aload_n (pc' := 120) (x := 63) kc_128_119 rfl rfl ?_
          refine xi_getfield (pc' := 123) (v := .ref 64) kc_128_120 rfl rfl rfl A111 rfl ?_
          refine xi_iload_n (pc' := 124) (x := 0) kc_128_123 rfl rfl ?_
          refine xi_iload (pc' := 126) (x := v163) kc_128_124 rfl rfl ?_
          obtain ⟨y168, s168, hy168, ry168⟩ := xj_set (v := v163) hy108 ry108 0 (by first | omega | decide) (by first | omega | decide)
          refine xi_iastore (pc' := 127) (x' := y168) kc_128_126 rfl eh108.1 rfl (xi_in (by decide) (by rw [hy108]; decide)) s168 (fun hh168 eh168 => ?_)
          have K169 := xk_pa K109 (xk_wa (by decide +kernel)) xD_64 hy168 ry168 eh168
          have R170 : xrp y168 6 (xup (xup gw 0 (99999 : Int32).toInt) 0 (v163 : Int32).toInt) := xrp_setc R110 s168 (by decide) rfl
          refine xi_return kc_128_127 mr_128 ?_
          have hqr := hq 0 (by omega)
          have hwr := hw 0 (by omega)
          have em : Int32.toNatClampNeg v8 = (hr % 24).toNat := xcl3 (by omega) (by omega)
          have hmr : 0 ≤ C 20 (hr % 24).toNat ∧ C 20 (hr % 24).toNat ≤ 999 := hC.2.2.2.2.2 0 (by omega) (hr % 24).toNat (by omega)
          rw [em] at hlv12
          have n1 : Int32.toNatClampNeg 0 = 0 := by decide
          rw [n1] at kk
          have zc99999 : (99999 : Int32).toInt = 99999 := by decide
          have ew : (v112 : Int32).toInt = xcap (gw 0 + C 20 (hr % 24).toNat) := xcap_is (fun z => by omega) (fun z => by omega)
          have hfan := xc_of_fan hq (show 0 < 6 by omega)
          have ec : (v160 : Int32).toInt = st 0 2 + (if st 0 4 = 1 then st 0 3 else 0) := by rw [if_neg (show ¬ st 0 4 = 1 by omega)]; omega
          have hcb := xho_b b4.1 b4.2
          have eg : (r165 : Int32).toInt = xho (st 0 1) := by rw [hr165, show (v164 : Int32).toInt = st 0 1 by omega]
          obtain ⟨ha1, ha2, ha3, ha4⟩ := xair ew (show (v116 : Int32).toInt = st 0 0 by omega) hr117 ec eg (xcap_b (by omega)) hqr.1 ⟨by omega, by omega⟩ hfan ⟨by omega, by omega⟩ ev118 ev119 ev120 ev161 ev162 ev163 ev166
          have hv := xro_v ha1 ha3
          have hW := xrp_fn R170 (show _ = (xup gw 0 (xro (gw 0) (C 20 (hr % 24).toNat) (st 0 0) (st 0 1) (st 0 2 + (if st 0 4 = 1 then st 0 3 else 0)) (xho x4.toInt))) from (congrArg (xup _ 0) (show (v163 : Int32).toInt = _ from hv.2 (by omega))).trans xup_2)
          exact kk hh168 K169 (xra_mk eh168.1 hW)
        · refine xi_cmf (pc' := 99) kc_128_96 rfl (xc_le_f (X := v163.toInt) (Y := v166.toInt) rfl rfl (by omega)) ?_
          refine xi_aload_n (pc' := 100) (x := 1) kc_128_99 rfl rfl ?_
          refine xi_aload_n (pc' := 101) (x := 63) kc_128_100 rfl rfl ?_
          refine xi_iload_n (pc' := 102) (x := 0) kc_128_101 rfl rfl ?_
          refine xi_iload (pc' := 104) (x := v163) kc_128_102 rfl rfl ?_
          refine xi_iload (pc' := 106) (x := v166) kc_128_104 rfl rfl ?_
          obtain ⟨v171, ev171⟩ : ∃ q : Int32, (v163 : Int32) - v166 = q := ⟨_, rfl⟩
          have rv171 := xc_rng v171
          refine xi_isub (pc' := 107) (v := v171) kc_128_106 rfl ev171 ?_
          refine xi_iload (pc' := 109) (x := v164) kc_128_107 rfl rfl ?_
          refine xi_iload (pc' := 111) (x := x4) kc_128_109 rfl rfl ?_
          obtain ⟨v172, ev172⟩ : ∃ q : Int32, v164 - x4 = q := ⟨_, rfl⟩
          have zv172 : v172.toInt = (v164.toInt + (-1) * x4.toInt) := by rw [← ev172]; exact (xz_sub (X := v164.toInt) (Y := x4.toInt) rfl rfl (by omega) (by omega)).trans (by omega)
          refine xi_isub (pc' := 112) (v := v172) kc_128_111 rfl ev172 ?_
          have A173 := ((eh108.2.1 1 (by decide)).trans A3)
          refine xi_virtual (mj := 130) (as := [.ref 63, .int 0, .int v171, .int v172]) (st1 := []) (lv0 := [(0, .ref 1), (1, .ref 63), (2, .int 0), (3, .int v171), (4, .int v172)]) kc_128_112 rfl rfl rfl rfl rfl A173 (Nat.le_of_ble_eq_true rfl) (hJ _ _ _ _ (by decide)) (xm_le ml_130 rfl) rfl ?_
          have zc0 : (0 : Int32).toInt = 0 := by decide
          refine mt_130_0 hJ hov1 hov2 (d := d + 1) (x2 := 0) (x3 := v171) (x4 := v172) K109.1 (by first | omega | decide) (fun hh175 K176 => ?_)
          have A177 := ((eh108.2.1 13 (by decide)).trans A10)
          have K178 := xk_tr K109 K176 (xsb_ok _ _ (by decide +kernel))
          obtain ⟨u179, u180, bu179, bu180, A181⟩ := xq_1 K178.1
          have C182 : xcX hh175 C := xcX_k C0 K178 (by decide +kernel)
          have hfu179 : u179.toInt = (C 11 0) := xfi_ld C182.1 A181 rfl
          have e183 : u1 = u179 := xk_eqi (q := 5) K176 (by decide +kernel) A173 A181 rfl rfl
          subst e183
          have A184 := xk_eqa (q := 0) K176 (by decide +kernel) A177
          obtain ⟨u185, u186, bu185, bu186, A187⟩ := xq_63 K178.1
          have hfu186 : u186.toInt = 63 := xfi_ld C182.2.2.2.2.2.2.2.2.2.2.2.2.2.2.2.2.2.2.2 A187 rfl
          have e188 : u13 = u185 := xk_eqi (q := 2) K176 (by decide +kernel) A111 A187 rfl rfl
          subst e188
          have e189 : u14 = u186 := xk_eqi (q := 3) K176 (by decide +kernel) A111 A187 rfl rfl
          subst e189
          have A190 := xk_eqa (q := 0) K176 (by decide +kernel) eh108.1
          have A191 := xk_eqa (q := 0) K176 (by decide +kernel) A114
          show xw J ov (d + 4) 128 (115, [(10, .int v166), (9, .int v164), (6, .int v163), (8, .int v119), (7, .int v116), (5, .ref 11), (0, .ref 1), (1, .ref 63), (2, .int 0), (3, .int x3), (4, .int x4)], [], hh175) _
          refine xi_iload (pc' := 117) (x := v166) kc_128_115 rfl rfl ?_
          refine xi_istore (pc' := 119) (lv' := [(6, .int v166), (10, .int v166), (9, .int v164), (8, .int v119), (7, .int v116), (5, .ref 11), (0, .ref 1), (1, .ref 63), (2, .int 0), (3, .int x3), (4, .int x4)]) kc_128_117 rfl rfl (xm_lt ml_128 rfl) ?_
          refine xi_aload_n (pc' := 120) (x := 63) kc_128_119 rfl rfl ?_
          refine xi_getfield (pc' := 123) (v := .ref 64) kc_128_120 rfl rfl rfl A187 rfl ?_
          refine xi_iload_n (pc' := 124) (x := 0) kc_128_123 rfl rfl ?_
          refine xi_iload (pc' := 126) (x := v166) kc_128_124 rfl rfl ?_
          obtain ⟨y192, s192, hy192, ry192⟩ := xj_set (v := v166) hy108 ry108 0 (by first | omega | decide) (by first | omega | decide)
          refine xi_iastore (pc' := 127) (x' := y192) kc_128_126 rfl A190 rfl (xi_in (by decide) (by rw [hy108]; decide)) s192 (fun hh192 eh192 => ?_)
          have K193 := xk_pa K178 (xk_wa (by decide +kernel)) xD_64 hy192 ry192 eh192
          have R194 : xrp y192 6 (xup (xup gw 0 (99999 : Int32).toInt) 0 (v166 : Int32).toInt) := xrp_setc R110 s192 (by decide) rfl
          refine xi_return kc_128_127 mr_128 ?_
          have hqr := hq 0 (by omega)
          have hwr := hw 0 (by omega)
          have em : Int32.toNatClampNeg v8 = (hr % 24).toNat := xcl3 (by omega) (by omega)
          have hmr : 0 ≤ C 20 (hr % 24).toNat ∧ C 20 (hr % 24).toNat ≤ 999 := hC.2.2.2.2.2 0 (by omega) (hr % 24).toNat (by omega)
          rw [em] at hlv12
          have n1 : Int32.toNatClampNeg 0 = 0 := by decide
          rw [n1] at kk
          have zc99999 : (99999 : Int32).toInt = 99999 := by decide
          have ew : (v112 : Int32).toInt = xcap (gw 0 + C 20 (hr % 24).toNat) := xcap_is (fun z => by omega) (fun z => by omega)
          have hfan := xc_of_fan hq (show 0 < 6 by omega)
          have ec : (v160 : Int32).toInt = st 0 2 + (if st 0 4 = 1 then st 0 3 else 0) := by rw [if_neg (show ¬ st 0 4 = 1 by omega)]; omega
          have hcb := xho_b b4.1 b4.2
          have eg : (r165 : Int32).toInt = xho (st 0 1) := by rw [hr165, show (v164 : Int32).toInt = st 0 1 by omega]
          obtain ⟨ha1, ha2, ha3, ha4⟩ := xair ew (show (v116 : Int32).toInt = st 0 0 by omega) hr117 ec eg (xcap_b (by omega)) hqr.1 ⟨by omega, by omega⟩ hfan ⟨by omega, by omega⟩ ev118 ev119 ev120 ev161 ev162 ev163 ev166
          have hv := xro_v ha1 ha3
          have hW := xrp_fn R194 (show _ = (xup gw 0 (xro (gw 0) (C 20 (hr % 24).toNat) (st 0 0) (st 0 1) (st 0 2 + (if st 0 4 = 1 then st 0 3 else 0)) (xho x4.toInt))) from (congrArg (xup _ 0) (show (v166 : Int32).toInt = _ from hv.1 (by omega))).trans xup_2)
          exact kk hh192 K193 (xra_mk eh192.1 hW)
  by_cases c195 : x2.toInt = 1
  · have qx2 : x2 = 1 := xc_of (Eq.trans (by omega) (show (1 : Int) = (1 : Int32).toInt by decide))
    subst qx2
    refine xi_aaload (pc' := 6) (b := 14) kc_128_5 rfl A5 rfl (xi_in (n := 6) (by decide) (by decide)) rfl ?_
    refine xi_astore (pc' := 8) (lv' := [(5, .ref 14), (0, .ref 1), (1, .ref 63), (2, .int 1), (3, .int x3), (4, .int x4)]) kc_128_6 rfl rfl (xm_lt ml_128 rfl) ?_
    refine xi_aload_n (pc' := 9) (x := 63) kc_128_8 rfl rfl ?_
    refine xi_iload_n (pc' := 10) (x := 1) kc_128_9 rfl rfl ?_
    refine xi_aload (pc' := 12) (x := 14) kc_128_10 rfl rfl ?_
    have A196 := xq_14 K.1
    refine xi_getfield (pc' := 15) (v := .ref 16) kc_128_12 rfl rfl rfl A196 rfl ?_
    refine xi_iload_n (pc' := 16) (x := x3) kc_128_15 rfl rfl ?_
    refine xi_bipush (pc' := 18) (v := 24) kc_128_16 rfl rfl ?_
    refine xi_static (mj := 3) (as := [.int x3, .int 24]) (st1 := [.ref 16, .int 1, .ref 63]) (lv0 := [(0, .int x3), (1, .int 24)]) kc_128_18 rfl rfl (Nat.le_of_ble_eq_true rfl) rfl rfl (Nat.le_of_ble_eq_true rfl) (hJ _ _ _ _ (by decide)) (xm_le ml_3 rfl) rfl ?_
    refine xi_iload_n (pc' := 1) (x := x3) kc_3_0 rfl rfl ?_
    refine xi_iload_n (pc' := 2) (x := 24) kc_3_1 rfl rfl ?_
    obtain ⟨v197, ev197⟩ : ∃ q : Int32, x3 - x3 / 24 * 24 = q := ⟨_, rfl⟩
    have dv197 : v197.toInt = x3.toInt % 24 := by rw [← ev197]; exact xz_reme (X := x3.toInt) (Y := 24) rfl (by decide) (by omega) (by decide)
    have bv197 : 0 ≤ v197.toInt ∧ v197.toInt ≤ 23 := by omega
    refine xi_irem (pc' := 3) (v := v197) kc_3_2 rfl ev197 (by decide) ?_
    refine xi_istore_n (pc' := 4) (lv' := [(2, .int v197), (0, .int x3), (1, .int 24)]) kc_3_3 rfl rfl (xm_lt ml_3 rfl) ?_
    refine xi_iload_n (pc' := 5) (x := x3) kc_3_4 rfl rfl ?_
    refine xi_iload_n (pc' := 6) (x := 24) kc_3_5 rfl rfl ?_
    obtain ⟨v198, ev198⟩ : ∃ q : Int32, (x3 : Int32) ^^^ 24 = q := ⟨_, rfl⟩
    have rv198 := xc_rng v198
    have bv198 : 0 ≤ v198.toInt := by rw [← ev198]; exact xz_xor (by first | omega | decide) (by first | omega | decide)
    refine xi_ixor (pc' := 7) (v := v198) kc_3_6 rfl ev198 ?_
    refine xi_ift (pc' := 18) kc_3_7 rfl (xc_ge_t (X := v198.toInt) (Y := 0) rfl (by decide) (by omega)) ?_
    refine xi_iload_n (pc' := 19) (x := v197) kc_3_18 rfl rfl ?_
    refine xi_ireturn kc_3_19 mr_3 rfl ?_
    show xw J ov (d + 4) 128 (21, [(5, .ref 14), (0, .ref 1), (1, .ref 63), (2, .int 1), (3, .int x3), (4, .int x4)], [.int v197, .ref 16, .int 1, .ref 63], h) _
    obtain ⟨y199, A199, hy199, ry199⟩ := xk_arr K.1 xD_16
    have R200 : xrp y199 24 (C 21) := xra_ld C4.2.2.2.1 A199
    obtain ⟨v201, ev201, bv201, dv201⟩ := xj_get hy199 ry199 (i := v197) (by omega) (by omega)
    refine xi_iaload (pc' := 22) (v := v201) kc_128_21 rfl A199 (by decide) rfl (xi_in (by omega) (by rw [hy199]; omega)) ev201 ?_
    have hlv201 : v201.toInt = (C 21) (Int32.toNatClampNeg v197) := xrp_ld R200 (by omega) (by omega) ev201
    have brv201 : 0 ≤ v201.toInt ∧ v201.toInt ≤ 999 := by have hz : 0 ≤ C 21 (Int32.toNatClampNeg v197) ∧ C 21 (Int32.toNatClampNeg v197) ≤ 999 := hC.2.2.2.2.2 1 (by omega) (Int32.toNatClampNeg v197) (by have := xj_tn (i := v197) (by omega); omega); omega
    obtain ⟨u202, u203, bu202, bu203, A204⟩ := xq_63 K.1
    have hfu203 : u203.toInt = 63 := xfi_ld C4.2.2.2.2.2.2.2.2.2.2.2.2.2.2.2.2.2.2.2 A204 rfl
    refine xi_virtual (mj := 127) (as := [.int 1, .int v201]) (st1 := []) (lv0 := [(0, .ref 63), (1, .int 1), (2, .int v201)]) kc_128_22 rfl rfl rfl rfl rfl A204 (Nat.le_of_ble_eq_true rfl) (hJ _ _ _ _ (by decide)) (xm_le ml_127 rfl) rfl ?_
    refine xi_iload_n (pc' := 1) (x := 1) kc_127_0 rfl rfl ?_
    refine xi_iff (pc' := 4) kc_127_1 rfl rfl ?_
    refine xi_iload_n (pc' := 5) (x := 1) kc_127_4 rfl rfl ?_
    refine xi_aload_n (pc' := 6) (x := 63) kc_127_5 rfl rfl ?_
    refine xi_getfield (pc' := 9) (v := .ref 64) kc_127_6 rfl rfl rfl A204 rfl ?_
    obtain ⟨y205, A205, hy205, ry205⟩ := xk_arr K.1 xD_64
    have R206 : xrp y205 6 gw := xra_ld IW A205
    refine xi_arraylength (pc' := 10) (n := 6) (v := 6) kc_127_9 rfl (xl_lenI (by decide) (by decide) A205 hy205) rfl ?_
    refine xi_cmf (pc' := 13) kc_127_10 rfl rfl ?_
    refine xi_aload_n (pc' := 14) (x := 63) kc_127_13 rfl rfl ?_
    refine xi_getfield (pc' := 17) (v := .ref 64) kc_127_14 rfl rfl rfl A204 rfl ?_
    refine xi_iload_n (pc' := 18) (x := 1) kc_127_17 rfl rfl ?_
    obtain ⟨v207, ev207, bv207, dv207⟩ := xj_get hy205 ry205 (i := 1) (by decide) (by decide)
    refine xi_iaload (pc' := 19) (v := v207) kc_127_18 rfl A205 (by decide) rfl (xi_in (by decide) (by rw [hy205]; decide)) ev207 ?_
    have hlv207 : v207.toInt = gw 1 := xrp_ldc R206 (k := 1) (by decide) (by decide) ev207
    have brv207 : 0 ≤ v207.toInt ∧ v207.toInt ≤ 99999 := by have := hw 1 (by omega); omega
    refine xi_iload_n (pc' := 20) (x := v201) kc_127_19 rfl rfl ?_
    obtain ⟨v208, ev208⟩ : ∃ q : Int32, v207 + v201 = q := ⟨_, rfl⟩
    have zv208 : v208.toInt = (v207.toInt + v201.toInt) := by rw [← ev208]; exact (xz_add (X := v207.toInt) (Y := v201.toInt) rfl rfl (by omega) (by omega)).trans (by omega)
    refine xi_iadd (pc' := 21) (v := v208) kc_127_20 rfl ev208 ?_
    refine xi_istore_n (pc' := 22) (lv' := [(3, .int v208), (0, .ref 63), (1, .int 1), (2, .int v201)]) kc_127_21 rfl rfl (xm_lt ml_127 rfl) ?_
    refine xi_aload_n (pc' := 23) (x := 63) kc_127_22 rfl rfl ?_
    refine xi_getfield (pc' := 26) (v := .ref 64) kc_127_23 rfl rfl rfl A204 rfl ?_
    refine xi_iload_n (pc' := 27) (x := 1) kc_127_26 rfl rfl ?_
    refine xi_iload_n (pc' := 28) (x := v208) kc_127_27 rfl rfl ?_
    refine xi_ldc (pc' := 30) (v := 99999) kc_127_28 rfl rfl ?_
    by_cases c209 : (v207.toInt + v201.toInt) ≤ 99999
    · refine xi_cmt (pc' := 38) kc_127_30 rfl (xc_le_t (X := (v207.toInt + v201.toInt)) (Y := 99999) zv208 (by decide) (by omega)) ?_
      refine xi_iload_n (pc' := 39) (x := v208) kc_127_38 rfl rfl ?_
      obtain ⟨y210, s210, hy210, ry210⟩ := xj_set (v := v208) hy205 ry205 1 (by first | omega | decide) (by first | omega | decide)
      refine xi_iastore (pc' := 40) (x' := y210) kc_127_39 rfl A205 rfl (xi_in (by decide) (by rw [hy205]; decide)) s210 (fun hh210 eh210 => ?_)
      have K211 := xk_pa K (xk_wa (by decide +kernel)) xD_64 hy210 ry210 eh210
      have R212 : xrp y210 6 (xup gw 1 (v208 : Int32).toInt) := xrp_setc R206 s210 (by decide) rfl
      refine xi_return kc_127_40 mr_127 ?_
      show xw J ov (d + 4) 128 (25, [(5, .ref 14), (0, .ref 1), (1, .ref 63), (2, .int 1), (3, .int x3), (4, .int x4)], [], hh210) _
      refine xi_aload_n (pc' := 26) (x := 63) kc_128_25 rfl rfl ?_
      have A213 := ((eh210.2.1 63 (by decide)).trans A204)
      refine xi_getfield (pc' := 29) (v := .ref 64) kc_128_26 rfl rfl rfl A213 rfl ?_
      refine xi_iload_n (pc' := 30) (x := 1) kc_128_29 rfl rfl ?_
      obtain ⟨v214, ev214, bv214, dv214⟩ := xj_get hy210 ry210 (i := 1) (by decide) (by decide)
      refine xi_iaload (pc' := 31) (v := v214) kc_128_30 rfl eh210.1 (by decide) rfl (xi_in (by decide) (by rw [hy210]; decide)) ev214 ?_
      have hlv214 : v214.toInt = (v208 : Int32).toInt := (xrp_ldc R212 (k := 1) (by decide) (by decide) ev214).trans xup_s
      refine xi_istore (pc' := 33) (lv' := [(6, .int v214), (5, .ref 14), (0, .ref 1), (1, .ref 63), (2, .int 1), (3, .int x3), (4, .int x4)]) kc_128_31 rfl rfl (xm_lt ml_128 rfl) ?_
      refine xi_aload (pc' := 35) (x := 14) kc_128_33 rfl rfl ?_
      have A215 := ((eh210.2.1 14 (by decide)).trans A196)
      refine xi_getfield (pc' := 38) (v := .ref 15) kc_128_35 rfl rfl rfl A215 rfl ?_
      refine xi_iconst (pc' := 39) (v := 0) kc_128_38 rfl rfl ?_
      obtain ⟨y216, A216, hy216, ry216⟩ := xk_arr K211.1 xD_15
      have R217 : xrp y216 5 (st 1) := xra_ld (xg6_k I6 K211 (by decide +kernel)).2.1 A216
      obtain ⟨v218, ev218, bv218, dv218⟩ := xj_get hy216 ry216 (i := 0) (by decide) (by decide)
      refine xi_iaload (pc' := 40) (v := v218) kc_128_39 rfl A216 (by decide) rfl (xi_in (by decide) (by rw [hy216]; decide)) ev218 ?_
      have hlv218 : v218.toInt = (st 1) 0 := xrp_ldc R217 (k := 0) (by decide) (by decide) ev218
      have brv218 : 0 ≤ v218.toInt ∧ v218.toInt ≤ 99 := by have := hq 1 (by omega); omega
      refine xi_istore (pc' := 42) (lv' := [(7, .int v218), (6, .int v214), (5, .ref 14), (0, .ref 1), (1, .ref 63), (2, .int 1), (3, .int x3), (4, .int x4)]) kc_128_40 rfl rfl (xm_lt ml_128 rfl) ?_
      refine xi_iload (pc' := 44) (x := v218) kc_128_42 rfl rfl ?_
      refine xi_iload (pc' := 46) (x := x4) kc_128_44 rfl rfl ?_
      refine xi_static (mj := 102) (as := [.int x4]) (st1 := [.int v218]) (lv0 := [(0, .int x4)]) kc_128_46 rfl rfl (Nat.le_of_ble_eq_true rfl) rfl rfl (Nat.le_of_ble_eq_true rfl) (hJ _ _ _ _ (by decide)) (xm_le ml_102 rfl) rfl ?_
      refine xw_gx hJ hov1 hov2 (d := d + 1) (x0 := x4) (by omega) (fun r219 hr219 br219 => ?_)
      show xw J ov (d + 4) 128 (49, [(7, .int v218), (6, .int v214), (5, .ref 14), (0, .ref 1), (1, .ref 63), (2, .int 1), (3, .int x3), (4, .int x4)], [.int r219, .int v218], hh210) _
      obtain ⟨v220, ev220⟩ : ∃ q : Int32, (v218 : Int32) * r219 = q := ⟨_, rfl⟩
      have rv220 := xc_rng v220
      refine xi_imul (pc' := 50) (v := v220) kc_128_49 rfl ev220 ?_
      refine xi_iconst (pc' := 51) (v := 2) kc_128_50 rfl rfl ?_
      obtain ⟨v221, ev221⟩ : ∃ q : Int32, v220 / 2 = q := ⟨_, rfl⟩
      have dv221 : 2 * v221.toInt ≤ v220.toInt + 1 ∧ v220.toInt ≤ 2 * v221.toInt + 1 := by rw [← ev221]; exact xz_div (X := v220.toInt) (Y := 2) rfl (by decide) (by decide)
      have bv221 : -1073741825 ≤ v221.toInt ∧ v221.toInt ≤ 1073741824 := by omega
      refine xi_idiv (pc' := 52) (v := v221) kc_128_51 rfl ev221 (by decide) ?_
      refine xi_istore (pc' := 54) (lv' := [(8, .int v221), (7, .int v218), (6, .int v214), (5, .ref 14), (0, .ref 1), (1, .ref 63), (2, .int 1), (3, .int x3), (4, .int x4)]) kc_128_52 rfl rfl (xm_lt ml_128 rfl) ?_
      refine xi_iload (pc' := 56) (x := v214) kc_128_54 rfl rfl ?_
      refine xi_iload (pc' := 58) (x := v214) kc_128_56 rfl rfl ?_
      refine xi_iload (pc' := 60) (x := v221) kc_128_58 rfl rfl ?_
      obtain ⟨v222, ev222⟩ : ∃ q : Int32, (v214 : Int32) - v221 = q := ⟨_, rfl⟩
      have rv222 := xc_rng v222
      refine xi_isub (pc' := 61) (v := v222) kc_128_60 rfl ev222 ?_
      refine xi_aload (pc' := 63) (x := 14) kc_128_61 rfl rfl ?_
      refine xi_virtual (mj := 129) (as := []) (st1 := [.int v222, .int v214]) (lv0 := [(0, .ref 14)]) kc_128_63 rfl rfl rfl rfl rfl A215 (Nat.le_of_ble_eq_true rfl) (hJ _ _ _ _ (by decide)) (xm_le ml_129 rfl) rfl ?_
      refine xi_aload_n (pc' := 1) (x := 14) kc_129_0 rfl rfl ?_
      refine xi_getfield (pc' := 4) (v := .ref 15) kc_129_1 rfl rfl rfl A215 rfl ?_
      refine xi_iconst (pc' := 5) (v := 2) kc_129_4 rfl rfl ?_
      obtain ⟨v223, ev223, bv223, dv223⟩ := xj_get hy216 ry216 (i := 2) (by decide) (by decide)
      refine xi_iaload (pc' := 6) (v := v223) kc_129_5 rfl A216 (by decide) rfl (xi_in (by decide) (by rw [hy216]; decide)) ev223 ?_
      have hlv223 : v223.toInt = (st 1) 2 := xrp_ldc R217 (k := 2) (by decide) (by decide) ev223
      have brv223 : 0 ≤ v223.toInt ∧ v223.toInt ≤ 99 := by have := hq 1 (by omega); omega
      refine xi_aload_n (pc' := 7) (x := 14) kc_129_6 rfl rfl ?_
      refine xi_getfield (pc' := 10) (v := .ref 15) kc_129_7 rfl rfl rfl A215 rfl ?_
      refine xi_iconst (pc' := 11) (v := 4) kc_129_10 rfl rfl ?_
      obtain ⟨v224, ev224, bv224, dv224⟩ := xj_get hy216 ry216 (i := 4) (by decide) (by decide)
      refine xi_iaload (pc' := 12) (v := v224) kc_129_11 rfl A216 (by decide) rfl (xi_in (by decide) (by rw [hy216]; decide)) ev224 ?_
      have hlv224 : v224.toInt = (st 1) 4 := xrp_ldc R217 (k := 4) (by decide) (by decide) ev224
      have brv224 : 0 ≤ v224.toInt ∧ v224.toInt ≤ 99 := by have := hq 1 (by omega); omega
      refine xi_iconst (pc' := 13) (v := 1) kc_129_12 rfl rfl ?_
      by_cases c225 : v224.toInt = 1
      · refine xi_cmf (pc' := 16) kc_129_13 rfl (xc_ne_f (X := v224.toInt) (Y := 1) rfl (by decide) (by omega)) ?_
        refine xi_aload_n (pc' := 17) (x := 14) kc_129_16 rfl rfl ?_
        refine xi_getfield (pc' := 20) (v := .ref 15) kc_129_17 rfl rfl rfl A215 rfl ?_
        refine xi_iconst (pc' := 21) (v := 3) kc_129_20 rfl rfl ?_
        obtain ⟨v226, ev226, bv226, dv226⟩ := xj_get hy216 ry216 (i := 3) (by decide) (by decide)
        refine xi_iaload (pc' := 22) (v := v226) kc_129_21 rfl A216 (by decide) rfl (xi_in (by decide) (by rw [hy216]; decide)) ev226 ?_
        have hlv226 : v226.toInt = (st 1) 3 := xrp_ldc R217 (k := 3) (by decide) (by decide) ev226
        have brv226 : 0 ≤ v226.toInt ∧ v226.toInt ≤ 99 := by have := hq 1 (by omega); omega
        refine xi_goto (pc' := 26) kc_129_22 rfl ?_
        obtain ⟨v227, ev227⟩ : ∃ q : Int32, v223 + v226 = q := ⟨_, rfl⟩
        have zv227 : v227.toInt = (v223.toInt + v226.toInt) := by rw [← ev227]; exact (xz_add (X := v223.toInt) (Y := v226.toInt) rfl rfl (by omega) (by omega)).trans (by omega)
        refine xi_iadd (pc' := 27) (v := v227) kc_129_26 rfl ev227 ?_
        refine xi_ireturn kc_129_27 mr_129 rfl ?_
        show xw J ov (d + 4) 128 (66, [(8, .int v221), (7, .int v218), (6, .int v214), (5, .ref 14), (0, .ref 1), (1, .ref 63), (2, .int 1), (3, .int x3), (4, .int x4)], [.int v227, .int v222, .int v214], hh210) _
        obtain ⟨v228, ev228⟩ : ∃ q : Int32, (v222 : Int32) * v227 = q := ⟨_, rfl⟩
        have rv228 := xc_rng v228
        refine xi_imul (pc' := 67) (v := v228) kc_128_66 rfl ev228 ?_
        refine xi_bipush (pc' := 69) (v := 100) kc_128_67 rfl rfl ?_
        obtain ⟨v229, ev229⟩ : ∃ q : Int32, v228 / 100 = q := ⟨_, rfl⟩
        have dv229 : 100 * v229.toInt ≤ v228.toInt + 99 ∧ v228.toInt ≤ 100 * v229.toInt + 99 := by rw [← ev229]; exact xz_div (X := v228.toInt) (Y := 100) rfl (by decide) (by decide)
        have bv229 : -21474837 ≤ v229.toInt ∧ v229.toInt ≤ 21474837 := by omega
        refine xi_idiv (pc' := 70) (v := v229) kc_128_69 rfl ev229 (by decide) ?_
        obtain ⟨v230, ev230⟩ : ∃ q : Int32, (v214 : Int32) - v229 = q := ⟨_, rfl⟩
        have rv230 := xc_rng v230
        refine xi_isub (pc' := 71) (v := v230) kc_128_70 rfl ev230 ?_
        refine xi_istore (pc' := 73) (lv' := [(6, .int v230), (8, .int v221), (7, .int v218), (5, .ref 14), (0, .ref 1), (1, .ref 63), (2, .int 1), (3, .int x3), (4, .int x4)]) kc_128_71 rfl rfl (xm_lt ml_128 rfl) ?_
        refine xi_aload (pc' := 75) (x := 14) kc_128_73 rfl rfl ?_
        refine xi_getfield (pc' := 78) (v := .ref 15) kc_128_75 rfl rfl rfl A215 rfl ?_
        refine xi_iconst (pc' := 79) (v := 1) kc_128_78 rfl rfl ?_
        obtain ⟨v231, ev231, bv231, dv231⟩ := xj_get hy216 ry216 (i := 1) (by decide) (by decide)
        refine xi_iaload (pc' := 80) (v := v231) kc_128_79 rfl A216 (by decide) rfl (xi_in (by decide) (by rw [hy216]; decide)) ev231 ?_
        have hlv231 : v231.toInt = (st 1) 1 := xrp_ldc R217 (k := 1) (by decide) (by decide) ev231
        have brv231 : 0 ≤ v231.toInt ∧ v231.toInt ≤ 99 := by have := hq 1 (by omega); omega
        refine xi_istore (pc' := 82) (lv' := [(9, .int v231), (6, .int v230), (8, .int v221), (7, .int v218), (5, .ref 14), (0, .ref 1), (1, .ref 63), (2, .int 1), (3, .int x3), (4, .int x4)]) kc_128_80 rfl rfl (xm_lt ml_128 rfl) ?_
        refine xi_iload (pc' := 84) (x := v218) kc_128_82 rfl rfl ?_
        refine xi_iload (pc' := 86) (x := v231) kc_128_84 rfl rfl ?_
        refine xi_static (mj := 102) (as := [.int v231]) (st1 := [.int v218]) (lv0 := [(0, .int v231)]) kc_128_86 rfl rfl (Nat.le_of_ble_eq_true rfl) rfl rfl (Nat.le_of_ble_eq_true rfl) (hJ _ _ _ _ (by decide)) (xm_le ml_102 rfl) rfl ?_
        refine xw_gx hJ hov1 hov2 (d := d + 1) (x0 := v231) (by omega) (fun r232 hr232 br232 => ?_)
        show xw J ov (d + 4) 128 (89, [(9, .int v231), (6, .int v230), (8, .int v221), (7, .int v218), (5, .ref 14), (0, .ref 1), (1, .ref 63), (2, .int 1), (3, .int x3), (4, .int x4)], [.int r232, .int v218], hh210) _
        obtain ⟨v233, ev233⟩ : ∃ q : Int32, (v218 : Int32) * r232 = q := ⟨_, rfl⟩
        have rv233 := xc_rng v233
        refine xi_imul (pc' := 90) (v := v233) kc_128_89 rfl ev233 ?_
        refine xi_istore (pc' := 92) (lv' := [(10, .int v233), (9, .int v231), (6, .int v230), (8, .int v221), (7, .int v218), (5, .ref 14), (0, .ref 1), (1, .ref 63), (2, .int 1), (3, .int x3), (4, .int x4)]) kc_128_90 rfl rfl (xm_lt ml_128 rfl) ?_
        refine xi_iload (pc' := 94) (x := v230) kc_128_92 rfl rfl ?_
        refine xi_iload (pc' := 96) (x := v233) kc_128_94 rfl rfl ?_
        by_cases c234 : v230.toInt ≤ v233.toInt
        · refine xi_cmt (pc' := 119) kc_128_96 rfl (xc_le_t (X := v230.toInt) (Y := v233.toInt) rfl rfl (by omega)) ?_
          refine xi_aload_n (pc' := 120) (x := 63) kc_128_119 rfl rfl ?_
          refine xi_getfield (pc' := 123) (v := .ref 64) kc_128_120 rfl rfl rfl A213 rfl ?_
          refine xi_iload_n (pc' := 124) (x := 1) kc_128_123 rfl rfl ?_
          refine xi_iload (pc' := 126) (x := v230) kc_128_124 rfl rfl ?_
          obtain ⟨y235, s235, hy235, ry235⟩ := xj_set (v := v230) hy210 ry210 1 (by first | omega | decide) (by first | omega | decide)
          refine xi_iastore (pc' := 127) (x' := y235) kc_128_126 rfl eh210.1 rfl (xi_in (by decide) (by rw [hy210]; decide)) s235 (fun hh235 eh235 => ?_)
          have K236 := xk_pa K211 (xk_wa (by decide +kernel)) xD_64 hy235 ry235 eh235
          have R237 : xrp y235 6 (xup (xup gw 1 (v208 : Int32).toInt) 1 (v230 : Int32).toInt) := xrp_setc R212 s235 (by decide) rfl
          refine xi_return kc_128_127 mr_128 ?_
          have hqr := hq 1 (by omega)
          have hwr := hw 1 (by omega)
          have em : Int32.toNatClampNeg v197 = (hr % 24).toNat := xcl3 (by omega) (by omega)
          have hmr : 0 ≤ C 21 (hr % 24).toNat ∧ C 21 (hr % 24).toNat ≤ 999 := hC.2.2.2.2.2 1 (by omega) (hr % 24).toNat (by omega)
          rw [em] at hlv201
          have n1 : Int32.toNatClampNeg 1 = 1 := by decide
          rw [n1] at kk
          have zc99999 : (99999 : Int32).toInt = 99999 := by decide
          have ew : (v214 : Int32).toInt = xcap (gw 1 + C 21 (hr % 24).toNat) := xcap_is (fun z => by omega) (fun z => by omega)
          have hfan := xc_of_fan hq (show 1 < 6 by omega)
          have ec : (v227 : Int32).toInt = st 1 2 + (if st 1 4 = 1 then st 1 3 else 0) := by rw [if_pos (show st 1 4 = 1 by omega)]; omega
          have hcb := xho_b b4.1 b4.2
          have eg : (r232 : Int32).toInt = xho (st 1 1) := by rw [hr232, show (v231 : Int32).toInt = st 1 1 by omega]
          obtain ⟨ha1, ha2, ha3, ha4⟩ := xair ew (show (v218 : Int32).toInt = st 1 0 by omega) hr219 ec eg (xcap_b (by omega)) hqr.1 ⟨by omega, by omega⟩ hfan ⟨by omega, by omega⟩ ev220 ev221 ev222 ev228 ev229 ev230 ev233
          have hv := xro_v ha1 ha3
          have hW := xrp_fn R237 (show _ = (xup gw 1 (xro (gw 1) (C 21 (hr % 24).toNat) (st 1 0) (st 1 1) (st 1 2 + (if st 1 4 = 1 then st 1 3 else 0)) (xho x4.toInt))) from (congrArg (xup _ 1) (show (v230 : Int32).toInt = _ from hv.2 (by omega))).trans xup_2)
          exact kk hh235 K236 (xra_mk eh235.1 hW)
        · refine xi_cmf (pc' := 99) kc_128_96 rfl (xc_le_f (X := v230.toInt) (Y := v233.toInt) rfl rfl (by omega)) ?_
          refine xi_aload_n (pc' := 100) (x := 1) kc_128_99 rfl rfl ?_
          refine xi_aload_n (pc' := 101) (x := 63) kc_128_100 rfl rfl ?_
          refine xi_iload_n (pc' := 102) (x := 1) kc_128_101 rfl rfl ?_
          refine xi_iload (pc' := 104) (x := v230) kc_128_102 rfl rfl ?_
          refine xi_iload (pc' := 106) (x := v233) kc_128_104 rfl rfl ?_
          obtain ⟨v238, ev238⟩ : ∃ q : Int32, (v230 : Int32) - v233 = q := ⟨_, rfl⟩
          have rv238 := xc_rng v238
          refine xi_isub (pc' := 107) (v := v238) kc_128_106 rfl ev238 ?_
          refine xi_iload (pc' := 109) (x := v231) kc_128_107 rfl rfl ?_
          refine xi_iload (pc' := 111) (x := x4) kc_128_109 rfl rfl ?_
          obtain ⟨v239, ev239⟩ : ∃ q : Int32, v231 - x4 = q := ⟨_, rfl⟩
          have zv239 : v239.toInt = (v231.toInt + (-1) * x4.toInt) := by rw [← ev239]; exact (xz_sub (X := v231.toInt) (Y := x4.toInt) rfl rfl (by omega) (by omega)).trans (by omega)
          refine xi_isub (pc' := 112) (v := v239) kc_128_111 rfl ev239 ?_
          have A240 := ((eh210.2.1 1 (by decide)).trans A3)
          refine xi_virtual (mj := 130) (as := [.ref 63, .int 1, .int v238, .int v239]) (st1 := []) (lv0 := [(0, .ref 1), (1, .ref 63), (2, .int 1), (3, .int v238), (4, .int v239)]) kc_128_112 rfl rfl rfl rfl rfl A240 (Nat.le_of_ble_eq_true rfl) (hJ _ _ _ _ (by decide)) (xm_le ml_130 rfl) rfl ?_
          have zc1 : (1 : Int32).toInt = 1 := by decide
          refine mt_130_0 hJ hov1 hov2 (d := d + 1) (x2 := 1) (x3 := v238) (x4 := v239) K211.1 (by first | omega | decide) (fun hh242 K243 => ?_)
          have A244 := ((eh210.2.1 16 (by decide)).trans A199)
          have K245 := xk_tr K211 K243 (xsb_ok _ _ (by decide +kernel))
          obtain ⟨u246, u247, bu246, bu247, A248⟩ := xq_1 K245.1
          have C249 : xcX hh242 C := xcX_k C0 K245 (by decide +kernel)
          have hfu246 : u246.toInt = (C 11 0) := xfi_ld C249.1 A248 rfl
          have e250 : u1 = u246 := xk_eqi (q := 5) K243 (by decide +kernel) A240 A248 rfl rfl
          subst e250
          have A251 := xk_eqa (q := 0) K243 (by decide +kernel) A244
          obtain ⟨u252, u253, bu252, bu253, A254⟩ := xq_63 K245.1
          have hfu253 : u253.toInt = 63 := xfi_ld C249.2.2.2.2.2.2.2.2.2.2.2.2.2.2.2.2.2.2.2 A254 rfl
          have e255 : u202 = u252 := xk_eqi (q := 2) K243 (by decide +kernel) A213 A254 rfl rfl
          subst e255
          have e256 : u203 = u253 := xk_eqi (q := 3) K243 (by decide +kernel) A213 A254 rfl rfl
          subst e256
          have A257 := xk_eqa (q := 0) K243 (by decide +kernel) eh210.1
          have A258 := xk_eqa (q := 0) K243 (by decide +kernel) A216
          show xw J ov (d + 4) 128 (115, [(10, .int v233), (9, .int v231), (6, .int v230), (8, .int v221), (7, .int v218), (5, .ref 14), (0, .ref 1), (1, .ref 63), (2, .int 1), (3, .int x3), (4, .int x4)], [], hh242) _
          refine xi_iload (pc' := 117) (x := v233) kc_128_115 rfl rfl ?_
          refine xi_istore (pc' := 119) (lv' := [(6, .int v233), (10, .int v233), (9, .int v231), (8, .int v221), (7, .int v218), (5, .ref 14), (0, .ref 1), (1, .ref 63), (2, .int 1), (3, .int x3), (4, .int x4)]) kc_128_117 rfl rfl (xm_lt ml_128 rfl) ?_
          refine xi_aload_n (pc' := 120) (x := 63) kc_128_119 rfl rfl ?_
          refine xi_getfield (pc' := 123) (v := .ref 64) kc_128_120 rfl rfl rfl A254 rfl ?_
          refine xi_iload_n (pc' := 124) (x := 1) kc_128_123 rfl rfl ?_
          refine xi_iload (pc' := 126) (x := v233) kc_128_124 rfl rfl ?_
          obtain ⟨y259, s259, hy259, ry259⟩ := xj_set (v := v233) hy210 ry210 1 (by first | omega | decide) (by first | omega | decide)
          refine xi_iastore (pc' := 127) (x' := y259) kc_128_126 rfl A257 rfl (xi_in (by decide) (by rw [hy210]; decide)) s259 (fun hh259 eh259 => ?_)
          have K260 := xk_pa K245 (xk_wa (by decide +kernel)) xD_64 hy259 ry259 eh259
          have R261 : xrp y259 6 (xup (xup gw 1 (v208 : Int32).toInt) 1 (v233 : Int32).toInt) := xrp_setc R212 s259 (by decide) rfl
          refine xi_return kc_128_127 mr_128 ?_
          have hqr := hq 1 (by omega)
          have hwr := hw 1 (by omega)
          have em : Int32.toNatClampNeg v197 = (hr % 24).toNat := xcl3 (by omega) (by omega)
          have hmr : 0 ≤ C 21 (hr % 24).toNat ∧ C 21 (hr % 24).toNat ≤ 999 := hC.2.2.2.2.2 1 (by omega) (hr % 24).toNat (by omega)
          rw [em] at hlv201
          have n1 : Int32.toNatClampNeg 1 = 1 := by decide
          rw [n1] at kk
          have zc99999 : (99999 : Int32).toInt = 99999 := by decide
          have ew : (v214 : Int32).toInt = xcap (gw 1 + C 21 (hr % 24).toNat) := xcap_is (fun z => by omega) (fun z => by omega)
          have hfan := xc_of_fan hq (show 1 < 6 by omega)
          have ec : (v227 : Int32).toInt = st 1 2 + (if st 1 4 = 1 then st 1 3 else 0) := by rw [if_pos (show st 1 4 = 1 by omega)]; omega
          have hcb := xho_b b4.1 b4.2
          have eg : (r232 : Int32).toInt = xho (st 1 1) := by rw [hr232, show (v231 : Int32).toInt = st 1 1 by omega]
          obtain ⟨ha1, ha2, ha3, ha4⟩ := xair ew (show (v218 : Int32).toInt = st 1 0 by omega) hr219 ec eg (xcap_b (by omega)) hqr.1 ⟨by omega, by omega⟩ hfan ⟨by omega, by omega⟩ ev220 ev221 ev222 ev228 ev229 ev230 ev233
          have hv := xro_v ha1 ha3
          have hW := xrp_fn R261 (show _ = (xup gw 1 (xro (gw 1) (C 21 (hr % 24).toNat) (st 1 0) (st 1 1) (st 1 2 + (if st 1 4 = 1 then st 1 3 else 0)) (xho x4.toInt))) from (congrArg (xup _ 1) (show (v233 : Int32).toInt = _ from hv.1 (by omega))).trans xup_2)
          exact kk hh259 K260 (xra_mk eh259.1 hW)
      · refine xi_cmt (pc' := 25) kc_129_13 rfl (xc_ne_t (X := v224.toInt) (Y := 1) rfl (by decide) (by omega)) ?_
        refine xi_iconst (pc' := 26) (v := 0) kc_129_25 rfl rfl ?_
        obtain ⟨v262, ev262⟩ : ∃ q : Int32, v223 + 0 = q := ⟨_, rfl⟩
        have zv262 : v262.toInt = v223.toInt := by rw [← ev262]; exact (xz_add (X := v223.toInt) (Y := 0) rfl (by decide) (by omega) (by omega)).trans (by omega)
        refine xi_iadd (pc' := 27) (v := v262) kc_129_26 rfl ev262 ?_
        refine xi_ireturn kc_129_27 mr_129 rfl ?_
        show xw J ov (d + 4) 128 (66, [(8, .int v221), (7, .int v218), (6, .int v214), (5, .ref 14), (0, .ref 1), (1, .ref 63), (2, .int 1), (3, .int x3), (4, .int x4)], [.int v262, .int v222, .int v214], hh210) _
        obtain ⟨v263, ev263⟩ : ∃ q : Int32, (v222 : Int32) * v262 = q := ⟨_, rfl⟩
        have rv263 := xc_rng v263
        refine xi_imul (pc' := 67) (v := v263) kc_128_66 rfl ev263 ?_
        refine xi_bipush (pc' := 69) (v := 100) kc_128_67 rfl rfl ?_
        obtain ⟨v264, ev264⟩ : ∃ q : Int32, v263 / 100 = q := ⟨_, rfl⟩
        have dv264 : 100 * v264.toInt ≤ v263.toInt + 99 ∧ v263.toInt ≤ 100 * v264.toInt + 99 := by rw [← ev264]; exact xz_div (X := v263.toInt) (Y := 100) rfl (by decide) (by decide)
        have bv264 : -21474837 ≤ v264.toInt ∧ v264.toInt ≤ 21474837 := by omega
        refine xi_idiv (pc' := 70) (v := v264) kc_128_69 rfl ev264 (by decide) ?_
        obtain ⟨v265, ev265⟩ : ∃ q : Int32, (v214 : Int32) - v264 = q := ⟨_, rfl⟩
        have rv265 := xc_rng v265
        refine xi_isub (pc' := 71) (v := v265) kc_128_70 rfl ev265 ?_
        refine xi_istore (pc' := 73) (lv' := [(6, .int v265), (8, .int v221), (7, .int v218), (5, .ref 14), (0, .ref 1), (1, .ref 63), (2, .int 1), (3, .int x3), (4, .int x4)]) kc_128_71 rfl rfl (xm_lt ml_128 rfl) ?_
        refine xi_aload (pc' := 75) (x := 14) kc_128_73 rfl rfl ?_
        refine xi_getfield (pc' := 78) (v := .ref 15) kc_128_75 rfl rfl rfl A215 rfl ?_
        refine xi_iconst (pc' := 79) (v := 1) kc_128_78 rfl rfl ?_
        obtain ⟨v266, ev266, bv266, dv266⟩ := xj_get hy216 ry216 (i := 1) (by decide) (by decide)
        refine xi_iaload (pc' := 80) (v := v266) kc_128_79 rfl A216 (by decide) rfl (xi_in (by decide) (by rw [hy216]; decide)) ev266 ?_
        have hlv266 : v266.toInt = (st 1) 1 := xrp_ldc R217 (k := 1) (by decide) (by decide) ev266
        have brv266 : 0 ≤ v266.toInt ∧ v266.toInt ≤ 99 := by have := hq 1 (by omega); omega
        refine xi_istore (pc' := 82) (lv' := [(9, .int v266), (6, .int v265), (8, .int v221), (7, .int v218), (5, .ref 14), (0, .ref 1), (1, .ref 63), (2, .int 1), (3, .int x3), (4, .int x4)]) kc_128_80 rfl rfl (xm_lt ml_128 rfl) ?_
        refine xi_iload (pc' := 84) (x := v218) kc_128_82 rfl rfl ?_
        refine xi_iload (pc' := 86) (x := v266) kc_128_84 rfl rfl ?_
        refine xi_static (mj := 102) (as := [.int v266]) (st1 := [.int v218]) (lv0 := [(0, .int v266)]) kc_128_86 rfl rfl (Nat.le_of_ble_eq_true rfl) rfl rfl (Nat.le_of_ble_eq_true rfl) (hJ _ _ _ _ (by decide)) (xm_le ml_102 rfl) rfl ?_
        refine xw_gx hJ hov1 hov2 (d := d + 1) (x0 := v266) (by omega) (fun r267 hr267 br267 => ?_)
        show xw J ov (d + 4) 128 (89, [(9, .int v266), (6, .int v265), (8, .int v221), (7, .int v218), (5, .ref 14), (0, .ref 1), (1, .ref 63), (2, .int 1), (3, .int x3), (4, .int x4)], [.int r267, .int v218], hh210) _
        obtain ⟨v268, ev268⟩ : ∃ q : Int32, (v218 : Int32) * r267 = q := ⟨_, rfl⟩
        have rv268 := xc_rng v268
        refine xi_imul (pc' := 90) (v := v268) kc_128_89 rfl ev268 ?_
        refine xi_istore (pc' := 92) (lv' := [(10, .int v268), (9, .int v266), (6, .int v265), (8, .int v221), (7, .int v218), (5, .ref 14), (0, .ref 1), (1, .ref 63), (2, .int 1), (3, .int x3), (4, .int x4)]) kc_128_90 rfl rfl (xm_lt ml_128 rfl) ?_
        refine xi_iload (pc' := 94) (x := v265) kc_128_92 rfl rfl ?_
        refine xi_iload (pc' := 96) (x := v268) kc_128_94 rfl rfl ?_
        by_cases c269 : v265.toInt ≤ v268.toInt
        · refine xi_cmt (pc' := 119) kc_128_96 rfl (xc_le_t (X := v265.toInt) (Y := v268.toInt) rfl rfl (by omega)) ?_
          refine xi_aload_n (pc' := 120) (x := 63) kc_128_119 rfl rfl ?_
          refine xi_getfield (pc' := 123) (v := .ref 64) kc_128_120 rfl rfl rfl A213 rfl ?_
          refine xi_iload_n (pc' := 124) (x := 1) kc_128_123 rfl rfl ?_
          refine xi_iload (pc' := 126) (x := v265) kc_128_124 rfl rfl ?_
          obtain ⟨y270, s270, hy270, ry270⟩ := xj_set (v := v265) hy210 ry210 1 (by first | omega | decide) (by first | omega | decide)
          refine xi_iastore (pc' := 127) (x' := y270) kc_128_126 rfl eh210.1 rfl (xi_in (by decide) (by rw [hy210]; decide)) s270 (fun hh270 eh270 => ?_)
          have K271 := xk_pa K211 (xk_wa (by decide +kernel)) xD_64 hy270 ry270 eh270
          have R272 : xrp y270 6 (xup (xup gw 1 (v208 : Int32).toInt) 1 (v265 : Int32).toInt) := xrp_setc R212 s270 (by decide) rfl
          refine xi_return kc_128_127 mr_128 ?_
          have hqr := hq 1 (by omega)
          have hwr := hw 1 (by omega)
          have em : Int32.toNatClampNeg v197 = (hr % 24).toNat := xcl3 (by omega) (by omega)
          have hmr : 0 ≤ C 21 (hr % 24).toNat ∧ C 21 (hr % 24).toNat ≤ 999 := hC.2.2.2.2.2 1 (by omega) (hr % 24).toNat (by omega)
          rw [em] at hlv201
          have n1 : Int32.toNatClampNeg 1 = 1 := by decide
          rw [n1] at kk
          have zc99999 : (99999 : Int32).toInt = 99999 := by decide
          have ew : (v214 : Int32).toInt = xcap (gw 1 + C 21 (hr % 24).toNat) := xcap_is (fun z => by omega) (fun z => by omega)
          have hfan := xc_of_fan hq (show 1 < 6 by omega)
          have ec : (v262 : Int32).toInt = st 1 2 + (if st 1 4 = 1 then st 1 3 else 0) := by rw [if_neg (show ¬ st 1 4 = 1 by omega)]; omega
          have hcb := xho_b b4.1 b4.2
          have eg : (r267 : Int32).toInt = xho (st 1 1) := by rw [hr267, show (v266 : Int32).toInt = st 1 1 by omega]
          obtain ⟨ha1, ha2, ha3, ha4⟩ := xair ew (show (v218 : Int32).toInt = st 1 0 by omega) hr219 ec eg (xcap_b (by omega)) hqr.1 ⟨by omega, by omega⟩ hfan ⟨by omega, by omega⟩ ev220 ev221 ev222 ev263 ev264 ev265 ev268
          have hv := xro_v ha1 ha3
          have hW := xrp_fn R272 (show _ = (xup gw 1 (xro (gw 1) (C 21 (hr % 24).toNat) (st 1 0) (st 1 1) (st 1 2 + (if st 1 4 = 1 then st 1 3 else 0)) (xho x4.toInt))) from (congrArg (xup _ 1) (show (v265 : Int32).toInt = _ from hv.2 (by omega))).trans xup_2)
          exact kk hh270 K271 (xra_mk eh270.1 hW)
        · refine xi_cmf (pc' := 99) kc_128_96 rfl (xc_le_f (X := v265.toInt) (Y := v268.toInt) rfl rfl (by omega)) ?_
          refine xi_aload_n (pc' := 100) (x := 1) kc_128_99 rfl rfl ?_
          refine xi_aload_n (pc' := 101) (x := 63) kc_128_100 rfl rfl ?_
          refine xi_iload_n (pc' := 102) (x := 1) kc_128_101 rfl rfl ?_
          refine xi_iload (pc' := 104) (x := v265) kc_128_102 rfl rfl ?_
          refine xi_iload (pc' := 106) (x := v268) kc_128_104 rfl rfl ?_
          obtain ⟨v273, ev273⟩ : ∃ q : Int32, (v265 : Int32) - v268 = q := ⟨_, rfl⟩
          have rv273 := xc_rng v273
          refine xi_isub (pc' := 107) (v := v273) kc_128_106 rfl ev273 ?_
          refine xi_iload (pc' := 109) (x := v266) kc_128_107 rfl rfl ?_
          refine xi_iload (pc' := 111) (x := x4) kc_128_109 rfl rfl ?_
          obtain ⟨v274, ev274⟩ : ∃ q : Int32, v266 - x4 = q := ⟨_, rfl⟩
          have zv274 : v274.toInt = (v266.toInt + (-1) * x4.toInt) := by rw [← ev274]; exact (xz_sub (X := v266.toInt) (Y := x4.toInt) rfl rfl (by omega) (by omega)).trans (by omega)
          refine xi_isub (pc' := 112) (v := v274) kc_128_111 rfl ev274 ?_
          have A275 := ((eh210.2.1 1 (by decide)).trans A3)
          refine xi_virtual (mj := 130) (as := [.ref 63, .int 1, .int v273, .int v274]) (st1 := []) (lv0 := [(0, .ref 1), (1, .ref 63), (2, .int 1), (3, .int v273), (4, .int v274)]) kc_128_112 rfl rfl rfl rfl rfl A275 (Nat.le_of_ble_eq_true rfl) (hJ _ _ _ _ (by decide)) (xm_le ml_130 rfl) rfl ?_
          have zc1 : (1 : Int32).toInt = 1 := by decide
          refine mt_130_0 hJ hov1 hov2 (d := d + 1) (x2 := 1) (x3 := v273) (x4 := v274) K211.1 (by first | omega | decide) (fun hh277 K278 => ?_)
          have A279 := ((eh210.2.1 16 (by decide)).trans A199)
          have K280 := xk_tr K211 K278 (xsb_ok _ _ (by decide +kernel))
          obtain ⟨u281, u282, bu281, bu282, A283⟩ := xq_1 K280.1
          have C284 : xcX hh277 C := xcX_k C0 K280 (by decide +kernel)
          have hfu281 : u281.toInt = (C 11 0) := xfi_ld C284.1 A283 rfl
          have e285 : u1 = u281 := xk_eqi (q := 5) K278 (by decide +kernel) A275 A283 rfl rfl
          subst e285
          have A286 := xk_eqa (q := 0) K278 (by decide +kernel) A279
          obtain ⟨u287, u288, bu287, bu288, A289⟩ := xq_63 K280.1
          have hfu288 : u288.toInt = 63 := xfi_ld C284.2.2.2.2.2.2.2.2.2.2.2.2.2.2.2.2.2.2.2 A289 rfl
          have e290 : u202 = u287 := xk_eqi (q := 2) K278 (by decide +kernel) A213 A289 rfl rfl
          subst e290
          have e291 : u203 = u288 := xk_eqi (q := 3) K278 (by decide +kernel) A213 A289 rfl rfl
          subst e291
          have A292 := xk_eqa (q := 0) K278 (by decide +kernel) eh210.1
          have A293 := xk_eqa (q := 0) K278 (by decide +kernel) A216
          show xw J ov (d + 4) 128 (115, [(10, .int v268), (9, .int v266), (6, .int v265), (8, .int v221), (7, .int v218), (5, .ref 14), (0, .ref 1), (1, .ref 63), (2, .int 1), (3, .int x3), (4, .int x4)], [], hh277) _
          refine xi_iload (pc' := 117) (x := v268) kc_128_115 rfl rfl ?_
          refine xi_istore (pc' := 119) (lv' := [(6, .int v268), (10, .int v268), (9, .int v266), (8, .int v221), (7, .int v218), (5, .ref 14), (0, .ref 1), (1, .ref 63), (2, .int 1), (3, .int x3), (4, .int x4)]) kc_128_117 rfl rfl (xm_lt ml_128 rfl) ?_
          refine xi_aload_n (pc' := 120) (x := 63) kc_128_119 rfl rfl ?_
          refine xi_getfield (pc' := 123) (v := .ref 64) kc_128_120 rfl rfl rfl A289 rfl ?_
          refine xi_iload_n (pc' := 124) (x := 1) kc_128_123 rfl rfl ?_
          refine xi_iload (pc' := 126) (x := v268) kc_128_124 rfl rfl ?_
          obtain ⟨y294, s294, hy294, ry294⟩ := xj_set (v := v268) hy210 ry210 1 (by first | omega | decide) (by first | omega | decide)
          refine xi_iastore (pc' := 127) (x' := y294) kc_128_126 rfl A292 rfl (xi_in (by decide) (by rw [hy210]; decide)) s294 (fun hh294 eh294 => ?_)
          have K295 := xk_pa K280 (xk_wa (by decide +kernel)) xD_64 hy294 ry294 eh294
          have R296 : xrp y294 6 (xup (xup gw 1 (v208 : Int32).toInt) 1 (v268 : Int32).toInt) := xrp_setc R212 s294 (by decide) rfl
          refine xi_return kc_128_127 mr_128 ?_
          have hqr := hq 1 (by omega)
          have hwr := hw 1 (by omega)
          have em : Int32.toNatClampNeg v197 = (hr % 24).toNat := xcl3 (by omega) (by omega)
          have hmr : 0 ≤ C 21 (hr % 24).toNat ∧ C 21 (hr % 24).toNat ≤ 999 := hC.2.2.2.2.2 1 (by omega) (hr % 24).toNat (by omega)
          rw [em] at hlv201
          have n1 : Int32.toNatClampNeg 1 = 1 := by decide
          rw [n1] at kk
          have zc99999 : (99999 : Int32).toInt = 99999 := by decide
          have ew : (v214 : Int32).toInt = xcap (gw 1 + C 21 (hr % 24).toNat) := xcap_is (fun z => by omega) (fun z => by omega)
          have hfan := xc_of_fan hq (show 1 < 6 by omega)
          have ec : (v262 : Int32).toInt = st 1 2 + (if st 1 4 = 1 then st 1 3 else 0) := by rw [if_neg (show ¬ st 1 4 = 1 by omega)]; omega
          have hcb := xho_b b4.1 b4.2
          have eg : (r267 : Int32).toInt = xho (st 1 1) := by rw [hr267, show (v266 : Int32).toInt = st 1 1 by omega]
          obtain ⟨ha1, ha2, ha3, ha4⟩ := xair ew (show (v218 : Int32).toInt = st 1 0 by omega) hr219 ec eg (xcap_b (by omega)) hqr.1 ⟨by omega, by omega⟩ hfan ⟨by omega, by omega⟩ ev220 ev221 ev222 ev263 ev264 ev265 ev268
          have hv := xro_v ha1 ha3
          have hW := xrp_fn R296 (show _ = (xup gw 1 (xro (gw 1) (C 21 (hr % 24).toNat) (st 1 0) (st 1 1) (st 1 2 + (if st 1 4 = 1 then st 1 3 else 0)) (xho x4.toInt))) from (congrArg (xup _ 1) (show (v268 : Int32).toInt = _ from hv.1 (by omega))).trans xup_2)
          exact kk hh294 K295 (xra_mk eh294.1 hW)
    · refine xi_cmf (pc' := 33) kc_127_30 rfl (xc_le_f (X := (v207.toInt + v201.toInt)) (Y := 99999) zv208 (by decide) (by omega)) ?_
      refine xi_ldc (pc' := 35) (v := 99999) kc_127_33 rfl rfl ?_
      refine xi_goto (pc' := 39) kc_127_35 rfl ?_
      obtain ⟨y297, s297, hy297, ry297⟩ := xj_set (v := 99999) hy205 ry205 1 (by first | omega | decide) (by first | omega | decide)
      refine xi_iastore (pc' := 40) (x' := y297) kc_127_39 rfl A205 rfl (xi_in (by decide) (by rw [hy205]; decide)) s297 (fun hh297 eh297 => ?_)
      have K298 := xk_pa K (xk_wa (by decide +kernel)) xD_64 hy297 ry297 eh297
      have R299 : xrp y297 6 (xup gw 1 (99999 : Int32).toInt) := xrp_setc R206 s297 (by decide) rfl
      refine xi_return kc_127_40 mr_127 ?_
      show xw J ov (d + 4) 128 (25, [(5, .ref 14), (0, .ref 1), (1, .ref 63), (2, .int 1), (3, .int x3), (4, .int x4)], [], hh297) _
      refine xi_aload_n (pc' := 26) (x := 63) kc_128_25 rfl rfl ?_
      have A300 := ((eh297.2.1 63 (by decide)).trans A204)
      refine xi_getfield (pc' := 29) (v := .ref 64) kc_128_26 rfl rfl rfl A300 rfl ?_
      refine xi_iload_n (pc' := 30) (x := 1) kc_128_29 rfl rfl ?_
      obtain ⟨v301, ev301, bv301, dv301⟩ := xj_get hy297 ry297 (i := 1) (by decide) (by decide)
      refine xi_iaload (pc' := 31) (v := v301) kc_128_30 rfl eh297.1 (by decide) rfl (xi_in (by decide) (by rw [hy297]; decide)) ev301 ?_
      have hlv301 : v301.toInt = (99999 : Int32).toInt := (xrp_ldc R299 (k := 1) (by decide) (by decide) ev301).trans xup_s
      refine xi_istore (pc' := 33) (lv' := [(6, .int v301), (5, .ref 14), (0, .ref 1), (1, .ref 63), (2, .int 1), (3, .int x3), (4, .int x4)]) kc_128_31 rfl rfl (xm_lt ml_128 rfl) ?_
      refine xi_aload (pc' := 35) (x := 14) kc_128_33 rfl rfl ?_
      have A302 := ((eh297.2.1 14 (by decide)).trans A196)
      refine xi_getfield (pc' := 38) (v := .ref 15) kc_128_35 rfl rfl rfl A302 rfl ?_
      refine xi_iconst (pc' := 39) (v := 0) kc_128_38 rfl rfl ?_
      obtain ⟨y303, A303, hy303, ry303⟩ := xk_arr K298.1 xD_15
      have R304 : xrp y303 5 (st 1) := xra_ld (xg6_k I6 K298 (by decide +kernel)).2.1 A303
      obtain ⟨v305, ev305, bv305, dv305⟩ := xj_get hy303 ry303 (i := 0) (by decide) (by decide)
      refine xi_iaload (pc' := 40) (v := v305) kc_128_39 rfl A303 (by decide) rfl (xi_in (by decide) (by rw [hy303]; decide)) ev305 ?_
      have hlv305 : v305.toInt = (st 1) 0 := xrp_ldc R304 (k := 0) (by decide) (by decide) ev305
      have brv305 : 0 ≤ v305.toInt ∧ v305.toInt ≤ 99 := by have := hq 1 (by omega); omega
      refine xi_istore (pc' := 42) (lv' := [(7, .int v305), (6, .int v301), (5, .ref 14), (0, .ref 1), (1, .ref 63), (2, .int 1), (3, .int x3), (4, .int x4)]) kc_128_40 rfl rfl (xm_lt ml_128 rfl) ?_
      refine xi_iload (pc' := 44) (x := v305) kc_128_42 rfl rfl ?_
      refine xi_iload (pc' := 46) (x := x4) kc_128_44 rfl rfl ?_
      refine xi_static (mj := 102) (as := [.int x4]) (st1 := [.int v305]) (lv0 := [(0, .int x4)]) kc_128_46 rfl rfl (Nat.le_of_ble_eq_true rfl) rfl rfl (Nat.le_of_ble_eq_true rfl) (hJ _ _ _ _ (by decide)) (xm_le ml_102 rfl) rfl ?_
      refine xw_gx hJ hov1 hov2 (d := d + 1) (x0 := x4) (by omega) (fun r306 hr306 br306 => ?_)
      show xw J ov (d + 4) 128 (49, [(7, .int v305), (6, .int v301), (5, .ref 14), (0, .ref 1), (1, .ref 63), (2, .int 1), (3, .int x3), (4, .int x4)], [.int r306, .int v305], hh297) _
      obtain ⟨v307, ev307⟩ : ∃ q : Int32, (v305 : Int32) * r306 = q := ⟨_, rfl⟩
      have rv307 := xc_rng v307
      refine xi_imul (pc' := 50) (v := v307) kc_128_49 rfl ev307 ?_
      refine xi_iconst (pc' := 51) (v := 2) kc_128_50 rfl rfl ?_
      obtain ⟨v308, ev308⟩ : ∃ q : Int32, v307 / 2 = q := ⟨_, rfl⟩
      have dv308 : 2 * v308.toInt ≤ v307.toInt + 1 ∧ v307.toInt ≤ 2 * v308.toInt + 1 := by rw [← ev308]; exact xz_div (X := v307.toInt) (Y := 2) rfl (by decide) (by decide)
      have bv308 : -1073741825 ≤ v308.toInt ∧ v308.toInt ≤ 1073741824 := by omega
      refine xi_idiv (pc' := 52) (v := v308) kc_128_51 rfl ev308 (by decide) ?_
      refine xi_istore (pc' := 54) (lv' := [(8, .int v308), (7, .int v305), (6, .int v301), (5, .ref 14), (0, .ref 1), (1, .ref 63), (2, .int 1), (3, .int x3), (4, .int x4)]) kc_128_52 rfl rfl (xm_lt ml_128 rfl) ?_
      refine xi_iload (pc' := 56) (x := v301) kc_128_54 rfl rfl ?_
      refine xi_iload (pc' := 58) (x := v301) kc_128_56 rfl rfl ?_
      refine xi_iload (pc' := 60) (x := v308) kc_128_58 rfl rfl ?_
      obtain ⟨v309, ev309⟩ : ∃ q : Int32, (v301 : Int32) - v308 = q := ⟨_, rfl⟩
      have rv309 := xc_rng v309
      refine xi_isub (pc' := 61) (v := v309) kc_128_60 rfl ev309 ?_
      refine xi_aload (pc' := 63) (x := 14) kc_128_61 rfl rfl ?_
      refine xi_virtual (mj := 129) (as := []) (st1 := [.int v309, .int v301]) (lv0 := [(0, .ref 14)]) kc_128_63 rfl rfl rfl rfl rfl A302 (Nat.le_of_ble_eq_true rfl) (hJ _ _ _ _ (by decide)) (xm_le ml_129 rfl) rfl ?_
      refine xi_aload_n (pc' := 1) (x := 14) kc_129_0 rfl rfl ?_
      refine xi_getfield (pc' := 4) (v := .ref 15) kc_129_1 rfl rfl rfl A302 rfl ?_
      refine xi_iconst (pc' := 5) (v := 2) kc_129_4 rfl rfl ?_
      obtain ⟨v310, ev310, bv310, dv310⟩ := xj_get hy303 ry303 (i := 2) (by decide) (by decide)
      refine xi_iaload (pc' := 6) (v := v310) kc_129_5 rfl A303 (by decide) rfl (xi_in (by decide) (by rw [hy303]; decide)) ev310 ?_
      have hlv310 : v310.toInt = (st 1) 2 := xrp_ldc R304 (k := 2) (by decide) (by decide) ev310
      have brv310 : 0 ≤ v310.toInt ∧ v310.toInt ≤ 99 := by have := hq 1 (by omega); omega
      refine xi_aload_n (pc' := 7) (x := 14) kc_129_6 rfl rfl ?_
      refine xi_getfield (pc' := 10) (v := .ref 15) kc_129_7 rfl rfl rfl A302 rfl ?_
      refine xi_iconst (pc' := 11) (v := 4) kc_129_10 rfl rfl ?_
      obtain ⟨v311, ev311, bv311, dv311⟩ := xj_get hy303 ry303 (i := 4) (by decide) (by decide)
      refine xi_iaload (pc' := 12) (v := v311) kc_129_11 rfl A303 (by decide) rfl (xi_in (by decide) (by rw [hy303]; decide)) ev311 ?_
      have hlv311 : v311.toInt = (st 1) 4 := xrp_ldc R304 (k := 4) (by decide) (by decide) ev311
      have brv311 : 0 ≤ v311.toInt ∧ v311.toInt ≤ 99 := by have := hq 1 (by omega); omega
      refine xi_iconst (pc' := 13) (v := 1) kc_129_12 rfl rfl ?_
      by_cases c312 : v311.toInt = 1
      · refine xi_cmf (pc' := 16) kc_129_13 rfl (xc_ne_f (X := v311.toInt) (Y := 1) rfl (by decide) (by omega)) ?_
        refine xi_aload_n (pc' := 17) (x := 14) kc_129_16 rfl rfl ?_
        refine xi_getfield (pc' := 20) (v := .ref 15) kc_129_17 rfl rfl rfl A302 rfl ?_
        refine xi_iconst (pc' := 21) (v := 3) kc_129_20 rfl rfl ?_
        obtain ⟨v313, ev313, bv313, dv313⟩ := xj_get hy303 ry303 (i := 3) (by decide) (by decide)
        refine xi_iaload (pc' := 22) (v := v313) kc_129_21 rfl A303 (by decide) rfl (xi_in (by decide) (by rw [hy303]; decide)) ev313 ?_
        have hlv313 : v313.toInt = (st 1) 3 := xrp_ldc R304 (k := 3) (by decide) (by decide) ev313
        have brv313 : 0 ≤ v313.toInt ∧ v313.toInt ≤ 99 := by have := hq 1 (by omega); omega
        refine xi_goto (pc' := 26) kc_129_22 rfl ?_
        obtain ⟨v314, ev314⟩ : ∃ q : Int32, v310 + v313 = q := ⟨_, rfl⟩
        have zv314 : v314.toInt = (v310.toInt + v313.toInt) := by rw [← ev314]; exact (xz_add (X := v310.toInt) (Y := v313.toInt) rfl rfl (by omega) (by omega)).trans (by omega)
        refine xi_iadd (pc' := 27) (v := v314) kc_129_26 rfl ev314 ?_
        refine xi_ireturn kc_129_27 mr_129 rfl ?_
        show xw J ov (d + 4) 128 (66, [(8, .int v308), (7, .int v305), (6, .int v301), (5, .ref 14), (0, .ref 1), (1, .ref 63), (2, .int 1), (3, .int x3), (4, .int x4)], [.int v314, .int v309, .int v301], hh297) _
        obtain ⟨v315, ev315⟩ : ∃ q : Int32, (v309 : Int32) * v314 = q := ⟨_, rfl⟩
        have rv315 := xc_rng v315
        refine xi_imul (pc' := 67) (v := v315) kc_128_66 rfl ev315 ?_
        refine xi_bipush (pc' := 69) (v := 100) kc_128_67 rfl rfl ?_
        obtain ⟨v316, ev316⟩ : ∃ q : Int32, v315 / 100 = q := ⟨_, rfl⟩
        have dv316 : 100 * v316.toInt ≤ v315.toInt + 99 ∧ v315.toInt ≤ 100 * v316.toInt + 99 := by rw [← ev316]; exact xz_div (X := v315.toInt) (Y := 100) rfl (by decide) (by decide)
        have bv316 : -21474837 ≤ v316.toInt ∧ v316.toInt ≤ 21474837 := by omega
        refine xi_idiv (pc' := 70) (v := v316) kc_128_69 rfl ev316 (by decide) ?_
        obtain ⟨v317, ev317⟩ : ∃ q : Int32, (v301 : Int32) - v316 = q := ⟨_, rfl⟩
        have rv317 := xc_rng v317
        refine xi_isub (pc' := 71) (v := v317) kc_128_70 rfl ev317 ?_
        refine xi_istore (pc' := 73) (lv' := [(6, .int v317), (8, .int v308), (7, .int v305), (5, .ref 14), (0, .ref 1), (1, .ref 63), (2, .int 1), (3, .int x3), (4, .int x4)]) kc_128_71 rfl rfl (xm_lt ml_128 rfl) ?_
        refine xi_aload (pc' := 75) (x := 14) kc_128_73 rfl rfl ?_
        refine xi_getfield (pc' := 78) (v := .ref 15) kc_128_75 rfl rfl rfl A302 rfl ?_
        refine xi_iconst (pc' := 79) (v := 1) kc_128_78 rfl rfl ?_
        obtain ⟨v318, ev318, bv318, dv318⟩ := xj_get hy303 ry303 (i := 1) (by decide) (by decide)
        refine xi_iaload (pc' := 80) (v := v318) kc_128_79 rfl A303 (by decide) rfl (xi_in (by decide) (by rw [hy303]; decide)) ev318 ?_
        have hlv318 : v318.toInt = (st 1) 1 := xrp_ldc R304 (k := 1) (by decide) (by decide) ev318
        have brv318 : 0 ≤ v318.toInt ∧ v318.toInt ≤ 99 := by have := hq 1 (by omega); omega
        refine xi_istore (pc' := 82) (lv' := [(9, .int v318), (6, .int v317), (8, .int v308), (7, .int v305), (5, .ref 14), (0, .ref 1), (1, .ref 63), (2, .int 1), (3, .int x3), (4, .int x4)]) kc_128_80 rfl rfl (xm_lt ml_128 rfl) ?_
        refine xi_iload (pc' := 84) (x := v305) kc_128_82 rfl rfl ?_
        refine xi_iload (pc' := 86) (x := v318) kc_128_84 rfl rfl ?_
        refine xi_static (mj := 102) (as := [.int v318]) (st1 := [.int v305]) (lv0 := [(0, .int v318)]) kc_128_86 rfl rfl (Nat.le_of_ble_eq_true rfl) rfl rfl (Nat.le_of_ble_eq_true rfl) (hJ _ _ _ _ (by decide)) (xm_le ml_102 rfl) rfl ?_
        refine xw_gx hJ hov1 hov2 (d := d + 1) (x0 := v318) (by omega) (fun r319 hr319 br319 => ?_)
        show xw J ov (d + 4) 128 (89, [(9, .int v318), (6, .int v317), (8, .int v308), (7, .int v305), (5, .ref 14), (0, .ref 1), (1, .ref 63), (2, .int 1), (3, .int x3), (4, .int x4)], [.int r319, .int v305], hh297) _
        obtain ⟨v320, ev320⟩ : ∃ q : Int32, (v305 : Int32) * r319 = q := ⟨_, rfl⟩
        have rv320 := xc_rng v320
        refine xi_imul (pc' := 90) (v := v320) kc_128_89 rfl ev320 ?_
        refine xi_istore (pc' := 92) (lv' := [(10, .int v320), (9, .int v318), (6, .int v317), (8, .int v308), (7, .int v305), (5, .ref 14), (0, .ref 1), (1, .ref 63), (2, .int 1), (3, .int x3), (4, .int x4)]) kc_128_90 rfl rfl (xm_lt ml_128 rfl) ?_
        refine xi_iload (pc' := 94) (x := v317) kc_128_92 rfl rfl ?_
        refine xi_iload (pc' := 96) (x := v320) kc_128_94 rfl rfl ?_
        by_cases c321 : v317.toInt ≤ v320.toInt
        · refine xi_cmt (pc' := 119) kc_128_96 rfl (xc_le_t (X := v317.toInt) (Y := v320.toInt) rfl rfl (by omega)) ?_
          refine xi_aload_n (pc' := 120) (x := 63) kc_128_119 rfl rfl ?_
          refine xi_getfield (pc' := 123) (v := .ref 64) kc_128_120 rfl rfl rfl A300 rfl ?_
          refine xi_iload_n (pc' := 124) (x := 1) kc_128_123 rfl rfl ?_
          refine xi_iload (pc' := 126) (x := v317) kc_128_124 rfl rfl ?_
          obtain ⟨y322, s322, hy322, ry322⟩ := xj_set (v := v317) hy297 ry297 1 (by first | omega | decide) (by first | omega | decide)
          refine xi_iastore (pc' := 127) (x' := y322) kc_128_126 rfl eh297.1 rfl (xi_in (by decide) (by rw [hy297]; decide)) s322 (fun hh322 eh322 => ?_)
          have K323 := xk_pa K298 (xk_wa (by decide +kernel)) xD_64 hy322 ry322 eh322
          have R324 : xrp y322 6 (xup (xup gw 1 (99999 : Int32).toInt) 1 (v317 : Int32).toInt) := xrp_setc R299 s322 (by decide) rfl
          refine xi_return kc_128_127 mr_128 ?_
          have hqr := hq 1 (by omega)
          have hwr := hw 1 (by omega)
          have em : Int32.toNatClampNeg v197 = (hr % 24).toNat := xcl3 (by omega) (by omega)
          have hmr : 0 ≤ C 21 (hr % 24).toNat ∧ C 21 (hr % 24).toNat ≤ 999 := hC.2.2.2.2.2 1 (by omega) (hr % 24).toNat (by omega)
          rw [em] at hlv201
          have n1 : Int32.toNatClampNeg 1 = 1 := by decide
          rw [n1] at kk
          have zc99999 : (99999 : Int32).toInt = 99999 := by decide
          have ew : (v301 : Int32).toInt = xcap (gw 1 + C 21 (hr % 24).toNat) := xcap_is (fun z => by omega) (fun z => by omega)
          have hfan := xc_of_fan hq (show 1 < 6 by omega)
          have ec : (v314 : Int32).toInt = st 1 2 + (if st 1 4 = 1 then st 1 3 else 0) := by rw [if_pos (show st 1 4 = 1 by omega)]; omega
          have hcb := xho_b b4.1 b4.2
          have eg : (r319 : Int32).toInt = xho (st 1 1) := by rw [hr319, show (v318 : Int32).toInt = st 1 1 by omega]
          obtain ⟨ha1, ha2, ha3, ha4⟩ := xair ew (show (v305 : Int32).toInt = st 1 0 by omega) hr306 ec eg (xcap_b (by omega)) hqr.1 ⟨by omega, by omega⟩ hfan ⟨by omega, by omega⟩ ev307 ev308 ev309 ev315 ev316 ev317 ev320
          have hv := xro_v ha1 ha3
          have hW := xrp_fn R324 (show _ = (xup gw 1 (xro (gw 1) (C 21 (hr % 24).toNat) (st 1 0) (st 1 1) (st 1 2 + (if st 1 4 = 1 then st 1 3 else 0)) (xho x4.toInt))) from (congrArg (xup _ 1) (show (v317 : Int32).toInt = _ from hv.2 (by omega))).trans xup_2)
          exact kk hh322 K323 (xra_mk eh322.1 hW)
        · refine xi_cmf (pc' := 99) kc_128_96 rfl (xc_le_f (X := v317.toInt) (Y := v320.toInt) rfl rfl (by omega)) ?_
          refine xi_aload_n (pc' := 100) (x := 1) kc_128_99 rfl rfl ?_
          refine xi_aload_n (pc' := 101) (x := 63) kc_128_100 rfl rfl ?_
          refine xi_iload_n (pc' := 102) (x := 1) kc_128_101 rfl rfl ?_
          refine xi_iload (pc' := 104) (x := v317) kc_128_102 rfl rfl ?_
          refine xi_iload (pc' := 106) (x := v320) kc_128_104 rfl rfl ?_
          obtain ⟨v325, ev325⟩ : ∃ q : Int32, (v317 : Int32) - v320 = q := ⟨_, rfl⟩
          have rv325 := xc_rng v325
          refine xi_isub (pc' := 107) (v := v325) kc_128_106 rfl ev325 ?_
          refine xi_iload (pc' := 109) (x := v318) kc_128_107 rfl rfl ?_
          refine xi_iload (pc' := 111) (x := x4) kc_128_109 rfl rfl ?_
          obtain ⟨v326, ev326⟩ : ∃ q : Int32, v318 - x4 = q := ⟨_, rfl⟩
          have zv326 : v326.toInt = (v318.toInt + (-1) * x4.toInt) := by rw [← ev326]; exact (xz_sub (X := v318.toInt) (Y := x4.toInt) rfl rfl (by omega) (by omega)).trans (by omega)
          refine xi_isub (pc' := 112) (v := v326) kc_128_111 rfl ev326 ?_
          have A327 := ((eh297.2.1 1 (by decide)).trans A3)
          refine xi_virtual (mj := 130) (as := [.ref 63, .int 1, .int v325, .int v326]) (st1 := []) (lv0 := [(0, .ref 1), (1, .ref 63), (2, .int 1), (3, .int v325), (4, .int v326)]) kc_128_112 rfl rfl rfl rfl rfl A327 (Nat.le_of_ble_eq_true rfl) (hJ _ _ _ _ (by decide)) (xm_le ml_130 rfl) rfl ?_
          have zc1 : (1 : Int32).toInt = 1 := by decide
          refine mt_130_0 hJ hov1 hov2 (d := d + 1) (x2 := 1) (x3 := v325) (x4 := v326) K298.1 (by first | omega | decide) (fun hh329 K330 => ?_)
          have A331 := ((eh297.2.1 16 (by decide)).trans A199)
          have K332 := xk_tr K298 K330 (xsb_ok _ _ (by decide +kernel))
          obtain ⟨u333, u334, bu333, bu334, A335⟩ := xq_1 K332.1
          have C336 : xcX hh329 C := xcX_k C0 K332 (by decide +kernel)
          have hfu333 : u333.toInt = (C 11 0) := xfi_ld C336.1 A335 rfl
          have e337 : u1 = u333 := xk_eqi (q := 5) K330 (by decide +kernel) A327 A335 rfl rfl
          subst e337
          have A338 := xk_eqa (q := 0) K330 (by decide +kernel) A331
          obtain ⟨u339, u340, bu339, bu340, A341⟩ := xq_63 K332.1
          have hfu340 : u340.toInt = 63 := xfi_ld C336.2.2.2.2.2.2.2.2.2.2.2.2.2.2.2.2.2.2.2 A341 rfl
          have e342 : u202 = u339 := xk_eqi (q := 2) K330 (by decide +kernel) A300 A341 rfl rfl
          subst e342
          have e343 : u203 = u340 := xk_eqi (q := 3) K330 (by decide +kernel) A300 A341 rfl rfl
          subst e343
          have A344 := xk_eqa (q := 0) K330 (by decide +kernel) eh297.1
          have A345 := xk_eqa (q := 0) K330 (by decide +kernel) A303
          show xw J ov (d + 4) 128 (115, [(10, .int v320), (9, .int v318), (6, .int v317), (8, .int v308), (7, .int v305), (5, .ref 14), (0, .ref 1), (1, .ref 63), (2, .int 1), (3, .int x3), (4, .int x4)], [], hh329) _
          refine xi_iload (pc' := 117) (x := v320) kc_128_115 rfl rfl ?_
          refine xi_istore (pc' := 119) (lv' := [(6, .int v320), (10, .int v320), (9, .int v318), (8, .int v308), (7, .int v305), (5, .ref 14), (0, .ref 1), (1, .ref 63), (2, .int 1), (3, .int x3), (4, .int x4)]) kc_128_117 rfl rfl (xm_lt ml_128 rfl) ?_
          refine xi_aload_n (pc' := 120) (x := 63) kc_128_119 rfl rfl ?_
          refine xi_getfield (pc' := 123) (v := .ref 64) kc_128_120 rfl rfl rfl A341 rfl ?_
          refine xi_iload_n (pc' := 124) (x := 1) kc_128_123 rfl rfl ?_
          refine xi_iload (pc' := 126) (x := v320) kc_128_124 rfl rfl ?_
          obtain ⟨y346, s346, hy346, ry346⟩ := xj_set (v := v320) hy297 ry297 1 (by first | omega | decide) (by first | omega | decide)
          refine xi_iastore (pc' := 127) (x' := y346) kc_128_126 rfl A344 rfl (xi_in (by decide) (by rw [hy297]; decide)) s346 (fun hh346 eh346 => ?_)
          have K347 := xk_pa K332 (xk_wa (by decide +kernel)) xD_64 hy346 ry346 eh346
          have R348 : xrp y346 6 (xup (xup gw 1 (99999 : Int32).toInt) 1 (v320 : Int32).toInt) := xrp_setc R299 s346 (by decide) rfl
          refine xi_return kc_128_127 mr_128 ?_
          have hqr := hq 1 (by omega)
          have hwr := hw 1 (by omega)
          have em : Int32.toNatClampNeg v197 = (hr % 24).toNat := xcl3 (by omega) (by omega)
          have hmr : 0 ≤ C 21 (hr % 24).toNat ∧ C 21 (hr % 24).toNat ≤ 999 := hC.2.2.2.2.2 1 (by omega) (hr % 24).toNat (by omega)
          rw [em] at hlv201
          have n1 : Int32.toNatClampNeg 1 = 1 := by decide
          rw [n1] at kk
          have zc99999 : (99999 : Int32).toInt = 99999 := by decide
          have ew : (v301 : Int32).toInt = xcap (gw 1 + C 21 (hr % 24).toNat) := xcap_is (fun z => by omega) (fun z => by omega)
          have hfan := xc_of_fan hq (show 1 < 6 by omega)
          have ec : (v314 : Int32).toInt = st 1 2 + (if st 1 4 = 1 then st 1 3 else 0) := by rw [if_pos (show st 1 4 = 1 by omega)]; omega
          have hcb := xho_b b4.1 b4.2
          have eg : (r319 : Int32).toInt = xho (st 1 1) := by rw [hr319, show (v318 : Int32).toInt = st 1 1 by omega]
          obtain ⟨ha1, ha2, ha3, ha4⟩ := xair ew (show (v305 : Int32).toInt = st 1 0 by omega) hr306 ec eg (xcap_b (by omega)) hqr.1 ⟨by omega, by omega⟩ hfan ⟨by omega, by omega⟩ ev307 ev308 ev309 ev315 ev316 ev317 ev320
          have hv := xro_v ha1 ha3
          have hW := xrp_fn R348 (show _ = (xup gw 1 (xro (gw 1) (C 21 (hr % 24).toNat) (st 1 0) (st 1 1) (st 1 2 + (if st 1 4 = 1 then st 1 3 else 0)) (xho x4.toInt))) from (congrArg (xup _ 1) (show (v320 : Int32).toInt = _ from hv.1 (by omega))).trans xup_2)
          exact kk hh346 K347 (xra_mk eh346.1 hW)
      · refine xi_cmt (pc' := 25) kc_129_13 rfl (xc_ne_t (X := v311.toInt) (Y := 1) rfl (by decide) (by omega)) ?_
        refine xi_iconst (pc' := 26) (v := 0) kc_129_25 rfl rfl ?_
        obtain ⟨v349, ev349⟩ : ∃ q : Int32, v310 + 0 = q := ⟨_, rfl⟩
        have zv349 : v349.toInt = v310.toInt := by rw [← ev349]; exact (xz_add (X := v310.toInt) (Y := 0) rfl (by decide) (by omega) (by omega)).trans (by omega)
        refine xi_iadd (pc' := 27) (v := v349) kc_129_26 rfl ev349 ?_
        refine xi_ireturn kc_129_27 mr_129 rfl ?_
        show xw J ov (d + 4) 128 (66, [(8, .int v308), (7, .int v305), (6, .int v301), (5, .ref 14), (0, .ref 1), (1, .ref 63), (2, .int 1), (3, .int x3), (4, .int x4)], [.int v349, .int v309, .int v301], hh297) _
        obtain ⟨v350, ev350⟩ : ∃ q : Int32, (v309 : Int32) * v349 = q := ⟨_, rfl⟩
        have rv350 := xc_rng v350
        refine xi_imul (pc' := 67) (v := v350) kc_128_66 rfl ev350 ?_
        refine xi_bipush (pc' := 69) (v := 100) kc_128_67 rfl rfl ?_
        obtain ⟨v351, ev351⟩ : ∃ q : Int32, v350 / 100 = q := ⟨_, rfl⟩
        have dv351 : 100 * v351.toInt ≤ v350.toInt + 99 ∧ v350.toInt ≤ 100 * v351.toInt + 99 := by rw [← ev351]; exact xz_div (X := v350.toInt) (Y := 100) rfl (by decide) (by decide)
        have bv351 : -21474837 ≤ v351.toInt ∧ v351.toInt ≤ 21474837 := by omega
        refine xi_idiv (pc' := 70) (v := v351) kc_128_69 rfl ev351 (by decide) ?_
        obtain ⟨v352, ev352⟩ : ∃ q : Int32, (v301 : Int32) - v351 = q := ⟨_, rfl⟩
        have rv352 := xc_rng v352
        refine xi_isub (pc' := 71) (v := v352) kc_128_70 rfl ev352 ?_
        refine xi_istore (pc' := 73) (lv' := [(6, .int v352), (8, .int v308), (7, .int v305), (5, .ref 14), (0, .ref 1), (1, .ref 63), (2, .int 1), (3, .int x3), (4, .int x4)]) kc_128_71 rfl rfl (xm_lt ml_128 rfl) ?_
        refine xi_aload (pc' := 75) (x := 14) kc_128_73 rfl rfl ?_
        refine xi_getfield (pc' := 78) (v := .ref 15) kc_128_75 rfl rfl rfl A302 rfl ?_
        refine xi_iconst (pc' := 79) (v := 1) kc_128_78 rfl rfl ?_
        obtain ⟨v353, ev353, bv353, dv353⟩ := xj_get hy303 ry303 (i := 1) (by decide) (by decide)
        refine xi_iaload (pc' := 80) (v := v353) kc_128_79 rfl A303 (by decide) rfl (xi_in (by decide) (by rw [hy303]; decide)) ev353 ?_
        have hlv353 : v353.toInt = (st 1) 1 := xrp_ldc R304 (k := 1) (by decide) (by decide) ev353
        have brv353 : 0 ≤ v353.toInt ∧ v353.toInt ≤ 99 := by have := hq 1 (by omega); omega
        refine xi_istore (pc' := 82) (lv' := [(9, .int v353), (6, .int v352), (8, .int v308), (7, .int v305), (5, .ref 14), (0, .ref 1), (1, .ref 63), (2, .int 1), (3, .int x3), (4, .int x4)]) kc_128_80 rfl rfl (xm_lt ml_128 rfl) ?_
        refine xi_iload (pc' := 84) (x := v305) kc_128_82 rfl rfl ?_
        refine xi_iload (pc' := 86) (x := v353) kc_128_84 rfl rfl ?_
        refine xi_static (mj := 102) (as := [.int v353]) (st1 := [.int v305]) (lv0 := [(0, .int v353)]) kc_128_86 rfl rfl (Nat.le_of_ble_eq_true rfl) rfl rfl (Nat.le_of_ble_eq_true rfl) (hJ _ _ _ _ (by decide)) (xm_le ml_102 rfl) rfl ?_
        refine xw_gx hJ hov1 hov2 (d := d + 1) (x0 := v353) (by omega) (fun r354 hr354 br354 => ?_)
        show xw J ov (d + 4) 128 (89, [(9, .int v353), (6, .int v352), (8, .int v308), (7, .int v305), (5, .ref 14), (0, .ref 1), (1, .ref 63), (2, .int 1), (3, .int x3), (4, .int x4)], [.int r354, .int v305], hh297) _
        obtain ⟨v355, ev355⟩ : ∃ q : Int32, (v305 : Int32) * r354 = q := ⟨_, rfl⟩
        have rv355 := xc_rng v355
        refine xi_imul (pc' := 90) (v := v355) kc_128_89 rfl ev355 ?_
        refine xi_istore (pc' := 92) (lv' := [(10, .int v355), (9, .int v353), (6, .int v352), (8, .int v308), (7, .int v305), (5, .ref 14), (0, .ref 1), (1, .ref 63), (2, .int 1), (3, .int x3), (4, .int x4)]) kc_128_90 rfl rfl (xm_lt ml_128 rfl) ?_
        refine xi_iload (pc' := 94) (x := v352) kc_128_92 rfl rfl ?_
        refine xi_iload (pc' := 96) (x := v355) kc_128_94 rfl rfl ?_
        by_cases c356 : v352.toInt ≤ v355.toInt
        · refine xi_cmt (pc' := 119) kc_128_96 rfl (xc_le_t (X := v352.toInt) (Y := v355.toInt) rfl rfl (by omega)) ?_
          refine xi_aload_n (pc' := 120) (x := 63) kc_128_119 rfl rfl ?_
          refine xi_getfield (pc' := 123) (v := .ref 64) kc_128_120 rfl rfl rfl A300 rfl ?_
          refine xi_iload_n (pc' := 124) (x := 1) kc_128_123 rfl rfl ?_
          refine xi_iload (pc' := 126) (x := v352) kc_128_124 rfl rfl ?_
          obtain ⟨y357, s357, hy357, ry357⟩ := xj_set (v := v352) hy297 ry297 1 (by first | omega | decide) (by first | omega | decide)
          refine xi_iastore (pc' := 127) (x' := y357) kc_128_126 rfl eh297.1 rfl (xi_in (by decide) (by rw [hy297]; decide)) s357 (fun hh357 eh357 => ?_)
          have K358 := xk_pa K298 (xk_wa (by decide +kernel)) xD_64 hy357 ry357 eh357
          have R359 : xrp y357 6 (xup (xup gw 1 (99999 : Int32).toInt) 1 (v352 : Int32).toInt) := xrp_setc R299 s357 (by decide) rfl
          refine xi_return kc_128_127 mr_128 ?_
          have hqr := hq 1 (by omega)
          have hwr := hw 1 (by omega)
          have em : Int32.toNatClampNeg v197 = (hr % 24).toNat := xcl3 (by omega) (by omega)
          have hmr : 0 ≤ C 21 (hr % 24).toNat ∧ C 21 (hr % 24).toNat ≤ 999 := hC.2.2.2.2.2 1 (by omega) (hr % 24).toNat (by omega)
          rw [em] at hlv201
          have n1 : Int32.toNatClampNeg 1 = 1 := by decide
          rw [n1] at kk
          have zc99999 : (99999 : Int32).toInt = 99999 := by decide
          have ew : (v301 : Int32).toInt = xcap (gw 1 + C 21 (hr % 24).toNat) := xcap_is (fun z => by omega) (fun z => by omega)
          have hfan := xc_of_fan hq (show 1 < 6 by omega)
          have ec : (v349 : Int32).toInt = st 1 2 + (if st 1 4 = 1 then st 1 3 else 0) := by rw [if_neg (show ¬ st 1 4 = 1 by omega)]; omega
          have hcb := xho_b b4.1 b4.2
          have eg : (r354 : Int32).toInt = xho (st 1 1) := by rw [hr354, show (v353 : Int32).toInt = st 1 1 by omega]
          obtain ⟨ha1, ha2, ha3, ha4⟩ := xair ew (show (v305 : Int32).toInt = st 1 0 by omega) hr306 ec eg (xcap_b (by omega)) hqr.1 ⟨by omega, by omega⟩ hfan ⟨by omega, by omega⟩ ev307 ev308 ev309 ev350 ev351 ev352 ev355
          have hv := xro_v ha1 ha3
          have hW := xrp_fn R359 (show _ = (xup gw 1 (xro (gw 1) (C 21 (hr % 24).toNat) (st 1 0) (st 1 1) (st 1 2 + (if st 1 4 = 1 then st 1 3 else 0)) (xho x4.toInt))) from (congrArg (xup _ 1) (show (v352 : Int32).toInt = _ from hv.2 (by omega))).trans xup_2)
          exact kk hh357 K358 (xra_mk eh357.1 hW)
        · refine xi_cmf (pc' := 99) kc_128_96 rfl (xc_le_f (X := v352.toInt) (Y := v355.toInt) rfl rfl (by omega)) ?_
          refine xi_aload_n (pc' := 100) (x := 1) kc_128_99 rfl rfl ?_
          refine xi_aload_n (pc' := 101) (x := 63) kc_128_100 rfl rfl ?_
          refine xi_iload_n (pc' := 102) (x := 1) kc_128_101 rfl rfl ?_
          refine xi_iload (pc' := 104) (x := v352) kc_128_102 rfl rfl ?_
          refine xi_iload (pc' := 106) (x := v355) kc_128_104 rfl rfl ?_
          obtain ⟨v360, ev360⟩ : ∃ q : Int32, (v352 : Int32) - v355 = q := ⟨_, rfl⟩
          have rv360 := xc_rng v360
          refine xi_isub (pc' := 107) (v := v360) kc_128_106 rfl ev360 ?_
          refine xi_iload (pc' := 109) (x := v353) kc_128_107 rfl rfl ?_
          refine xi_iload (pc' := 111) (x := x4) kc_128_109 rfl rfl ?_
          obtain ⟨v361, ev361⟩ : ∃ q : Int32, v353 - x4 = q := ⟨_, rfl⟩
          have zv361 : v361.toInt = (v353.toInt + (-1) * x4.toInt) := by rw [← ev361]; exact (xz_sub (X := v353.toInt) (Y := x4.toInt) rfl rfl (by omega) (by omega)).trans (by omega)
          refine xi_isub (pc' := 112) (v := v361) kc_128_111 rfl ev361 ?_
          have A362 := ((eh297.2.1 1 (by decide)).trans A3)
          refine xi_virtual (mj := 130) (as := [.ref 63, .int 1, .int v360, .int v361]) (st1 := []) (lv0 := [(0, .ref 1), (1, .ref 63), (2, .int 1), (3, .int v360), (4, .int v361)]) kc_128_112 rfl rfl rfl rfl rfl A362 (Nat.le_of_ble_eq_true rfl) (hJ _ _ _ _ (by decide)) (xm_le ml_130 rfl) rfl ?_
          have zc1 : (1 : Int32).toInt = 1 := by decide
          refine mt_130_0 hJ hov1 hov2 (d := d + 1) (x2 := 1) (x3 := v360) (x4 := v361) K298.1 (by first | omega | decide) (fun hh364 K365 => ?_)
          have A366 := ((eh297.2.1 16 (by decide)).trans A199)
          have K367 := xk_tr K298 K365 (xsb_ok _ _ (by decide +kernel))
          obtain ⟨u368, u369, bu368, bu369, A370⟩ := xq_1 K367.1
          have C371 : xcX hh364 C := xcX_k C0 K367 (by decide +kernel)
          have hfu368 : u368.toInt = (C 11 0) := xfi_ld C371.1 A370 rfl
          have e372 : u1 = u368 := xk_eqi (q := 5) K365 (by decide +kernel) A362 A370 rfl rfl
          subst e372
          have A373 := xk_eqa (q := 0) K365 (by decide +kernel) A366
          obtain ⟨u374, u375, bu374, bu375, A376⟩ := xq_63 K367.1
          have hfu375 : u375.toInt = 63 := xfi_ld C371.2.2.2.2.2.2.2.2.2.2.2.2.2.2.2.2.2.2.2 A376 rfl
          have e377 : u202 = u374 := xk_eqi (q := 2) K365 (by decide +kernel) A300 A376 rfl rfl
          subst e377
          have e378 : u203 = u375 := xk_eqi (q := 3) K365 (by decide +kernel) A300 A376 rfl rfl
          subst e378
          have A379 := xk_eqa (q := 0) K365 (by decide +kernel) eh297.1
          have A380 := xk_eqa (q := 0) K365 (by decide +kernel) A303
          show xw J ov (d + 4) 128 (115, [(10, .int v355), (9, .int v353), (6, .int v352), (8, .int v308), (7, .int v305), (5, .ref 14), (0, .ref 1), (1, .ref 63), (2, .int 1), (3, .int x3), (4, .int x4)], [], hh364) _
          refine xi_iload (pc' := 117) (x := v355) kc_128_115 rfl rfl ?_
          refine xi_istore (pc' := 119) (lv' := [(6, .int v355), (10, .int v355), (9, .int v353), (8, .int v308), (7, .int v305), (5, .ref 14), (0, .ref 1), (1, .ref 63), (2, .int 1), (3, .int x3), (4, .int x4)]) kc_128_117 rfl rfl (xm_lt ml_128 rfl) ?_
          refine xi_aload_n (pc' := 120) (x := 63) kc_128_119 rfl rfl ?_
          refine xi_getfield (pc' := 123) (v := .ref 64) kc_128_120 rfl rfl rfl A376 rfl ?_
          refine xi_iload_n (pc' := 124) (x := 1) kc_128_123 rfl rfl ?_
          refine xi_iload (pc' := 126) (x := v355) kc_128_124 rfl rfl ?_
          obtain ⟨y381, s381, hy381, ry381⟩ := xj_set (v := v355) hy297 ry297 1 (by first | omega | decide) (by first | omega | decide)
          refine xi_iastore (pc' := 127) (x' := y381) kc_128_126 rfl A379 rfl (xi_in (by decide) (by rw [hy297]; decide)) s381 (fun hh381 eh381 => ?_)
          have K382 := xk_pa K367 (xk_wa (by decide +kernel)) xD_64 hy381 ry381 eh381
          have R383 : xrp y381 6 (xup (xup gw 1 (99999 : Int32).toInt) 1 (v355 : Int32).toInt) := xrp_setc R299 s381 (by decide) rfl
          refine xi_return kc_128_127 mr_128 ?_
          have hqr := hq 1 (by omega)
          have hwr := hw 1 (by omega)
          have em : Int32.toNatClampNeg v197 = (hr % 24).toNat := xcl3 (by omega) (by omega)
          have hmr : 0 ≤ C 21 (hr % 24).toNat ∧ C 21 (hr % 24).toNat ≤ 999 := hC.2.2.2.2.2 1 (by omega) (hr % 24).toNat (by omega)
          rw [em] at hlv201
          have n1 : Int32.toNatClampNeg 1 = 1 := by decide
          rw [n1] at kk
          have zc99999 : (99999 : Int32).toInt = 99999 := by decide
          have ew : (v301 : Int32).toInt = xcap (gw 1 + C 21 (hr % 24).toNat) := xcap_is (fun z => by omega) (fun z => by omega)
          have hfan := xc_of_fan hq (show 1 < 6 by omega)
          have ec : (v349 : Int32).toInt = st 1 2 + (if st 1 4 = 1 then st 1 3 else 0) := by rw [if_neg (show ¬ st 1 4 = 1 by omega)]; omega
          have hcb := xho_b b4.1 b4.2
          have eg : (r354 : Int32).toInt = xho (st 1 1) := by rw [hr354, show (v353 : Int32).toInt = st 1 1 by omega]
          obtain ⟨ha1, ha2, ha3, ha4⟩ := xair ew (show (v305 : Int32).toInt = st 1 0 by omega) hr306 ec eg (xcap_b (by omega)) hqr.1 ⟨by omega, by omega⟩ hfan ⟨by omega, by omega⟩ ev307 ev308 ev309 ev350 ev351 ev352 ev355
          have hv := xro_v ha1 ha3
          have hW := xrp_fn R383 (show _ = (xup gw 1 (xro (gw 1) (C 21 (hr % 24).toNat) (st 1 0) (st 1 1) (st 1 2 + (if st 1 4 = 1 then st 1 3 else 0)) (xho x4.toInt))) from (congrArg (xup _ 1) (show (v355 : Int32).toInt = _ from hv.1 (by omega))).trans xup_2)
          exact kk hh381 K382 (xra_mk eh381.1 hW)
  by_cases c384 : x2.toInt = 2
  · have qx2 : x2 = 2 := xc_of (Eq.trans (by omega) (show (2 : Int) = (2 : Int32).toInt by decide))
    subst qx2
    refine xi_aaload (pc' := 6) (b := 17) kc_128_5 rfl A5 rfl (xi_in (n := 6) (by decide) (by decide)) rfl ?_
    refine xi_astore (pc' := 8) (lv' := [(5, .ref 17), (0, .ref 1), (1, .ref 63), (2, .int 2), (3, .int x3), (4, .int x4)]) kc_128_6 rfl rfl (xm_lt ml_128 rfl) ?_
    refine xi_aload_n (pc' := 9) (x := 63) kc_128_8 rfl rfl ?_
    refine xi_iload_n (pc' := 10) (x := 2) kc_128_9 rfl rfl ?_
    refine xi_aload (pc' := 12) (x := 17) kc_128_10 rfl rfl ?_
    have A385 := xq_17 K.1
    refine xi_getfield (pc' := 15) (v := .ref 19) kc_128_12 rfl rfl rfl A385 rfl ?_
    refine xi_iload_n (pc' := 16) (x := x3) kc_128_15 rfl rfl ?_
    refine xi_bipush (pc' := 18) (v := 24) kc_128_16 rfl rfl ?_
    refine xi_static (mj := 3) (as := [.int x3, .int 24]) (st1 := [.ref 19, .int 2, .ref 63]) (lv0 := [(0, .int x3), (1, .int 24)]) kc_128_18 rfl rfl (Nat.le_of_ble_eq_true rfl) rfl rfl (Nat.le_of_ble_eq_true rfl) (hJ _ _ _ _ (by decide)) (xm_le ml_3 rfl) rfl ?_
    refine xi_iload_n (pc' := 1) (x := x3) kc_3_0 rfl rfl ?_
    refine xi_iload_n (pc' := 2) (x := 24) kc_3_1 rfl rfl ?_
    obtain ⟨v386, ev386⟩ : ∃ q : Int32, x3 - x3 / 24 * 24 = q := ⟨_, rfl⟩
    have dv386 : v386.toInt = x3.toInt % 24 := by rw [← ev386]; exact xz_reme (X := x3.toInt) (Y := 24) rfl (by decide) (by omega) (by decide)
    have bv386 : 0 ≤ v386.toInt ∧ v386.toInt ≤ 23 := by omega
    refine xi_irem (pc' := 3) (v := v386) kc_3_2 rfl ev386 (by decide) ?_
    refine xi_istore_n (pc' := 4) (lv' := [(2, .int v386), (0, .int x3), (1, .int 24)]) kc_3_3 rfl rfl (xm_lt ml_3 rfl) ?_
    refine xi_iload_n (pc' := 5) (x := x3) kc_3_4 rfl rfl ?_
    refine xi_iload_n (pc' := 6) (x := 24) kc_3_5 rfl rfl ?_
    obtain ⟨v387, ev387⟩ : ∃ q : Int32, (x3 : Int32) ^^^ 24 = q := ⟨_, rfl⟩
    have rv387 := xc_rng v387
    have bv387 : 0 ≤ v387.toInt := by rw [← ev387]; exact xz_xor (by first | omega | decide) (by first | omega | decide)
    refine xi_ixor (pc' := 7) (v := v387) kc_3_6 rfl ev387 ?_
    refine xi_ift (pc' := 18) kc_3_7 rfl (xc_ge_t (X := v387.toInt) (Y := 0) rfl (by decide) (by omega)) ?_
    refine xi_iload_n (pc' := 19) (x := v386) kc_3_18 rfl rfl ?_
    refine xi_ireturn kc_3_19 mr_3 rfl ?_
    show xw J ov (d + 4) 128 (21, [(5, .ref 17), (0, .ref 1), (1, .ref 63), (2, .int 2), (3, .int x3), (4, .int x4)], [.int v386, .ref 19, .int 2, .ref 63], h) _
    obtain ⟨y388, A388, hy388, ry388⟩ := xk_arr K.1 xD_19
    have R389 : xrp y388 24 (C 22) := xra_ld C4.2.2.2.2.1 A388
    obtain ⟨v390, ev390, bv390, dv390⟩ := xj_get hy388 ry388 (i := v386) (by omega) (by omega)
    refine xi_iaload (pc' := 22) (v := v390) kc_128_21 rfl A388 (by decide) rfl (xi_in (by omega) (by rw [hy388]; omega)) ev390 ?_
    have hlv390 : v390.toInt = (C 22) (Int32.toNatClampNeg v386) := xrp_ld R389 (by omega) (by omega) ev390
    have brv390 : 0 ≤ v390.toInt ∧ v390.toInt ≤ 999 := by have hz : 0 ≤ C 22 (Int32.toNatClampNeg v386) ∧ C 22 (Int32.toNatClampNeg v386) ≤ 999 := hC.2.2.2.2.2 2 (by omega) (Int32.toNatClampNeg v386) (by have := xj_tn (i := v386) (by omega); omega); omega
    obtain ⟨u391, u392, bu391, bu392, A393⟩ := xq_63 K.1
    have hfu392 : u392.toInt = 63 := xfi_ld C4.2.2.2.2.2.2.2.2.2.2.2.2.2.2.2.2.2.2.2 A393 rfl
    refine xi_virtual (mj := 127) (as := [.int 2, .int v390]) (st1 := []) (lv0 := [(0, .ref 63), (1, .int 2), (2, .int v390)]) kc_128_22 rfl rfl rfl rfl rfl A393 (Nat.le_of_ble_eq_true rfl) (hJ _ _ _ _ (by decide)) (xm_le ml_127 rfl) rfl ?_
    refine xi_iload_n (pc' := 1) (x := 2) kc_127_0 rfl rfl ?_
    refine xi_iff (pc' := 4) kc_127_1 rfl rfl ?_
    refine xi_iload_n (pc' := 5) (x := 2) kc_127_4 rfl rfl ?_
    refine xi_aload_n (pc' := 6) (x := 63) kc_127_5 rfl rfl ?_
    refine xi_getfield (pc' := 9) (v := .ref 64) kc_127_6 rfl rfl rfl A393 rfl ?_
    obtain ⟨y394, A394, hy394, ry394⟩ := xk_arr K.1 xD_64
    have R395 : xrp y394 6 gw := xra_ld IW A394
    refine xi_arraylength (pc' := 10) (n := 6) (v := 6) kc_127_9 rfl (xl_lenI (by decide) (by decide) A394 hy394) rfl ?_
    refine xi_cmf (pc' := 13) kc_127_10 rfl rfl ?_
    refine xi_aload_n (pc' := 14) (x := 63) kc_127_13 rfl rfl ?_
    refine xi_getfield (pc' := 17) (v := .ref 64) kc_127_14 rfl rfl rfl A393 rfl ?_
    refine xi_iload_n (pc' := 18) (x := 2) kc_127_17 rfl rfl ?_
    obtain ⟨v396, ev396, bv396, dv396⟩ := xj_get hy394 ry394 (i := 2) (by decide) (by decide)
    refine xi_iaload (pc' := 19) (v := v396) kc_127_18 rfl A394 (by decide) rfl (xi_in (by decide) (by rw [hy394]; decide)) ev396 ?_
    have hlv396 : v396.toInt = gw 2 := xrp_ldc R395 (k := 2) (by decide) (by decide) ev396
    have brv396 : 0 ≤ v396.toInt ∧ v396.toInt ≤ 99999 := by have := hw 2 (by omega); omega
    refine xi_iload_n (pc' := 20) (x := v390) kc_127_19 rfl rfl ?_
    obtain ⟨v397, ev397⟩ : ∃ q : Int32, v396 + v390 = q := ⟨_, rfl⟩
    have zv397 : v397.toInt = (v396.toInt + v390.toInt) := by rw [← ev397]; exact (xz_add (X := v396.toInt) (Y := v390.toInt) rfl rfl (by omega) (by omega)).trans (by omega)
    refine xi_iadd (pc' := 21) (v := v397) kc_127_20 rfl ev397 ?_
    refine xi_istore_n (pc' := 22) (lv' := [(3, .int v397), (0, .ref 63), (1, .int 2), (2, .int v390)]) kc_127_21 rfl rfl (xm_lt ml_127 rfl) ?_
    refine xi_aload_n (pc' := 23) (x := 63) kc_127_22 rfl rfl ?_
    refine xi_getfield (pc' := 26) (v := .ref 64) kc_127_23 rfl rfl rfl A393 rfl ?_
    refine xi_iload_n (pc' := 27) (x := 2) kc_127_26 rfl rfl ?_
    refine xi_iload_n (pc' := 28) (x := v397) kc_127_27 rfl rfl ?_
    refine xi_ldc (pc' := 30) (v := 99999) kc_127_28 rfl rfl ?_
    by_cases c398 : (v396.toInt + v390.toInt) ≤ 99999
    · refine xi_cmt (pc' := 38) kc_127_30 rfl (xc_le_t (X := (v396.toInt + v390.toInt)) (Y := 99999) zv397 (by decide) (by omega)) ?_
      refine xi_iload_n (pc' := 39) (x := v397) kc_127_38 rfl rfl ?_
      obtain ⟨y399, s399, hy399, ry399⟩ := xj_set (v := v397) hy394 ry394 2 (by first | omega | decide) (by first | omega | decide)
      refine xi_iastore (pc' := 40) (x' := y399) kc_127_39 rfl A394 rfl (xi_in (by decide) (by rw [hy394]; decide)) s399 (fun hh399 eh399 => ?_)
      have K400 := xk_pa K (xk_wa (by decide +kernel)) xD_64 hy399 ry399 eh399
      have R401 : xrp y399 6 (xup gw 2 (v397 : Int32).toInt) := xrp_setc R395 s399 (by decide) rfl
      refine xi_return kc_127_40 mr_127 ?_
      show xw J ov (d + 4) 128 (25, [(5, .ref 17), (0, .ref 1), (1, .ref 63), (2, .int 2), (3, .int x3), (4, .int x4)], [], hh399) _
      refine xi_aload_n (pc' := 26) (x := 63) kc_128_25 rfl rfl ?_
      have A402 := ((eh399.2.1 63 (by decide)).trans A393)
      refine xi_getfield (pc' := 29) (v := .ref 64) kc_128_26 rfl rfl rfl A402 rfl ?_
      refine xi_iload_n (pc' := 30) (x := 2) kc_128_29 rfl rfl ?_
      obtain ⟨v403, ev403, bv403, dv403⟩ := xj_get hy399 ry399 (i := 2) (by decide) (by decide)
      refine xi_iaload (pc' := 31) (v := v403) kc_128_30 rfl eh399.1 (by decide) rfl (xi_in (by decide) (by rw [hy399]; decide)) ev403 ?_
      have hlv403 : v403.toInt = (v397 : Int32).toInt := (xrp_ldc R401 (k := 2) (by decide) (by decide) ev403).trans xup_s
      refine xi_istore (pc' := 33) (lv' := [(6, .int v403), (5, .ref 17), (0, .ref 1), (1, .ref 63), (2, .int 2), (3, .int x3), (4, .int x4)]) kc_128_31 rfl rfl (xm_lt ml_128 rfl) ?_
      refine xi_aload (pc' := 35) (x := 17) kc_128_33 rfl rfl ?_
      have A404 := ((eh399.2.1 17 (by decide)).trans A385)
      refine xi_getfield (pc' := 38) (v := .ref 18) kc_128_35 rfl rfl rfl A404 rfl ?_
      refine xi_iconst (pc' := 39) (v := 0) kc_128_38 rfl rfl ?_
      obtain ⟨y405, A405, hy405, ry405⟩ := xk_arr K400.1 xD_18
      have R406 : xrp y405 5 (st 2) := xra_ld (xg6_k I6 K400 (by decide +kernel)).2.2.1 A405
      obtain ⟨v407, ev407, bv407, dv407⟩ := xj_get hy405 ry405 (i := 0) (by decide) (by decide)
      refine xi_iaload (pc' := 40) (v := v407) kc_128_39 rfl A405 (by decide) rfl (xi_in (by decide) (by rw [hy405]; decide)) ev407 ?_
      have hlv407 : v407.toInt = (st 2) 0 := xrp_ldc R406 (k := 0) (by decide) (by decide) ev407
      have brv407 : 0 ≤ v407.toInt ∧ v407.toInt ≤ 99 := by have := hq 2 (by omega); omega
      refine xi_istore (pc' := 42) (lv' := [(7, .int v407), (6, .int v403), (5, .ref 17), (0, .ref 1), (1, .ref 63), (2, .int 2), (3, .int x3), (4, .int x4)]) kc_128_40 rfl rfl (xm_lt ml_128 rfl) ?_
      refine xi_iload (pc' := 44) (x := v407) kc_128_42 rfl rfl ?_
      refine xi_iload (pc' := 46) (x := x4) kc_128_44 rfl rfl ?_
      refine xi_static (mj := 102) (as := [.int x4]) (st1 := [.int v407]) (lv0 := [(0, .int x4)]) kc_128_46 rfl rfl (Nat.le_of_ble_eq_true rfl) rfl rfl (Nat.le_of_ble_eq_true rfl) (hJ _ _ _ _ (by decide)) (xm_le ml_102 rfl) rfl ?_
      refine xw_gx hJ hov1 hov2 (d := d + 1) (x0 := x4) (by omega) (fun r408 hr408 br408 => ?_)
      show xw J ov (d + 4) 128 (49, [(7, .int v407), (6, .int v403), (5, .ref 17), (0, .ref 1), (1, .ref 63), (2, .int 2), (3, .int x3), (4, .int x4)], [.int r408, .int v407], hh399) _
      obtain ⟨v409, ev409⟩ : ∃ q : Int32, (v407 : Int32) * r408 = q := ⟨_, rfl⟩
      have rv409 := xc_rng v409
      refine xi_imul (pc' := 50) (v := v409) kc_128_49 rfl ev409 ?_
      refine xi_iconst (pc' := 51) (v := 2) kc_128_50 rfl rfl ?_
      obtain ⟨v410, ev410⟩ : ∃ q : Int32, v409 / 2 = q := ⟨_, rfl⟩
      have dv410 : 2 * v410.toInt ≤ v409.toInt + 1 ∧ v409.toInt ≤ 2 * v410.toInt + 1 := by rw [← ev410]; exact xz_div (X := v409.toInt) (Y := 2) rfl (by decide) (by decide)
      have bv410 : -1073741825 ≤ v410.toInt ∧ v410.toInt ≤ 1073741824 := by omega
      refine xi_idiv (pc' := 52) (v := v410) kc_128_51 rfl ev410 (by decide) ?_
      refine xi_istore (pc' := 54) (lv' := [(8, .int v410), (7, .int v407), (6, .int v403), (5, .ref 17), (0, .ref 1), (1, .ref 63), (2, .int 2), (3, .int x3), (4, .int x4)]) kc_128_52 rfl rfl (xm_lt ml_128 rfl) ?_
      refine xi_iload (pc' := 56) (x := v403) kc_128_54 rfl rfl ?_
      refine xi_iload (pc' := 58) (x := v403) kc_128_56 rfl rfl ?_
      refine xi_iload (pc' := 60) (x := v410) kc_128_58 rfl rfl ?_
      obtain ⟨v411, ev411⟩ : ∃ q : Int32, (v403 : Int32) - v410 = q := ⟨_, rfl⟩
      have rv411 := xc_rng v411
      refine xi_isub (pc' := 61) (v := v411) kc_128_60 rfl ev411 ?_
      refine xi_aload (pc' := 63) (x := 17) kc_128_61 rfl rfl ?_
      refine xi_virtual (mj := 129) (as := []) (st1 := [.int v411, .int v403]) (lv0 := [(0, .ref 17)]) kc_128_63 rfl rfl rfl rfl rfl A404 (Nat.le_of_ble_eq_true rfl) (hJ _ _ _ _ (by decide)) (xm_le ml_129 rfl) rfl ?_
      refine xi_aload_n (pc' := 1) (x := 17) kc_129_0 rfl rfl ?_
      refine xi_getfield (pc' := 4) (v := .ref 18) kc_129_1 rfl rfl rfl A404 rfl ?_
      refine xi_iconst (pc' := 5) (v := 2) kc_129_4 rfl rfl ?_
      obtain ⟨v412, ev412, bv412, dv412⟩ := xj_get hy405 ry405 (i := 2) (by decide) (by decide)
      refine xi_iaload (pc' := 6) (v := v412) kc_129_5 rfl A405 (by decide) rfl (xi_in (by decide) (by rw [hy405]; decide)) ev412 ?_
      have hlv412 : v412.toInt = (st 2) 2 := xrp_ldc R406 (k := 2) (by decide) (by decide) ev412
      have brv412 : 0 ≤ v412.toInt ∧ v412.toInt ≤ 99 := by have := hq 2 (by omega); omega
      refine xi_aload_n (pc' := 7) (x := 17) kc_129_6 rfl rfl ?_
      refine xi_getfield (pc' := 10) (v := .ref 18) kc_129_7 rfl rfl rfl A404 rfl ?_
      refine xi_iconst (pc' := 11) (v := 4) kc_129_10 rfl rfl ?_
      obtain ⟨v413, ev413, bv413, dv413⟩ := xj_get hy405 ry405 (i := 4) (by decide) (by decide)
      refine xi_iaload (pc' := 12) (v := v413) kc_129_11 rfl A405 (by decide) rfl (xi_in (by decide) (by rw [hy405]; decide)) ev413 ?_
      have hlv413 : v413.toInt = (st 2) 4 := xrp_ldc R406 (k := 4) (by decide) (by decide) ev413
      have brv413 : 0 ≤ v413.toInt ∧ v413.toInt ≤ 99 := by have := hq 2 (by omega); omega
      refine xi_iconst (pc' := 13) (v := 1) kc_129_12 rfl rfl ?_
      by_cases c414 : v413.toInt = 1
      · refine xi_cmf (pc' := 16) kc_129_13 rfl (xc_ne_f (X := v413.toInt) (Y := 1) rfl (by decide) (by omega)) ?_
        refine xi_aload_n (pc' := 17) (x := 17) kc_129_16 rfl rfl ?_
        refine xi_getfield (pc' := 20) (v := .ref 18) kc_129_17 rfl rfl rfl A404 rfl ?_
        refine xi_iconst (pc' := 21) (v := 3) kc_129_20 rfl rfl ?_
        obtain ⟨v415, ev415, bv415, dv415⟩ := xj_get hy405 ry405 (i := 3) (by decide) (by decide)
        refine xi_iaload (pc' := 22) (v := v415) kc_129_21 rfl A405 (by decide) rfl (xi_in (by decide) (by rw [hy405]; decide)) ev415 ?_
        have hlv415 : v415.toInt = (st 2) 3 := xrp_ldc R406 (k := 3) (by decide) (by decide) ev415
        have brv415 : 0 ≤ v415.toInt ∧ v415.toInt ≤ 99 := by have := hq 2 (by omega); omega
        refine xi_goto (pc' := 26) kc_129_22 rfl ?_
        obtain ⟨v416, ev416⟩ : ∃ q : Int32, v412 + v415 = q := ⟨_, rfl⟩
        have zv416 : v416.toInt = (v412.toInt + v415.toInt) := by rw [← ev416]; exact (xz_add (X := v412.toInt) (Y := v415.toInt) rfl rfl (by omega) (by omega)).trans (by omega)
        refine xi_iadd (pc' := 27) (v := v416) kc_129_26 rfl ev416 ?_
        refine xi_ireturn kc_129_27 mr_129 rfl ?_
        show xw J ov (d + 4) 128 (66, [(8, .int v410), (7, .int v407), (6, .int v403), (5, .ref 17), (0, .ref 1), (1, .ref 63), (2, .int 2), (3, .int x3), (4, .int x4)], [.int v416, .int v411, .int v403], hh399) _
        obtain ⟨v417, ev417⟩ : ∃ q : Int32, (v411 : Int32) * v416 = q := ⟨_, rfl⟩
        have rv417 := xc_rng v417
        refine xi_imul (pc' := 67) (v := v417) kc_128_66 rfl ev417 ?_
        refine xi_bipush (pc' := 69) (v := 100) kc_128_67 rfl rfl ?_
        obtain ⟨v418, ev418⟩ : ∃ q : Int32, v417 / 100 = q := ⟨_, rfl⟩
        have dv418 : 100 * v418.toInt ≤ v417.toInt + 99 ∧ v417.toInt ≤ 100 * v418.toInt + 99 := by rw [← ev418]; exact xz_div (X := v417.toInt) (Y := 100) rfl (by decide) (by decide)
        have bv418 : -21474837 ≤ v418.toInt ∧ v418.toInt ≤ 21474837 := by omega
        refine xi_idiv (pc' := 70) (v := v418) kc_128_69 rfl ev418 (by decide) ?_
        obtain ⟨v419, ev419⟩ : ∃ q : Int32, (v403 : Int32) - v418 = q := ⟨_, rfl⟩
        have rv419 := xc_rng v419
        refine xi_isub (pc' := 71) (v := v419) kc_128_70 rfl ev419 ?_
        refine xi_istore (pc' := 73) (lv' := [(6, .int v419), (8, .int v410), (7, .int v407), (5, .ref 17), (0, .ref 1), (1, .ref 63), (2, .int 2), (3, .int x3), (4, .int x4)]) kc_128_71 rfl rfl (xm_lt ml_128 rfl) ?_
        refine xi_aload (pc' := 75) (x := 17) kc_128_73 rfl rfl ?_
        refine xi_getfield (pc' := 78) (v := .ref 18) kc_128_75 rfl rfl rfl A404 rfl ?_
        refine xi_iconst (pc' := 79) (v := 1) kc_128_78 rfl rfl ?_
        obtain ⟨v420, ev420, bv420, dv420⟩ := xj_get hy405 ry405 (i := 1) (by decide) (by decide)
        refine xi_iaload (pc' := 80) (v := v420) kc_128_79 rfl A405 (by decide) rfl (xi_in (by decide) (by rw [hy405]; decide)) ev420 ?_
        have hlv420 : v420.toInt = (st 2) 1 := xrp_ldc R406 (k := 1) (by decide) (by decide) ev420
        have brv420 : 0 ≤ v420.toInt ∧ v420.toInt ≤ 99 := by have := hq 2 (by omega); omega
        refine xi_istore (pc' := 82) (lv' := [(9, .int v420), (6, .int v419), (8, .int v410), (7, .int v407), (5, .ref 17), (0, .ref 1), (1, .ref 63), (2, .int 2), (3, .int x3), (4, .int x4)]) kc_128_80 rfl rfl (xm_lt ml_128 rfl) ?_
        refine xi_iload (pc' := 84) (x := v407) kc_128_82 rfl rfl ?_
        refine xi_iload (pc' := 86) (x := v420) kc_128_84 rfl rfl ?_
        refine xi_static (mj := 102) (as := [.int v420]) (st1 := [.int v407]) (lv0 := [(0, .int v420)]) kc_128_86 rfl rfl (Nat.le_of_ble_eq_true rfl) rfl rfl (Nat.le_of_ble_eq_true rfl) (hJ _ _ _ _ (by decide)) (xm_le ml_102 rfl) rfl ?_
        refine xw_gx hJ hov1 hov2 (d := d + 1) (x0 := v420) (by omega) (fun r421 hr421 br421 => ?_)
        show xw J ov (d + 4) 128 (89, [(9, .int v420), (6, .int v419), (8, .int v410), (7, .int v407), (5, .ref 17), (0, .ref 1), (1, .ref 63), (2, .int 2), (3, .int x3), (4, .int x4)], [.int r421, .int v407], hh399) _
        obtain ⟨v422, ev422⟩ : ∃ q : Int32, (v407 : Int32) * r421 = q := ⟨_, rfl⟩
        have rv422 := xc_rng v422
        refine xi_imul (pc' := 90) (v := v422) kc_128_89 rfl ev422 ?_
        refine xi_istore (pc' := 92) (lv' := [(10, .int v422), (9, .int v420), (6, .int v419), (8, .int v410), (7, .int v407), (5, .ref 17), (0, .ref 1), (1, .ref 63), (2, .int 2), (3, .int x3), (4, .int x4)]) kc_128_90 rfl rfl (xm_lt ml_128 rfl) ?_
        refine xi_iload (pc' := 94) (x := v419) kc_128_92 rfl rfl ?_
        refine xi_iload (pc' := 96) (x := v422) kc_128_94 rfl rfl ?_
        by_cases c423 : v419.toInt ≤ v422.toInt
        · refine xi_cmt (pc' := 119) kc_128_96 rfl (xc_le_t (X := v419.toInt) (Y := v422.toInt) rfl rfl (by omega)) ?_
          refine xi_aload_n (pc' := 120) (x := 63) kc_128_119 rfl rfl ?_
          refine xi_getfield (pc' := 123) (v := .ref 64) kc_128_120 rfl rfl rfl A402 rfl ?_
          refine xi_iload_n (pc' := 124) (x := 2) kc_128_123 rfl rfl ?_
          refine xi_iload (pc' := 126) (x := v419) kc_128_124 rfl rfl ?_
          obtain ⟨y424, s424, hy424, ry424⟩ := xj_set (v := v419) hy399 ry399 2 (by first | omega | decide) (by first | omega | decide)
          refine xi_iastore (pc' := 127) (x' := y424) kc_128_126 rfl eh399.1 rfl (xi_in (by decide) (by rw [hy399]; decide)) s424 (fun hh424 eh424 => ?_)
          have K425 := xk_pa K400 (xk_wa (by decide +kernel)) xD_64 hy424 ry424 eh424
          have R426 : xrp y424 6 (xup (xup gw 2 (v397 : Int32).toInt) 2 (v419 : Int32).toInt) := xrp_setc R401 s424 (by decide) rfl
          refine xi_return kc_128_127 mr_128 ?_
          have hqr := hq 2 (by omega)
          have hwr := hw 2 (by omega)
          have em : Int32.toNatClampNeg v386 = (hr % 24).toNat := xcl3 (by omega) (by omega)
          have hmr : 0 ≤ C 22 (hr % 24).toNat ∧ C 22 (hr % 24).toNat ≤ 999 := hC.2.2.2.2.2 2 (by omega) (hr % 24).toNat (by omega)
          rw [em] at hlv390
          have n1 : Int32.toNatClampNeg 2 = 2 := by decide
          rw [n1] at kk
          have zc99999 : (99999 : Int32).toInt = 99999 := by decide
          have ew : (v403 : Int32).toInt = xcap (gw 2 + C 22 (hr % 24).toNat) := xcap_is (fun z => by omega) (fun z => by omega)
          have hfan := xc_of_fan hq (show 2 < 6 by omega)
          have ec : (v416 : Int32).toInt = st 2 2 + (if st 2 4 = 1 then st 2 3 else 0) := by rw [if_pos (show st 2 4 = 1 by omega)]; omega
          have hcb := xho_b b4.1 b4.2
          have eg : (r421 : Int32).toInt = xho (st 2 1) := by rw [hr421, show (v420 : Int32).toInt = st 2 1 by omega]
          obtain ⟨ha1, ha2, ha3, ha4⟩ := xair ew (show (v407 : Int32).toInt = st 2 0 by omega) hr408 ec eg (xcap_b (by omega)) hqr.1 ⟨by omega, by omega⟩ hfan ⟨by omega, by omega⟩ ev409 ev410 ev411 ev417 ev418 ev419 ev422
          have hv := xro_v ha1 ha3
          have hW := xrp_fn R426 (show _ = (xup gw 2 (xro (gw 2) (C 22 (hr % 24).toNat) (st 2 0) (st 2 1) (st 2 2 + (if st 2 4 = 1 then st 2 3 else 0)) (xho x4.toInt))) from (congrArg (xup _ 2) (show (v419 : Int32).toInt = _ from hv.2 (by omega))).trans xup_2)
          exact kk hh424 K425 (xra_mk eh424.1 hW)
        · refine xi_cmf (pc' := 99) kc_128_96 rfl (xc_le_f (X := v419.toInt) (Y := v422.toInt) rfl rfl (by omega)) ?_
          refine xi_aload_n (pc' := 100) (x := 1) kc_128_99 rfl rfl ?_
          refine xi_aload_n (pc' := 101) (x := 63) kc_128_100 rfl rfl ?_
          refine xi_iload_n (pc' := 102) (x := 2) kc_128_101 rfl rfl ?_
          refine xi_iload (pc' := 104) (x := v419) kc_128_102 rfl rfl ?_
          refine xi_iload (pc' := 106) (x := v422) kc_128_104 rfl rfl ?_
          obtain ⟨v427, ev427⟩ : ∃ q : Int32, (v419 : Int32) - v422 = q := ⟨_, rfl⟩
          have rv427 := xc_rng v427
          refine xi_isub (pc' := 107) (v := v427) kc_128_106 rfl ev427 ?_
          refine xi_iload (pc' := 109) (x := v420) kc_128_107 rfl rfl ?_
          refine xi_iload (pc' := 111) (x := x4) kc_128_109 rfl rfl ?_
          obtain ⟨v428, ev428⟩ : ∃ q : Int32, v420 - x4 = q := ⟨_, rfl⟩
          have zv428 : v428.toInt = (v420.toInt + (-1) * x4.toInt) := by rw [← ev428]; exact (xz_sub (X := v420.toInt) (Y := x4.toInt) rfl rfl (by omega) (by omega)).trans (by omega)
          refine xi_isub (pc' := 112) (v := v428) kc_128_111 rfl ev428 ?_
          have A429 := ((eh399.2.1 1 (by decide)).trans A3)
          refine xi_virtual (mj := 130) (as := [.ref 63, .int 2, .int v427, .int v428]) (st1 := []) (lv0 := [(0, .ref 1), (1, .ref 63), (2, .int 2), (3, .int v427), (4, .int v428)]) kc_128_112 rfl rfl rfl rfl rfl A429 (Nat.le_of_ble_eq_true rfl) (hJ _ _ _ _ (by decide)) (xm_le ml_130 rfl) rfl ?_
          have zc2 : (2 : Int32).toInt = 2 := by decide
          refine mt_130_0 hJ hov1 hov2 (d := d + 1) (x2 := 2) (x3 := v427) (x4 := v428) K400.1 (by first | omega | decide) (fun hh431 K432 => ?_)
          have A433 := ((eh399.2.1 19 (by decide)).trans A388)
          have K434 := xk_tr K400 K432 (xsb_ok _ _ (by decide +kernel))
          obtain ⟨u435, u436, bu435, bu436, A437⟩ := xq_1 K434.1
          have C438 : xcX hh431 C := xcX_k C0 K434 (by decide +kernel)
          have hfu435 : u435.toInt = (C 11 0) := xfi_ld C438.1 A437 rfl
          have e439 : u1 = u435 := xk_eqi (q := 5) K432 (by decide +kernel) A429 A437 rfl rfl
          subst e439
          have A440 := xk_eqa (q := 0) K432 (by decide +kernel) A433
          obtain ⟨u441, u442, bu441, bu442, A443⟩ := xq_63 K434.1
          have hfu442 : u442.toInt = 63 := xfi_ld C438.2.2.2.2.2.2.2.2.2.2.2.2.2.2.2.2.2.2.2 A443 rfl
          have e444 : u391 = u441 := xk_eqi (q := 2) K432 (by decide +kernel) A402 A443 rfl rfl
          subst e444
          have e445 : u392 = u442 := xk_eqi (q := 3) K432 (by decide +kernel) A402 A443 rfl rfl
          subst e445
          have A446 := xk_eqa (q := 0) K432 (by decide +kernel) eh399.1
          have A447 := xk_eqa (q := 0) K432 (by decide +kernel) A405
          show xw J ov (d + 4) 128 (115, [(10, .int v422), (9, .int v420), (6, .int v419), (8, .int v410), (7, .int v407), (5, .ref 17), (0, .ref 1), (1, .ref 63), (2, .int 2), (3, .int x3), (4, .int x4)], [], hh431) _
          refine xi_iload (pc' := 117) (x := v422) kc_128_115 rfl rfl ?_
          refine xi_istore (pc' := 119) (lv' := [(6, .int v422), (10, .int v422), (9, .int v420), (8, .int v410), (7, .int v407), (5, .ref 17), (0, .ref 1), (1, .ref 63), (2, .int 2), (3, .int x3), (4, .int x4)]) kc_128_117 rfl rfl (xm_lt ml_128 rfl) ?_
          refine xi_aload_n (pc' := 120) (x := 63) kc_128_119 rfl rfl ?_
          refine xi_getfield (pc' := 123) (v := .ref 64) kc_128_120 rfl rfl rfl A443 rfl ?_
          refine xi_iload_n (pc' := 124) (x := 2) kc_128_123 rfl rfl ?_
          refine xi_iload (pc' := 126) (x := v422) kc_128_124 rfl rfl ?_
          obtain ⟨y448, s448, hy448, ry448⟩ := xj_set (v := v422) hy399 ry399 2 (by first | omega | decide) (by first | omega | decide)
          refine xi_iastore (pc' := 127) (x' := y448) kc_128_126 rfl A446 rfl (xi_in (by decide) (by rw [hy399]; decide)) s448 (fun hh448 eh448 => ?_)
          have K449 := xk_pa K434 (xk_wa (by decide +kernel)) xD_64 hy448 ry448 eh448
          have R450 : xrp y448 6 (xup (xup gw 2 (v397 : Int32).toInt) 2 (v422 : Int32).toInt) := xrp_setc R401 s448 (by decide) rfl
          refine xi_return kc_128_127 mr_128 ?_
          have hqr := hq 2 (by omega)
          have hwr := hw 2 (by omega)
          have em : Int32.toNatClampNeg v386 = (hr % 24).toNat := xcl3 (by omega) (by omega)
          have hmr : 0 ≤ C 22 (hr % 24).toNat ∧ C 22 (hr % 24).toNat ≤ 999 := hC.2.2.2.2.2 2 (by omega) (hr % 24).toNat (by omega)
          rw [em] at hlv390
          have n1 : Int32.toNatClampNeg 2 = 2 := by decide
          rw [n1] at kk
          have zc99999 : (99999 : Int32).toInt = 99999 := by decide
          have ew : (v403 : Int32).toInt = xcap (gw 2 + C 22 (hr % 24).toNat) := xcap_is (fun z => by omega) (fun z => by omega)
          have hfan := xc_of_fan hq (show 2 < 6 by omega)
          have ec : (v416 : Int32).toInt = st 2 2 + (if st 2 4 = 1 then st 2 3 else 0) := by rw [if_pos (show st 2 4 = 1 by omega)]; omega
          have hcb := xho_b b4.1 b4.2
          have eg : (r421 : Int32).toInt = xho (st 2 1) := by rw [hr421, show (v420 : Int32).toInt = st 2 1 by omega]
          obtain ⟨ha1, ha2, ha3, ha4⟩ := xair ew (show (v407 : Int32).toInt = st 2 0 by omega) hr408 ec eg (xcap_b (by omega)) hqr.1 ⟨by omega, by omega⟩ hfan ⟨by omega, by omega⟩ ev409 ev410 ev411 ev417 ev418 ev419 ev422
          have hv := xro_v ha1 ha3
          have hW := xrp_fn R450 (show _ = (xup gw 2 (xro (gw 2) (C 22 (hr % 24).toNat) (st 2 0) (st 2 1) (st 2 2 + (if st 2 4 = 1 then st 2 3 else 0)) (xho x4.toInt))) from (congrArg (xup _ 2) (show (v422 : Int32).toInt = _ from hv.1 (by omega))).trans xup_2)
          exact kk hh448 K449 (xra_mk eh448.1 hW)
      · refine xi_cmt (pc' := 25) kc_129_13 rfl (xc_ne_t (X := v413.toInt) (Y := 1) rfl (by decide) (by omega)) ?_
        refine xi_iconst (pc' := 26) (v := 0) kc_129_25 rfl rfl ?_
        obtain ⟨v451, ev451⟩ : ∃ q : Int32, v412 + 0 = q := ⟨_, rfl⟩
        have zv451 : v451.toInt = v412.toInt := by rw [← ev451]; exact (xz_add (X := v412.toInt) (Y := 0) rfl (by decide) (by omega) (by omega)).trans (by omega)
        refine xi_iadd (pc' := 27) (v := v451) kc_129_26 rfl ev451 ?_
        refine xi_ireturn kc_129_27 mr_129 rfl ?_
        show xw J ov (d + 4) 128 (66, [(8, .int v410), (7, .int v407), (6, .int v403), (5, .ref 17), (0, .ref 1), (1, .ref 63), (2, .int 2), (3, .int x3), (4, .int x4)], [.int v451, .int v411, .int v403], hh399) _
        obtain ⟨v452, ev452⟩ : ∃ q : Int32, (v411 : Int32) * v451 = q := ⟨_, rfl⟩
        have rv452 := xc_rng v452
        refine xi_imul (pc' := 67) (v := v452) kc_128_66 rfl ev452 ?_
        refine xi_bipush (pc' := 69) (v := 100) kc_128_67 rfl rfl ?_
        obtain ⟨v453, ev453⟩ : ∃ q : Int32, v452 / 100 = q := ⟨_, rfl⟩
        have dv453 : 100 * v453.toInt ≤ v452.toInt + 99 ∧ v452.toInt ≤ 100 * v453.toInt + 99 := by rw [← ev453]; exact xz_div (X := v452.toInt) (Y := 100) rfl (by decide) (by decide)
        have bv453 : -21474837 ≤ v453.toInt ∧ v453.toInt ≤ 21474837 := by omega
        refine xi_idiv (pc' := 70) (v := v453) kc_128_69 rfl ev453 (by decide) ?_
        obtain ⟨v454, ev454⟩ : ∃ q : Int32, (v403 : Int32) - v453 = q := ⟨_, rfl⟩
        have rv454 := xc_rng v454
        refine xi_isub (pc' := 71) (v := v454) kc_128_70 rfl ev454 ?_
        refine xi_istore (pc' := 73) (lv' := [(6, .int v454), (8, .int v410), (7, .int v407), (5, .ref 17), (0, .ref 1), (1, .ref 63), (2, .int 2), (3, .int x3), (4, .int x4)]) kc_128_71 rfl rfl (xm_lt ml_128 rfl) ?_
        refine xi_aload (pc' := 75) (x := 17) kc_128_73 rfl rfl ?_
        refine xi_getfield (pc' := 78) (v := .ref 18) kc_128_75 rfl rfl rfl A404 rfl ?_
        refine xi_iconst (pc' := 79) (v := 1) kc_128_78 rfl rfl ?_
        obtain ⟨v455, ev455, bv455, dv455⟩ := xj_get hy405 ry405 (i := 1) (by decide) (by decide)
        refine xi_iaload (pc' := 80) (v := v455) kc_128_79 rfl A405 (by decide) rfl (xi_in (by decide) (by rw [hy405]; decide)) ev455 ?_
        have hlv455 : v455.toInt = (st 2) 1 := xrp_ldc R406 (k := 1) (by decide) (by decide) ev455
        have brv455 : 0 ≤ v455.toInt ∧ v455.toInt ≤ 99 := by have := hq 2 (by omega); omega
        refine xi_istore (pc' := 82) (lv' := [(9, .int v455), (6, .int v454), (8, .int v410), (7, .int v407), (5, .ref 17), (0, .ref 1), (1, .ref 63), (2, .int 2), (3, .int x3), (4, .int x4)]) kc_128_80 rfl rfl (xm_lt ml_128 rfl) ?_
        refine xi_iload (pc' := 84) (x := v407) kc_128_82 rfl rfl ?_
        refine xi_iload (pc' := 86) (x := v455) kc_128_84 rfl rfl ?_
        refine xi_static (mj := 102) (as := [.int v455]) (st1 := [.int v407]) (lv0 := [(0, .int v455)]) kc_128_86 rfl rfl (Nat.le_of_ble_eq_true rfl) rfl rfl (Nat.le_of_ble_eq_true rfl) (hJ _ _ _ _ (by decide)) (xm_le ml_102 rfl) rfl ?_
        refine xw_gx hJ hov1 hov2 (d := d + 1) (x0 := v455) (by omega) (fun r456 hr456 br456 => ?_)
        show xw J ov (d + 4) 128 (89, [(9, .int v455), (6, .int v454), (8, .int v410), (7, .int v407), (5, .ref 17), (0, .ref 1), (1, .ref 63), (2, .int 2), (3, .int x3), (4, .int x4)], [.int r456, .int v407], hh399) _
        obtain ⟨v457, ev457⟩ : ∃ q : Int32, (v407 : Int32) * r456 = q := ⟨_, rfl⟩
        have rv457 := xc_rng v457
        refine xi_imul (pc' := 90) (v := v457) kc_128_89 rfl ev457 ?_
        refine xi_istore (pc' := 92) (lv' := [(10, .int v457), (9, .int v455), (6, .int v454), (8, .int v410), (7, .int v407), (5, .ref 17), (0, .ref 1), (1, .ref 63), (2, .int 2), (3, .int x3), (4, .int x4)]) kc_128_90 rfl rfl (xm_lt ml_128 rfl) ?_
        refine xi_iload (pc' := 94) (x := v454) kc_128_92 rfl rfl ?_
        refine xi_iload (pc' := 96) (x := v457) kc_128_94 rfl rfl ?_
        by_cases c458 : v454.toInt ≤ v457.toInt
        · refine xi_cmt (pc' := 119) kc_128_96 rfl (xc_le_t (X := v454.toInt) (Y := v457.toInt) rfl rfl (by omega)) ?_
          refine xi_aload_n (pc' := 120) (x := 63) kc_128_119 rfl rfl ?_
          refine xi_getfield (pc' := 123) (v := .ref 64) kc_128_120 rfl rfl rfl A402 rfl ?_
          refine xi_iload_n (pc' := 124) (x := 2) kc_128_123 rfl rfl ?_
          refine xi_iload (pc' := 126) (x := v454) kc_128_124 rfl rfl ?_
          obtain ⟨y459, s459, hy459, ry459⟩ := xj_set (v := v454) hy399 ry399 2 (by first | omega | decide) (by first | omega | decide)
          refine xi_iastore (pc' := 127) (x' := y459) kc_128_126 rfl eh399.1 rfl (xi_in (by decide) (by rw [hy399]; decide)) s459 (fun hh459 eh459 => ?_)
          have K460 := xk_pa K400 (xk_wa (by decide +kernel)) xD_64 hy459 ry459 eh459
          have R461 : xrp y459 6 (xup (xup gw 2 (v397 : Int32).toInt) 2 (v454 : Int32).toInt) := xrp_setc R401 s459 (by decide) rfl
          refine xi_return kc_128_127 mr_128 ?_
          have hqr := hq 2 (by omega)
          have hwr := hw 2 (by omega)
          have em : Int32.toNatClampNeg v386 = (hr % 24).toNat := xcl3 (by omega) (by omega)
          have hmr : 0 ≤ C 22 (hr % 24).toNat ∧ C 22 (hr % 24).toNat ≤ 999 := hC.2.2.2.2.2 2 (by omega) (hr % 24).toNat (by omega)
          rw [em] at hlv390
          have n1 : Int32.toNatClampNeg 2 = 2 := by decide
          rw [n1] at kk
          have zc99999 : (99999 : Int32).toInt = 99999 := by decide
          have ew : (v403 : Int32).toInt = xcap (gw 2 + C 22 (hr % 24).toNat) := xcap_is (fun z => by omega) (fun z => by omega)
          have hfan := xc_of_fan hq (show 2 < 6 by omega)
          have ec : (v451 : Int32).toInt = st 2 2 + (if st 2 4 = 1 then st 2 3 else 0) := by rw [if_neg (show ¬ st 2 4 = 1 by omega)]; omega
          have hcb := xho_b b4.1 b4.2
          have eg : (r456 : Int32).toInt = xho (st 2 1) := by rw [hr456, show (v455 : Int32).toInt = st 2 1 by omega]
          obtain ⟨ha1, ha2, ha3, ha4⟩ := xair ew (show (v407 : Int32).toInt = st 2 0 by omega) hr408 ec eg (xcap_b (by omega)) hqr.1 ⟨by omega, by omega⟩ hfan ⟨by omega, by omega⟩ ev409 ev410 ev411 ev452 ev453 ev454 ev457
          have hv := xro_v ha1 ha3
          have hW := xrp_fn R461 (show _ = (xup gw 2 (xro (gw 2) (C 22 (hr % 24).toNat) (st 2 0) (st 2 1) (st 2 2 + (if st 2 4 = 1 then st 2 3 else 0)) (xho x4.toInt))) from (congrArg (xup _ 2) (show (v454 : Int32).toInt = _ from hv.2 (by omega))).trans xup_2)
          exact kk hh459 K460 (xra_mk eh459.1 hW)
        · refine xi_cmf (pc' := 99) kc_128_96 rfl (xc_le_f (X := v454.toInt) (Y := v457.toInt) rfl rfl (by omega)) ?_
          refine xi_aload_n (pc' := 100) (x := 1) kc_128_99 rfl rfl ?_
          refine xi_aload_n (pc' := 101) (x := 63) kc_128_100 rfl rfl ?_
          refine xi_iload_n (pc' := 102) (x := 2) kc_128_101 rfl rfl ?_
          refine xi_iload (pc' := 104) (x := v454) kc_128_102 rfl rfl ?_
          refine xi_iload (pc' := 106) (x := v457) kc_128_104 rfl rfl ?_
          obtain ⟨v462, ev462⟩ : ∃ q : Int32, (v454 : Int32) - v457 = q := ⟨_, rfl⟩
          have rv462 := xc_rng v462
          refine xi_isub (pc' := 107) (v := v462) kc_128_106 rfl ev462 ?_
          refine xi_iload (pc' := 109) (x := v455) kc_128_107 rfl rfl ?_
          refine xi_iload (pc' := 111) (x := x4) kc_128_109 rfl rfl ?_
          obtain ⟨v463, ev463⟩ : ∃ q : Int32, v455 - x4 = q := ⟨_, rfl⟩
          have zv463 : v463.toInt = (v455.toInt + (-1) * x4.toInt) := by rw [← ev463]; exact (xz_sub (X := v455.toInt) (Y := x4.toInt) rfl rfl (by omega) (by omega)).trans (by omega)
          refine xi_isub (pc' := 112) (v := v463) kc_128_111 rfl ev463 ?_
          have A464 := ((eh399.2.1 1 (by decide)).trans A3)
          refine xi_virtual (mj := 130) (as := [.ref 63, .int 2, .int v462, .int v463]) (st1 := []) (lv0 := [(0, .ref 1), (1, .ref 63), (2, .int 2), (3, .int v462), (4, .int v463)]) kc_128_112 rfl rfl rfl rfl rfl A464 (Nat.le_of_ble_eq_true rfl) (hJ _ _ _ _ (by decide)) (xm_le ml_130 rfl) rfl ?_
          have zc2 : (2 : Int32).toInt = 2 := by decide
          refine mt_130_0 hJ hov1 hov2 (d := d + 1) (x2 := 2) (x3 := v462) (x4 := v463) K400.1 (by first | omega | decide) (fun hh466 K467 => ?_)
          have A468 := ((eh399.2.1 19 (by decide)).trans A388)
          have K469 := xk_tr K400 K467 (xsb_ok _ _ (by decide +kernel))
          obtain ⟨u470, u471, bu470, bu471, A472⟩ := xq_1 K469.1
          have C473 : xcX hh466 C := xcX_k C0 K469 (by decide +kernel)
          have hfu470 : u470.toInt = (C 11 0) := xfi_ld C473.1 A472 rfl
          have e474 : u1 = u470 := xk_eqi (q := 5) K467 (by decide +kernel) A464 A472 rfl rfl
          subst e474
          have A475 := xk_eqa (q := 0) K467 (by decide +kernel) A468
          obtain ⟨u476, u477, bu476, bu477, A478⟩ := xq_63 K469.1
          have hfu477 : u477.toInt = 63 := xfi_ld C473.2.2.2.2.2.2.2.2.2.2.2.2.2.2.2.2.2.2.2 A478 rfl
          have e479 : u391 = u476 := xk_eqi (q := 2) K467 (by decide +kernel) A402 A478 rfl rfl
          subst e479
          have e480 : u392 = u477 := xk_eqi (q := 3) K467 (by decide +kernel) A402 A478 rfl rfl
          subst e480
          have A481 := xk_eqa (q := 0) K467 (by decide +kernel) eh399.1
          have A482 := xk_eqa (q := 0) K467 (by decide +kernel) A405
          show xw J ov (d + 4) 128 (115, [(10, .int v457), (9, .int v455), (6, .int v454), (8, .int v410), (7, .int v407), (5, .ref 17), (0, .ref 1), (1, .ref 63), (2, .int 2), (3, .int x3), (4, .int x4)], [], hh466) _
          refine xi_iload (pc' := 117) (x := v457) kc_128_115 rfl rfl ?_
          refine xi_istore (pc' := 119) (lv' := [(6, .int v457), (10, .int v457), (9, .int v455), (8, .int v410), (7, .int v407), (5, .ref 17), (0, .ref 1), (1, .ref 63), (2, .int 2), (3, .int x3), (4, .int x4)]) kc_128_117 rfl rfl (xm_lt ml_128 rfl) ?_
          refine xi_aload_n (pc' := 120) (x := 63) kc_128_119 rfl rfl ?_
          refine xi_getfield (pc' := 123) (v := .ref 64) kc_128_120 rfl rfl rfl A478 rfl ?_
          refine xi_iload_n (pc' := 124) (x := 2) kc_128_123 rfl rfl ?_
          refine xi_iload (pc' := 126) (x := v457) kc_128_124 rfl rfl ?_
          obtain ⟨y483, s483, hy483, ry483⟩ := xj_set (v := v457) hy399 ry399 2 (by first | omega | decide) (by first | omega | decide)
          refine xi_iastore (pc' := 127) (x' := y483) kc_128_126 rfl A481 rfl (xi_in (by decide) (by rw [hy399]; decide)) s483 (fun hh483 eh483 => ?_)
          have K484 := xk_pa K469 (xk_wa (by decide +kernel)) xD_64 hy483 ry483 eh483
          have R485 : xrp y483 6 (xup (xup gw 2 (v397 : Int32).toInt) 2 (v457 : Int32).toInt) := xrp_setc R401 s483 (by decide) rfl
          refine xi_return kc_128_127 mr_128 ?_
          have hqr := hq 2 (by omega)
          have hwr := hw 2 (by omega)
          have em : Int32.toNatClampNeg v386 = (hr % 24).toNat := xcl3 (by omega) (by omega)
          have hmr : 0 ≤ C 22 (hr % 24).toNat ∧ C 22 (hr % 24).toNat ≤ 999 := hC.2.2.2.2.2 2 (by omega) (hr % 24).toNat (by omega)
          rw [em] at hlv390
          have n1 : Int32.toNatClampNeg 2 = 2 := by decide
          rw [n1] at kk
          have zc99999 : (99999 : Int32).toInt = 99999 := by decide
          have ew : (v403 : Int32).toInt = xcap (gw 2 + C 22 (hr % 24).toNat) := xcap_is (fun z => by omega) (fun z => by omega)
          have hfan := xc_of_fan hq (show 2 < 6 by omega)
          have ec : (v451 : Int32).toInt = st 2 2 + (if st 2 4 = 1 then st 2 3 else 0) := by rw [if_neg (show ¬ st 2 4 = 1 by omega)]; omega
          have hcb := xho_b b4.1 b4.2
          have eg : (r456 : Int32).toInt = xho (st 2 1) := by rw [hr456, show (v455 : Int32).toInt = st 2 1 by omega]
          obtain ⟨ha1, ha2, ha3, ha4⟩ := xair ew (show (v407 : Int32).toInt = st 2 0 by omega) hr408 ec eg (xcap_b (by omega)) hqr.1 ⟨by omega, by omega⟩ hfan ⟨by omega, by omega⟩ ev409 ev410 ev411 ev452 ev453 ev454 ev457
          have hv := xro_v ha1 ha3
          have hW := xrp_fn R485 (show _ = (xup gw 2 (xro (gw 2) (C 22 (hr % 24).toNat) (st 2 0) (st 2 1) (st 2 2 + (if st 2 4 = 1 then st 2 3 else 0)) (xho x4.toInt))) from (congrArg (xup _ 2) (show (v457 : Int32).toInt = _ from hv.1 (by omega))).trans xup_2)
          exact kk hh483 K484 (xra_mk eh483.1 hW)
    · refine xi_cmf (pc' := 33) kc_127_30 rfl (xc_le_f (X := (v396.toInt + v390.toInt)) (Y := 99999) zv397 (by decide) (by omega)) ?_
      refine xi_ldc (pc' := 35) (v := 99999) kc_127_33 rfl rfl ?_
      refine xi_goto (pc' := 39) kc_127_35 rfl ?_
      obtain ⟨y486, s486, hy486, ry486⟩ := xj_set (v := 99999) hy394 ry394 2 (by first | omega | decide) (by first | omega | decide)
      refine xi_iastore (pc' := 40) (x' := y486) kc_127_39 rfl A394 rfl (xi_in (by decide) (by rw [hy394]; decide)) s486 (fun hh486 eh486 => ?_)
      have K487 := xk_pa K (xk_wa (by decide +kernel)) xD_64 hy486 ry486 eh486
      have R488 : xrp y486 6 (xup gw 2 (99999 : Int32).toInt) := xrp_setc R395 s486 (by decide) rfl
      refine xi_return kc_127_40 mr_127 ?_
      show xw J ov (d + 4) 128 (25, [(5, .ref 17), (0, .ref 1), (1, .ref 63), (2, .int 2), (3, .int x3), (4, .int x4)], [], hh486) _
      refine xi_aload_n (pc' := 26) (x := 63) kc_128_25 rfl rfl ?_
      have A489 := ((eh486.2.1 63 (by decide)).trans A393)
      refine xi_getfield (pc' := 29) (v := .ref 64) kc_128_26 rfl rfl rfl A489 rfl ?_
      refine xi_iload_n (pc' := 30) (x := 2) kc_128_29 rfl rfl ?_
      obtain ⟨v490, ev490, bv490, dv490⟩ := xj_get hy486 ry486 (i := 2) (by decide) (by decide)
      refine xi_iaload (pc' := 31) (v := v490) kc_128_30 rfl eh486.1 (by decide) rfl (xi_in (by decide) (by rw [hy486]; decide)) ev490 ?_
      have hlv490 : v490.toInt = (99999 : Int32).toInt := (xrp_ldc R488 (k := 2) (by decide) (by decide) ev490).trans xup_s
      refine xi_istore (pc' := 33) (lv' := [(6, .int v490), (5, .ref 17), (0, .ref 1), (1, .ref 63), (2, .int 2), (3, .int x3), (4, .int x4)]) kc_128_31 rfl rfl (xm_lt ml_128 rfl) ?_
      refine xi_aload (pc' := 35) (x := 17) kc_128_33 rfl rfl ?_
      have A491 := ((eh486.2.1 17 (by decide)).trans A385)
      refine xi_getfield (pc' := 38) (v := .ref 18) kc_128_35 rfl rfl rfl A491 rfl ?_
      refine xi_iconst (pc' := 39) (v := 0) kc_128_38 rfl rfl ?_
      obtain ⟨y492, A492, hy492, ry492⟩ := xk_arr K487.1 xD_18
      have R493 : xrp y492 5 (st 2) := xra_ld (xg6_k I6 K487 (by decide +kernel)).2.2.1 A492
      obtain ⟨v494, ev494, bv494, dv494⟩ := xj_get hy492 ry492 (i := 0) (by decide) (by decide)
      refine xi_iaload (pc' := 40) (v := v494) kc_128_39 rfl A492 (by decide) rfl (xi_in (by decide) (by rw [hy492]; decide)) ev494 ?_
      have hlv494 : v494.toInt = (st 2) 0 := xrp_ldc R493 (k := 0) (by decide) (by decide) ev494
      have brv494 : 0 ≤ v494.toInt ∧ v494.toInt ≤ 99 := by have := hq 2 (by omega); omega
      refine xi_istore (pc' := 42) (lv' := [(7, .int v494), (6, .int v490), (5, .ref 17), (0, .ref 1), (1, .ref 63), (2, .int 2), (3, .int x3), (4, .int x4)]) kc_128_40 rfl rfl (xm_lt ml_128 rfl) ?_
      refine xi_iload (pc' := 44) (x := v494) kc_128_42 rfl rfl ?_
      refine xi_iload (pc' := 46) (x := x4) kc_128_44 rfl rfl ?_
      refine xi_static (mj := 102) (as := [.int x4]) (st1 := [.int v494]) (lv0 := [(0, .int x4)]) kc_128_46 rfl rfl (Nat.le_of_ble_eq_true rfl) rfl rfl (Nat.le_of_ble_eq_true rfl) (hJ _ _ _ _ (by decide)) (xm_le ml_102 rfl) rfl ?_
      refine xw_gx hJ hov1 hov2 (d := d + 1) (x0 := x4) (by omega) (fun r495 hr495 br495 => ?_)
      show xw J ov (d + 4) 128 (49, [(7, .int v494), (6, .int v490), (5, .ref 17), (0, .ref 1), (1, .ref 63), (2, .int 2), (3, .int x3), (4, .int x4)], [.int r495, .int v494], hh486) _
      obtain ⟨v496, ev496⟩ : ∃ q : Int32, (v494 : Int32) * r495 = q := ⟨_, rfl⟩
      have rv496 := xc_rng v496
      refine xi_imul (pc' := 50) (v := v496) kc_128_49 rfl ev496 ?_
      refine xi_iconst (pc' := 51) (v := 2) kc_128_50 rfl rfl ?_
      obtain ⟨v497, ev497⟩ : ∃ q : Int32, v496 / 2 = q := ⟨_, rfl⟩
      have dv497 : 2 * v497.toInt ≤ v496.toInt + 1 ∧ v496.toInt ≤ 2 * v497.toInt + 1 := by rw [← ev497]; exact xz_div (X := v496.toInt) (Y := 2) rfl (by decide) (by decide)
      have bv497 : -1073741825 ≤ v497.toInt ∧ v497.toInt ≤ 1073741824 := by omega
      refine xi_idiv (pc' := 52) (v := v497) kc_128_51 rfl ev497 (by decide) ?_
      refine xi_istore (pc' := 54) (lv' := [(8, .int v497), (7, .int v494), (6, .int v490), (5, .ref 17), (0, .ref 1), (1, .ref 63), (2, .int 2), (3, .int x3), (4, .int x4)]) kc_128_52 rfl rfl (xm_lt ml_128 rfl) ?_
      refine xi_iload (pc' := 56) (x := v490) kc_128_54 rfl rfl ?_
      refine xi_iload (pc' := 58) (x := v490) kc_128_56 rfl rfl ?_
      refine xi_iload (pc' := 60) (x := v497) kc_128_58 rfl rfl ?_
      obtain ⟨v498, ev498⟩ : ∃ q : Int32, (v490 : Int32) - v497 = q := ⟨_, rfl⟩
      have rv498 := xc_rng v498
      refine xi_isub (pc' := 61) (v := v498) kc_128_60 rfl ev498 ?_
      refine xi_aload (pc' := 63) (x := 17) kc_128_61 rfl rfl ?_
      refine xi_virtual (mj := 129) (as := []) (st1 := [.int v498, .int v490]) (lv0 := [(0, .ref 17)]) kc_128_63 rfl rfl rfl rfl rfl A491 (Nat.le_of_ble_eq_true rfl) (hJ _ _ _ _ (by decide)) (xm_le ml_129 rfl) rfl ?_
      refine xi_aload_n (pc' := 1) (x := 17) kc_129_0 rfl rfl ?_
      refine xi_getfield (pc' := 4) (v := .ref 18) kc_129_1 rfl rfl rfl A491 rfl ?_
      refine xi_iconst (pc' := 5) (v := 2) kc_129_4 rfl rfl ?_
      obtain ⟨v499, ev499, bv499, dv499⟩ := xj_get hy492 ry492 (i := 2) (by decide) (by decide)
      refine xi_iaload (pc' := 6) (v := v499) kc_129_5 rfl A492 (by decide) rfl (xi_in (by decide) (by rw [hy492]; decide)) ev499 ?_
      have hlv499 : v499.toInt = (st 2) 2 := xrp_ldc R493 (k := 2) (by decide) (by decide) ev499
      have brv499 : 0 ≤ v499.toInt ∧ v499.toInt ≤ 99 := by have := hq 2 (by omega); omega
      refine xi_aload_n (pc' := 7) (x := 17) kc_129_6 rfl rfl ?_
      refine xi_getfield (pc' := 10) (v := .ref 18) kc_129_7 rfl rfl rfl A491 rfl ?_
      refine xi_iconst (pc' := 11) (v := 4) kc_129_10 rfl rfl ?_
      obtain ⟨v500, ev500, bv500, dv500⟩ := xj_get hy492 ry492 (i := 4) (by decide) (by decide)
      refine xi_iaload (pc' := 12) (v := v500) kc_129_11 rfl A492 (by decide) rfl (xi_in (by decide) (by rw [hy492]; decide)) ev500 ?_
      have hlv500 : v500.toInt = (st 2) 4 := xrp_ldc R493 (k := 4) (by decide) (by decide) ev500
      have brv500 : 0 ≤ v500.toInt ∧ v500.toInt ≤ 99 := by have := hq 2 (by omega); omega
      refine xi_iconst (pc' := 13) (v := 1) kc_129_12 rfl rfl ?_
      by_cases c501 : v500.toInt = 1
      · refine xi_cmf (pc' := 16) kc_129_13 rfl (xc_ne_f (X := v500.toInt) (Y := 1) rfl (by decide) (by omega)) ?_
        refine xi_aload_n (pc' := 17) (x := 17) kc_129_16 rfl rfl ?_
        refine xi_getfield (pc' := 20) (v := .ref 18) kc_129_17 rfl rfl rfl A491 rfl ?_
        refine xi_iconst (pc' := 21) (v := 3) kc_129_20 rfl rfl ?_
        obtain ⟨v502, ev502, bv502, dv502⟩ := xj_get hy492 ry492 (i := 3) (by decide) (by decide)
        refine xi_iaload (pc' := 22) (v := v502) kc_129_21 rfl A492 (by decide) rfl (xi_in (by decide) (by rw [hy492]; decide)) ev502 ?_
        have hlv502 : v502.toInt = (st 2) 3 := xrp_ldc R493 (k := 3) (by decide) (by decide) ev502
        have brv502 : 0 ≤ v502.toInt ∧ v502.toInt ≤ 99 := by have := hq 2 (by omega); omega
        refine xi_goto (pc' := 26) kc_129_22 rfl ?_
        obtain ⟨v503, ev503⟩ : ∃ q : Int32, v499 + v502 = q := ⟨_, rfl⟩
        have zv503 : v503.toInt = (v499.toInt + v502.toInt) := by rw [← ev503]; exact (xz_add (X := v499.toInt) (Y := v502.toInt) rfl rfl (by omega) (by omega)).trans (by omega)
        refine xi_iadd (pc' := 27) (v := v503) kc_129_26 rfl ev503 ?_
        refine xi_ireturn kc_129_27 mr_129 rfl ?_
        show xw J ov (d + 4) 128 (66, [(8, .int v497), (7, .int v494), (6, .int v490), (5, .ref 17), (0, .ref 1), (1, .ref 63), (2, .int 2), (3, .int x3), (4, .int x4)], [.int v503, .int v498, .int v490], hh486) _
        obtain ⟨v504, ev504⟩ : ∃ q : Int32, (v498 : Int32) * v503 = q := ⟨_, rfl⟩
        have rv504 := xc_rng v504
        refine xi_imul (pc' := 67) (v := v504) kc_128_66 rfl ev504 ?_
        refine xi_bipush (pc' := 69) (v := 100) kc_128_67 rfl rfl ?_
        obtain ⟨v505, ev505⟩ : ∃ q : Int32, v504 / 100 = q := ⟨_, rfl⟩
        have dv505 : 100 * v505.toInt ≤ v504.toInt + 99 ∧ v504.toInt ≤ 100 * v505.toInt + 99 := by rw [← ev505]; exact xz_div (X := v504.toInt) (Y := 100) rfl (by decide) (by decide)
        have bv505 : -21474837 ≤ v505.toInt ∧ v505.toInt ≤ 21474837 := by omega
        refine xi_idiv (pc' := 70) (v := v505) kc_128_69 rfl ev505 (by decide) ?_
        obtain ⟨v506, ev506⟩ : ∃ q : Int32, (v490 : Int32) - v505 = q := ⟨_, rfl⟩
        have rv506 := xc_rng v506
        refine xi_isub (pc' := 71) (v := v506) kc_128_70 rfl ev506 ?_
        refine xi_istore (pc' := 73) (lv' := [(6, .int v506), (8, .int v497), (7, .int v494), (5, .ref 17), (0, .ref 1), (1, .ref 63), (2, .int 2), (3, .int x3), (4, .int x4)]) kc_128_71 rfl rfl (xm_lt ml_128 rfl) ?_
        refine xi_aload (pc' := 75) (x := 17) kc_128_73 rfl rfl ?_
        refine xi_getfield (pc' := 78) (v := .ref 18) kc_128_75 rfl rfl rfl A491 rfl ?_
        refine xi_iconst (pc' := 79) (v := 1) kc_128_78 rfl rfl ?_
        obtain ⟨v507, ev507, bv507, dv507⟩ := xj_get hy492 ry492 (i := 1) (by decide) (by decide)
        refine xi_iaload (pc' := 80) (v := v507) kc_128_79 rfl A492 (by decide) rfl (xi_in (by decide) (by rw [hy492]; decide)) ev507 ?_
        have hlv507 : v507.toInt = (st 2) 1 := xrp_ldc R493 (k := 1) (by decide) (by decide) ev507
        have brv507 : 0 ≤ v507.toInt ∧ v507.toInt ≤ 99 := by have := hq 2 (by omega); omega
        refine xi_istore (pc' := 82) (lv' := [(9, .int v507), (6, .int v506), (8, .int v497), (7, .int v494), (5, .ref 17), (0, .ref 1), (1, .ref 63), (2, .int 2), (3, .int x3), (4, .int x4)]) kc_128_80 rfl rfl (xm_lt ml_128 rfl) ?_
        refine xi_iload (pc' := 84) (x := v494) kc_128_82 rfl rfl ?_
        refine xi_iload (pc' := 86) (x := v507) kc_128_84 rfl rfl ?_
        refine xi_static (mj := 102) (as := [.int v507]) (st1 := [.int v494]) (lv0 := [(0, .int v507)]) kc_128_86 rfl rfl (Nat.le_of_ble_eq_true rfl) rfl rfl (Nat.le_of_ble_eq_true rfl) (hJ _ _ _ _ (by decide)) (xm_le ml_102 rfl) rfl ?_
        refine xw_gx hJ hov1 hov2 (d := d + 1) (x0 := v507) (by omega) (fun r508 hr508 br508 => ?_)
        show xw J ov (d + 4) 128 (89, [(9, .int v507), (6, .int v506), (8, .int v497), (7, .int v494), (5, .ref 17), (0, .ref 1), (1, .ref 63), (2, .int 2), (3, .int x3), (4, .int x4)], [.int r508, .int v494], hh486) _
        obtain ⟨v509, ev509⟩ : ∃ q : Int32, (v494 : Int32) * r508 = q := ⟨_, rfl⟩
        have rv509 := xc_rng v509
        refine xi_imul (pc' := 90) (v := v509) kc_128_89 rfl ev509 ?_
        refine xi_istore (pc' := 92) (lv' := [(10, .int v509), (9, .int v507), (6, .int v506), (8, .int v497), (7, .int v494), (5, .ref 17), (0, .ref 1), (1, .ref 63), (2, .int 2), (3, .int x3), (4, .int x4)]) kc_128_90 rfl rfl (xm_lt ml_128 rfl) ?_
        refine xi_iload (pc' := 94) (x := v506) kc_128_92 rfl rfl ?_
        refine xi_iload (pc' := 96) (x := v509) kc_128_94 rfl rfl ?_
        by_cases c510 : v506.toInt ≤ v509.toInt
        · refine xi_cmt (pc' := 119) kc_128_96 rfl (xc_le_t (X := v506.toInt) (Y := v509.toInt) rfl rfl (by omega)) ?_
          refine xi_aload_n (pc' := 120) (x := 63) kc_128_119 rfl rfl ?_
          refine xi_getfield (pc' := 123) (v := .ref 64) kc_128_120 rfl rfl rfl A489 rfl ?_
          refine xi_iload_n (pc' := 124) (x := 2) kc_128_123 rfl rfl ?_
          refine xi_iload (pc' := 126) (x := v506) kc_128_124 rfl rfl ?_
          obtain ⟨y511, s511, hy511, ry511⟩ := xj_set (v := v506) hy486 ry486 2 (by first | omega | decide) (by first | omega | decide)
          refine xi_iastore (pc' := 127) (x' := y511) kc_128_126 rfl eh486.1 rfl (xi_in (by decide) (by rw [hy486]; decide)) s511 (fun hh511 eh511 => ?_)
          have K512 := xk_pa K487 (xk_wa (by decide +kernel)) xD_64 hy511 ry511 eh511
          have R513 : xrp y511 6 (xup (xup gw 2 (99999 : Int32).toInt) 2 (v506 : Int32).toInt) := xrp_setc R488 s511 (by decide) rfl
          refine xi_return kc_128_127 mr_128 ?_
          have hqr := hq 2 (by omega)
          have hwr := hw 2 (by omega)
          have em : Int32.toNatClampNeg v386 = (hr % 24).toNat := xcl3 (by omega) (by omega)
          have hmr : 0 ≤ C 22 (hr % 24).toNat ∧ C 22 (hr % 24).toNat ≤ 999 := hC.2.2.2.2.2 2 (by omega) (hr % 24).toNat (by omega)
          rw [em] at hlv390
          have n1 : Int32.toNatClampNeg 2 = 2 := by decide
          rw [n1] at kk
          have zc99999 : (99999 : Int32).toInt = 99999 := by decide
          have ew : (v490 : Int32).toInt = xcap (gw 2 + C 22 (hr % 24).toNat) := xcap_is (fun z => by omega) (fun z => by omega)
          have hfan := xc_of_fan hq (show 2 < 6 by omega)
          have ec : (v503 : Int32).toInt = st 2 2 + (if st 2 4 = 1 then st 2 3 else 0) := by rw [if_pos (show st 2 4 = 1 by omega)]; omega
          have hcb := xho_b b4.1 b4.2
          have eg : (r508 : Int32).toInt = xho (st 2 1) := by rw [hr508, show (v507 : Int32).toInt = st 2 1 by omega]
          obtain ⟨ha1, ha2, ha3, ha4⟩ := xair ew (show (v494 : Int32).toInt = st 2 0 by omega) hr495 ec eg (xcap_b (by omega)) hqr.1 ⟨by omega, by omega⟩ hfan ⟨by omega, by omega⟩ ev496 ev497 ev498 ev504 ev505 ev506 ev509
          have hv := xro_v ha1 ha3
          have hW := xrp_fn R513 (show _ = (xup gw 2 (xro (gw 2) (C 22 (hr % 24).toNat) (st 2 0) (st 2 1) (st 2 2 + (if st 2 4 = 1 then st 2 3 else 0)) (xho x4.toInt))) from (congrArg (xup _ 2) (show (v506 : Int32).toInt = _ from hv.2 (by omega))).trans xup_2)
          exact kk hh511 K512 (xra_mk eh511.1 hW)
        · refine xi_cmf (pc' := 99) kc_128_96 rfl (xc_le_f (X := v506.toInt) (Y := v509.toInt) rfl rfl (by omega)) ?_
          refine xi_aload_n (pc' := 100) (x := 1) kc_128_99 rfl rfl ?_
          refine xi_aload_n (pc' := 101) (x := 63) kc_128_100 rfl rfl ?_
          refine xi_iload_n (pc' := 102) (x := 2) kc_128_101 rfl rfl ?_
          refine xi_iload (pc' := 104) (x := v506) kc_128_102 rfl rfl ?_
          refine xi_iload (pc' := 106) (x := v509) kc_128_104 rfl rfl ?_
          obtain ⟨v514, ev514⟩ : ∃ q : Int32, (v506 : Int32) - v509 = q := ⟨_, rfl⟩
          have rv514 := xc_rng v514
          refine xi_isub (pc' := 107) (v := v514) kc_128_106 rfl ev514 ?_
          refine xi_iload (pc' := 109) (x := v507) kc_128_107 rfl rfl ?_
          refine xi_iload (pc' := 111) (x := x4) kc_128_109 rfl rfl ?_
          obtain ⟨v515, ev515⟩ : ∃ q : Int32, v507 - x4 = q := ⟨_, rfl⟩
          have zv515 : v515.toInt = (v507.toInt + (-1) * x4.toInt) := by rw [← ev515]; exact (xz_sub (X := v507.toInt) (Y := x4.toInt) rfl rfl (by omega) (by omega)).trans (by omega)
          refine xi_isub (pc' := 112) (v := v515) kc_128_111 rfl ev515 ?_
          have A516 := ((eh486.2.1 1 (by decide)).trans A3)
          refine xi_virtual (mj := 130) (as := [.ref 63, .int 2, .int v514, .int v515]) (st1 := []) (lv0 := [(0, .ref 1), (1, .ref 63), (2, .int 2), (3, .int v514), (4, .int v515)]) kc_128_112 rfl rfl rfl rfl rfl A516 (Nat.le_of_ble_eq_true rfl) (hJ _ _ _ _ (by decide)) (xm_le ml_130 rfl) rfl ?_
          have zc2 : (2 : Int32).toInt = 2 := by decide
          refine mt_130_0 hJ hov1 hov2 (d := d + 1) (x2 := 2) (x3 := v514) (x4 := v515) K487.1 (by first | omega | decide) (fun hh518 K519 => ?_)
          have A520 := ((eh486.2.1 19 (by decide)).trans A388)
          have K521 := xk_tr K487 K519 (xsb_ok _ _ (by decide +kernel))
          obtain ⟨u522, u523, bu522, bu523, A524⟩ := xq_1 K521.1
          have C525 : xcX hh518 C := xcX_k C0 K521 (by decide +kernel)
          have hfu522 : u522.toInt = (C 11 0) := xfi_ld C525.1 A524 rfl
          have e526 : u1 = u522 := xk_eqi (q := 5) K519 (by decide +kernel) A516 A524 rfl rfl
          subst e526
          have A527 := xk_eqa (q := 0) K519 (by decide +kernel) A520
          obtain ⟨u528, u529, bu528, bu529, A530⟩ := xq_63 K521.1
          have hfu529 : u529.toInt = 63 := xfi_ld C525.2.2.2.2.2.2.2.2.2.2.2.2.2.2.2.2.2.2.2 A530 rfl
          have e531 : u391 = u528 := xk_eqi (q := 2) K519 (by decide +kernel) A489 A530 rfl rfl
          subst e531
          have e532 : u392 = u529 := xk_eqi (q := 3) K519 (by decide +kernel) A489 A530 rfl rfl
          subst e532
          have A533 := xk_eqa (q := 0) K519 (by decide +kernel) eh486.1
          have A534 := xk_eqa (q := 0) K519 (by decide +kernel) A492
          show xw J ov (d + 4) 128 (115, [(10, .int v509), (9, .int v507), (6, .int v506), (8, .int v497), (7, .int v494), (5, .ref 17), (0, .ref 1), (1, .ref 63), (2, .int 2), (3, .int x3), (4, .int x4)], [], hh518) _
          refine xi_iload (pc' := 117) (x := v509) kc_128_115 rfl rfl ?_
          refine xi_istore (pc' := 119) (lv' := [(6, .int v509), (10, .int v509), (9, .int v507), (8, .int v497), (7, .int v494), (5, .ref 17), (0, .ref 1), (1, .ref 63), (2, .int 2), (3, .int x3), (4, .int x4)]) kc_128_117 rfl rfl (xm_lt ml_128 rfl) ?_
          refine xi_aload_n (pc' := 120) (x := 63) kc_128_119 rfl rfl ?_
          refine xi_getfield (pc' := 123) (v := .ref 64) kc_128_120 rfl rfl rfl A530 rfl ?_
          refine xi_iload_n (pc' := 124) (x := 2) kc_128_123 rfl rfl ?_
          refine xi_iload (pc' := 126) (x := v509) kc_128_124 rfl rfl ?_
          obtain ⟨y535, s535, hy535, ry535⟩ := xj_set (v := v509) hy486 ry486 2 (by first | omega | decide) (by first | omega | decide)
          refine xi_iastore (pc' := 127) (x' := y535) kc_128_126 rfl A533 rfl (xi_in (by decide) (by rw [hy486]; decide)) s535 (fun hh535 eh535 => ?_)
          have K536 := xk_pa K521 (xk_wa (by decide +kernel)) xD_64 hy535 ry535 eh535
          have R537 : xrp y535 6 (xup (xup gw 2 (99999 : Int32).toInt) 2 (v509 : Int32).toInt) := xrp_setc R488 s535 (by decide) rfl
          refine xi_return kc_128_127 mr_128 ?_
          have hqr := hq 2 (by omega)
          have hwr := hw 2 (by omega)
          have em : Int32.toNatClampNeg v386 = (hr % 24).toNat := xcl3 (by omega) (by omega)
          have hmr : 0 ≤ C 22 (hr % 24).toNat ∧ C 22 (hr % 24).toNat ≤ 999 := hC.2.2.2.2.2 2 (by omega) (hr % 24).toNat (by omega)
          rw [em] at hlv390
          have n1 : Int32.toNatClampNeg 2 = 2 := by decide
          rw [n1] at kk
          have zc99999 : (99999 : Int32).toInt = 99999 := by decide
          have ew : (v490 : Int32).toInt = xcap (gw 2 + C 22 (hr % 24).toNat) := xcap_is (fun z => by omega) (fun z => by omega)
          have hfan := xc_of_fan hq (show 2 < 6 by omega)
          have ec : (v503 : Int32).toInt = st 2 2 + (if st 2 4 = 1 then st 2 3 else 0) := by rw [if_pos (show st 2 4 = 1 by omega)]; omega
          have hcb := xho_b b4.1 b4.2
          have eg : (r508 : Int32).toInt = xho (st 2 1) := by rw [hr508, show (v507 : Int32).toInt = st 2 1 by omega]
          obtain ⟨ha1, ha2, ha3, ha4⟩ := xair ew (show (v494 : Int32).toInt = st 2 0 by omega) hr495 ec eg (xcap_b (by omega)) hqr.1 ⟨by omega, by omega⟩ hfan ⟨by omega, by omega⟩ ev496 ev497 ev498 ev504 ev505 ev506 ev509
          have hv := xro_v ha1 ha3
          have hW := xrp_fn R537 (show _ = (xup gw 2 (xro (gw 2) (C 22 (hr % 24).toNat) (st 2 0) (st 2 1) (st 2 2 + (if st 2 4 = 1 then st 2 3 else 0)) (xho x4.toInt))) from (congrArg (xup _ 2) (show (v509 : Int32).toInt = _ from hv.1 (by omega))).trans xup_2)
          exact kk hh535 K536 (xra_mk eh535.1 hW)
      · refine xi_cmt (pc' := 25) kc_129_13 rfl (xc_ne_t (X := v500.toInt) (Y := 1) rfl (by decide) (by omega)) ?_
        refine xi_iconst (pc' := 26) (v := 0) kc_129_25 rfl rfl ?_
        obtain ⟨v538, ev538⟩ : ∃ q : Int32, v499 + 0 = q := ⟨_, rfl⟩
        have zv538 : v538.toInt = v499.toInt := by rw [← ev538]; exact (xz_add (X := v499.toInt) (Y := 0) rfl (by decide) (by omega) (by omega)).trans (by omega)
        refine xi_iadd (pc' := 27) (v := v538) kc_129_26 rfl ev538 ?_
        refine xi_ireturn kc_129_27 mr_129 rfl ?_
        show xw J ov (d + 4) 128 (66, [(8, .int v497), (7, .int v494), (6, .int v490), (5, .ref 17), (0, .ref 1), (1, .ref 63), (2, .int 2), (3, .int x3), (4, .int x4)], [.int v538, .int v498, .int v490], hh486) _
        obtain ⟨v539, ev539⟩ : ∃ q : Int32, (v498 : Int32) * v538 = q := ⟨_, rfl⟩
        have rv539 := xc_rng v539
        refine xi_imul (pc' := 67) (v := v539) kc_128_66 rfl ev539 ?_
        refine xi_bipush (pc' := 69) (v := 100) kc_128_67 rfl rfl ?_
        obtain ⟨v540, ev540⟩ : ∃ q : Int32, v539 / 100 = q := ⟨_, rfl⟩
        have dv540 : 100 * v540.toInt ≤ v539.toInt + 99 ∧ v539.toInt ≤ 100 * v540.toInt + 99 := by rw [← ev540]; exact xz_div (X := v539.toInt) (Y := 100) rfl (by decide) (by decide)
        have bv540 : -21474837 ≤ v540.toInt ∧ v540.toInt ≤ 21474837 := by omega
        refine xi_idiv (pc' := 70) (v := v540) kc_128_69 rfl ev540 (by decide) ?_
        obtain ⟨v541, ev541⟩ : ∃ q : Int32, (v490 : Int32) - v540 = q := ⟨_, rfl⟩
        have rv541 := xc_rng v541
        refine xi_isub (pc' := 71) (v := v541) kc_128_70 rfl ev541 ?_
        refine xi_istore (pc' := 73) (lv' := [(6, .int v541), (8, .int v497), (7, .int v494), (5, .ref 17), (0, .ref 1), (1, .ref 63), (2, .int 2), (3, .int x3), (4, .int x4)]) kc_128_71 rfl rfl (xm_lt ml_128 rfl) ?_
        refine xi_aload (pc' := 75) (x := 17) kc_128_73 rfl rfl ?_
        refine xi_getfield (pc' := 78) (v := .ref 18) kc_128_75 rfl rfl rfl A491 rfl ?_
        refine xi_iconst (pc' := 79) (v := 1) kc_128_78 rfl rfl ?_
        obtain ⟨v542, ev542, bv542, dv542⟩ := xj_get hy492 ry492 (i := 1) (by decide) (by decide)
        refine xi_iaload (pc' := 80) (v := v542) kc_128_79 rfl A492 (by decide) rfl (xi_in (by decide) (by rw [hy492]; decide)) ev542 ?_
        have hlv542 : v542.toInt = (st 2) 1 := xrp_ldc R493 (k := 1) (by decide) (by decide) ev542
        have brv542 : 0 ≤ v542.toInt ∧ v542.toInt ≤ 99 := by have := hq 2 (by omega); omega
        refine xi_istore (pc' := 82) (lv' := [(9, .int v542), (6, .int v541), (8, .int v497), (7, .int v494), (5, .ref 17), (0, .ref 1), (1, .ref 63), (2, .int 2), (3, .int x3), (4, .int x4)]) kc_128_80 rfl rfl (xm_lt ml_128 rfl) ?_
        refine xi_iload (pc' := 84) (x := v494) kc_128_82 rfl rfl ?_
        refine xi_iload (pc' := 86) (x := v542) kc_128_84 rfl rfl ?_
        refine xi_static (mj := 102) (as := [.int v542]) (st1 := [.int v494]) (lv0 := [(0, .int v542)]) kc_128_86 rfl rfl (Nat.le_of_ble_eq_true rfl) rfl rfl (Nat.le_of_ble_eq_true rfl) (hJ _ _ _ _ (by decide)) (xm_le ml_102 rfl) rfl ?_
        refine xw_gx hJ hov1 hov2 (d := d + 1) (x0 := v542) (by omega) (fun r543 hr543 br543 => ?_)
        show xw J ov (d + 4) 128 (89, [(9, .int v542), (6, .int v541), (8, .int v497), (7, .int v494), (5, .ref 17), (0, .ref 1), (1, .ref 63), (2, .int 2), (3, .int x3), (4, .int x4)], [.int r543, .int v494], hh486) _
        obtain ⟨v544, ev544⟩ : ∃ q : Int32, (v494 : Int32) * r543 = q := ⟨_, rfl⟩
        have rv544 := xc_rng v544
        refine xi_imul (pc' := 90) (v := v544) kc_128_89 rfl ev544 ?_
        refine xi_istore (pc' := 92) (lv' := [(10, .int v544), (9, .int v542), (6, .int v541), (8, .int v497), (7, .int v494), (5, .ref 17), (0, .ref 1), (1, .ref 63), (2, .int 2), (3, .int x3), (4, .int x4)]) kc_128_90 rfl rfl (xm_lt ml_128 rfl) ?_
        refine xi_iload (pc' := 94) (x := v541) kc_128_92 rfl rfl ?_
        refine xi_iload (pc' := 96) (x := v544) kc_128_94 rfl rfl ?_
        by_cases c545 : v541.toInt ≤ v544.toInt
        · refine xi_cmt (pc' := 119) kc_128_96 rfl (xc_le_t (X := v541.toInt) (Y := v544.toInt) rfl rfl (by omega)) ?_
          refine xi_aload_n (pc' := 120) (x := 63) kc_128_119 rfl rfl ?_
          refine xi_getfield (pc' := 123) (v := .ref 64) kc_128_120 rfl rfl rfl A489 rfl ?_
          refine xi_iload_n (pc' := 124) (x := 2) kc_128_123 rfl rfl ?_
          refine xi_iload (pc' := 126) (x := v541) kc_128_124 rfl rfl ?_
          obtain ⟨y546, s546, hy546, ry546⟩ := xj_set (v := v541) hy486 ry486 2 (by first | omega | decide) (by first | omega | decide)
          refine xi_iastore (pc' := 127) (x' := y546) kc_128_126 rfl eh486.1 rfl (xi_in (by decide) (by rw [hy486]; decide)) s546 (fun hh546 eh546 => ?_)
          have K547 := xk_pa K487 (xk_wa (by decide +kernel)) xD_64 hy546 ry546 eh546
          have R548 : xrp y546 6 (xup (xup gw 2 (99999 : Int32).toInt) 2 (v541 : Int32).toInt) := xrp_setc R488 s546 (by decide) rfl
          refine xi_return kc_128_127 mr_128 ?_
          have hqr := hq 2 (by omega)
          have hwr := hw 2 (by omega)
          have em : Int32.toNatClampNeg v386 = (hr % 24).toNat := xcl3 (by omega) (by omega)
          have hmr : 0 ≤ C 22 (hr % 24).toNat ∧ C 22 (hr % 24).toNat ≤ 999 := hC.2.2.2.2.2 2 (by omega) (hr % 24).toNat (by omega)
          rw [em] at hlv390
          have n1 : Int32.toNatClampNeg 2 = 2 := by decide
          rw [n1] at kk
          have zc99999 : (99999 : Int32).toInt = 99999 := by decide
          have ew : (v490 : Int32).toInt = xcap (gw 2 + C 22 (hr % 24).toNat) := xcap_is (fun z => by omega) (fun z => by omega)
          have hfan := xc_of_fan hq (show 2 < 6 by omega)
          have ec : (v538 : Int32).toInt = st 2 2 + (if st 2 4 = 1 then st 2 3 else 0) := by rw [if_neg (show ¬ st 2 4 = 1 by omega)]; omega
          have hcb := xho_b b4.1 b4.2
          have eg : (r543 : Int32).toInt = xho (st 2 1) := by rw [hr543, show (v542 : Int32).toInt = st 2 1 by omega]
          obtain ⟨ha1, ha2, ha3, ha4⟩ := xair ew (show (v494 : Int32).toInt = st 2 0 by omega) hr495 ec eg (xcap_b (by omega)) hqr.1 ⟨by omega, by omega⟩ hfan ⟨by omega, by omega⟩ ev496 ev497 ev498 ev539 ev540 ev541 ev544
          have hv := xro_v ha1 ha3
          have hW := xrp_fn R548 (show _ = (xup gw 2 (xro (gw 2) (C 22 (hr % 24).toNat) (st 2 0) (st 2 1) (st 2 2 + (if st 2 4 = 1 then st 2 3 else 0)) (xho x4.toInt))) from (congrArg (xup _ 2) (show (v541 : Int32).toInt = _ from hv.2 (by omega))).trans xup_2)
          exact kk hh546 K547 (xra_mk eh546.1 hW)
        · refine xi_cmf (pc' := 99) kc_128_96 rfl (xc_le_f (X := v541.toInt) (Y := v544.toInt) rfl rfl (by omega)) ?_
          refine xi_aload_n (pc' := 100) (x := 1) kc_128_99 rfl rfl ?_
          refine xi_aload_n (pc' := 101) (x := 63) kc_128_100 rfl rfl ?_
          refine xi_iload_n (pc' := 102) (x := 2) kc_128_101 rfl rfl ?_
          refine xi_iload (pc' := 104) (x := v541) kc_128_102 rfl rfl ?_
          refine xi_iload (pc' := 106) (x := v544) kc_128_104 rfl rfl ?_
          obtain ⟨v549, ev549⟩ : ∃ q : Int32, (v541 : Int32) - v544 = q := ⟨_, rfl⟩
          have rv549 := xc_rng v549
          refine xi_isub (pc' := 107) (v := v549) kc_128_106 rfl ev549 ?_
          refine xi_iload (pc' := 109) (x := v542) kc_128_107 rfl rfl ?_
          refine xi_iload (pc' := 111) (x := x4) kc_128_109 rfl rfl ?_
          obtain ⟨v550, ev550⟩ : ∃ q : Int32, v542 - x4 = q := ⟨_, rfl⟩
          have zv550 : v550.toInt = (v542.toInt + (-1) * x4.toInt) := by rw [← ev550]; exact (xz_sub (X := v542.toInt) (Y := x4.toInt) rfl rfl (by omega) (by omega)).trans (by omega)
          refine xi_isub (pc' := 112) (v := v550) kc_128_111 rfl ev550 ?_
          have A551 := ((eh486.2.1 1 (by decide)).trans A3)
          refine xi_virtual (mj := 130) (as := [.ref 63, .int 2, .int v549, .int v550]) (st1 := []) (lv0 := [(0, .ref 1), (1, .ref 63), (2, .int 2), (3, .int v549), (4, .int v550)]) kc_128_112 rfl rfl rfl rfl rfl A551 (Nat.le_of_ble_eq_true rfl) (hJ _ _ _ _ (by decide)) (xm_le ml_130 rfl) rfl ?_
          have zc2 : (2 : Int32).toInt = 2 := by decide
          refine mt_130_0 hJ hov1 hov2 (d := d + 1) (x2 := 2) (x3 := v549) (x4 := v550) K487.1 (by first | omega | decide) (fun hh553 K554 => ?_)
          have A555 := ((eh486.2.1 19 (by decide)).trans A388)
          have K556 := xk_tr K487 K554 (xsb_ok _ _ (by decide +kernel))
          obtain ⟨u557, u558, bu557, bu558, A559⟩ := xq_1 K556.1
          have C560 : xcX hh553 C := xcX_k C0 K556 (by decide +kernel)
          have hfu557 : u557.toInt = (C 11 0) := xfi_ld C560.1 A559 rfl
          have e561 : u1 = u557 := xk_eqi (q := 5) K554 (by decide +kernel) A551 A559 rfl rfl
          subst e561
          have A562 := xk_eqa (q := 0) K554 (by decide +kernel) A555
          obtain ⟨u563, u564, bu563, bu564, A565⟩ := xq_63 K556.1
          have hfu564 : u564.toInt = 63 := xfi_ld C560.2.2.2.2.2.2.2.2.2.2.2.2.2.2.2.2.2.2.2 A565 rfl
          have e566 : u391 = u563 := xk_eqi (q := 2) K554 (by decide +kernel) A489 A565 rfl rfl
          subst e566
          have e567 : u392 = u564 := xk_eqi (q := 3) K554 (by decide +kernel) A489 A565 rfl rfl
          subst e567
          have A568 := xk_eqa (q := 0) K554 (by decide +kernel) eh486.1
          have A569 := xk_eqa (q := 0) K554 (by decide +kernel) A492
          show xw J ov (d + 4) 128 (115, [(10, .int v544), (9, .int v542), (6, .int v541), (8, .int v497), (7, .int v494), (5, .ref 17), (0, .ref 1), (1, .ref 63), (2, .int 2), (3, .int x3), (4, .int x4)], [], hh553) _
          refine xi_iload (pc' := 117) (x := v544) kc_128_115 rfl rfl ?_
          refine xi_istore (pc' := 119) (lv' := [(6, .int v544), (10, .int v544), (9, .int v542), (8, .int v497), (7, .int v494), (5, .ref 17), (0, .ref 1), (1, .ref 63), (2, .int 2), (3, .int x3), (4, .int x4)]) kc_128_117 rfl rfl (xm_lt ml_128 rfl) ?_
          refine xi_aload_n (pc' := 120) (x := 63) kc_128_119 rfl rfl ?_
          refine xi_getfield (pc' := 123) (v := .ref 64) kc_128_120 rfl rfl rfl A565 rfl ?_
          refine xi_iload_n (pc' := 124) (x := 2) kc_128_123 rfl rfl ?_
          refine xi_iload (pc' := 126) (x := v544) kc_128_124 rfl rfl ?_
          obtain ⟨y570, s570, hy570, ry570⟩ := xj_set (v := v544) hy486 ry486 2 (by first | omega | decide) (by first | omega | decide)
          refine xi_iastore (pc' := 127) (x' := y570) kc_128_126 rfl A568 rfl (xi_in (by decide) (by rw [hy486]; decide)) s570 (fun hh570 eh570 => ?_)
          have K571 := xk_pa K556 (xk_wa (by decide +kernel)) xD_64 hy570 ry570 eh570
          have R572 : xrp y570 6 (xup (xup gw 2 (99999 : Int32).toInt) 2 (v544 : Int32).toInt) := xrp_setc R488 s570 (by decide) rfl
          refine xi_return kc_128_127 mr_128 ?_
          have hqr := hq 2 (by omega)
          have hwr := hw 2 (by omega)
          have em : Int32.toNatClampNeg v386 = (hr % 24).toNat := xcl3 (by omega) (by omega)
          have hmr : 0 ≤ C 22 (hr % 24).toNat ∧ C 22 (hr % 24).toNat ≤ 999 := hC.2.2.2.2.2 2 (by omega) (hr % 24).toNat (by omega)
          rw [em] at hlv390
          have n1 : Int32.toNatClampNeg 2 = 2 := by decide
          rw [n1] at kk
          have zc99999 : (99999 : Int32).toInt = 99999 := by decide
          have ew : (v490 : Int32).toInt = xcap (gw 2 + C 22 (hr % 24).toNat) := xcap_is (fun z => by omega) (fun z => by omega)
          have hfan := xc_of_fan hq (show 2 < 6 by omega)
          have ec : (v538 : Int32).toInt = st 2 2 + (if st 2 4 = 1 then st 2 3 else 0) := by rw [if_neg (show ¬ st 2 4 = 1 by omega)]; omega
          have hcb := xho_b b4.1 b4.2
          have eg : (r543 : Int32).toInt = xho (st 2 1) := by rw [hr543, show (v542 : Int32).toInt = st 2 1 by omega]
          obtain ⟨ha1, ha2, ha3, ha4⟩ := xair ew (show (v494 : Int32).toInt = st 2 0 by omega) hr495 ec eg (xcap_b (by omega)) hqr.1 ⟨by omega, by omega⟩ hfan ⟨by omega, by omega⟩ ev496 ev497 ev498 ev539 ev540 ev541 ev544
          have hv := xro_v ha1 ha3
          have hW := xrp_fn R572 (show _ = (xup gw 2 (xro (gw 2) (C 22 (hr % 24).toNat) (st 2 0) (st 2 1) (st 2 2 + (if st 2 4 = 1 then st 2 3 else 0)) (xho x4.toInt))) from (congrArg (xup _ 2) (show (v544 : Int32).toInt = _ from hv.1 (by omega))).trans xup_2)
          exact kk hh570 K571 (xra_mk eh570.1 hW)
  by_cases c573 : x2.toInt = 3
  · have qx2 : x2 = 3 := xc_of (Eq.trans (by omega) (show (3 : Int) = (3 : Int32).toInt by decide))
    subst qx2
    refine xi_aaload (pc' := 6) (b := 20) kc_128_5 rfl A5 rfl (xi_in (n := 6) (by decide) (by decide)) rfl ?_
    refine xi_astore (pc' := 8) (lv' := [(5, .ref 20), (0, .ref 1), (1, .ref 63), (2, .int 3), (3, .int x3), (4, .int x4)]) kc_128_6 rfl rfl (xm_lt ml_128 rfl) ?_
    refine xi_aload_n (pc' := 9) (x := 63) kc_128_8 rfl rfl ?_
    refine xi_iload_n (pc' := 10) (x := 3) kc_128_9 rfl rfl ?_
    refine xi_aload (pc' := 12) (x := 20) kc_128_10 rfl rfl ?_
    have A574 := xq_20 K.1
    refine xi_getfield (pc' := 15) (v := .ref 22) kc_128_12 rfl rfl rfl A574 rfl ?_
    refine xi_iload_n (pc' := 16) (x := x3) kc_128_15 rfl rfl ?_
    refine xi_bipush (pc' := 18) (v := 24) kc_128_16 rfl rfl ?_
    refine xi_static (mj := 3) (as := [.int x3, .int 24]) (st1 := [.ref 22, .int 3, .ref 63]) (lv0 := [(0, .int x3), (1, .int 24)]) kc_128_18 rfl rfl (Nat.le_of_ble_eq_true rfl) rfl rfl (Nat.le_of_ble_eq_true rfl) (hJ _ _ _ _ (by decide)) (xm_le ml_3 rfl) rfl ?_
    refine xi_iload_n (pc' := 1) (x := x3) kc_3_0 rfl rfl ?_
    refine xi_iload_n (pc' := 2) (x := 24) kc_3_1 rfl rfl ?_
    obtain ⟨v575, ev575⟩ : ∃ q : Int32, x3 - x3 / 24 * 24 = q := ⟨_, rfl⟩
    have dv575 : v575.toInt = x3.toInt % 24 := by rw [← ev575]; exact xz_reme (X := x3.toInt) (Y := 24) rfl (by decide) (by omega) (by decide)
    have bv575 : 0 ≤ v575.toInt ∧ v575.toInt ≤ 23 := by omega
    refine xi_irem (pc' := 3) (v := v575) kc_3_2 rfl ev575 (by decide) ?_
    refine xi_istore_n (pc' := 4) (lv' := [(2, .int v575), (0, .int x3), (1, .int 24)]) kc_3_3 rfl rfl (xm_lt ml_3 rfl) ?_
    refine xi_iload_n (pc' := 5) (x := x3) kc_3_4 rfl rfl ?_
    refine xi_iload_n (pc' := 6) (x := 24) kc_3_5 rfl rfl ?_
    obtain ⟨v576, ev576⟩ : ∃ q : Int32, (x3 : Int32) ^^^ 24 = q := ⟨_, rfl⟩
    have rv576 := xc_rng v576
    have bv576 : 0 ≤ v576.toInt := by rw [← ev576]; exact xz_xor (by first | omega | decide) (by first | omega | decide)
    refine xi_ixor (pc' := 7) (v := v576) kc_3_6 rfl ev576 ?_
    refine xi_ift (pc' := 18) kc_3_7 rfl (xc_ge_t (X := v576.toInt) (Y := 0) rfl (by decide) (by omega)) ?_
    refine xi_iload_n (pc' := 19) (x := v575) kc_3_18 rfl rfl ?_
    refine xi_ireturn kc_3_19 mr_3 rfl ?_
    show xw J ov (d + 4) 128 (21, [(5, .ref 20), (0, .ref 1), (1, .ref 63), (2, .int 3), (3, .int x3), (4, .int x4)], [.int v575, .ref 22, .int 3, .ref 63], h) _
    obtain ⟨y577, A577, hy577, ry577⟩ := xk_arr K.1 xD_22
    have R578 : xrp y577 24 (C 23) := xra_ld C4.2.2.2.2.2.1 A577
    obtain ⟨v579, ev579, bv579, dv579⟩ := xj_get hy577 ry577 (i := v575) (by omega) (by omega)
    refine xi_iaload (pc' := 22) (v := v579) kc_128_21 rfl A577 (by decide) rfl (xi_in (by omega) (by rw [hy577]; omega)) ev579 ?_
    have hlv579 : v579.toInt = (C 23) (Int32.toNatClampNeg v575) := xrp_ld R578 (by omega) (by omega) ev579
    have brv579 : 0 ≤ v579.toInt ∧ v579.toInt ≤ 999 := by have hz : 0 ≤ C 23 (Int32.toNatClampNeg v575) ∧ C 23 (Int32.toNatClampNeg v575) ≤ 999 := hC.2.2.2.2.2 3 (by omega) (Int32.toNatClampNeg v575) (by have := xj_tn (i := v575) (by omega); omega); omega
    obtain ⟨u580, u581, bu580, bu581, A582⟩ := xq_63 K.1
    have hfu581 : u581.toInt = 63 := xfi_ld C4.2.2.2.2.2.2.2.2.2.2.2.2.2.2.2.2.2.2.2 A582 rfl
    refine xi_virtual (mj := 127) (as := [.int 3, .int v579]) (st1 := []) (lv0 := [(0, .ref 63), (1, .int 3), (2, .int v579)]) kc_128_22 rfl rfl rfl rfl rfl A582 (Nat.le_of_ble_eq_true rfl) (hJ _ _ _ _ (by decide)) (xm_le ml_127 rfl) rfl ?_
    refine xi_iload_n (pc' := 1) (x := 3) kc_127_0 rfl rfl ?_
    refine xi_iff (pc' := 4) kc_127_1 rfl rfl ?_
    refine xi_iload_n (pc' := 5) (x := 3) kc_127_4 rfl rfl ?_
    refine xi_aload_n (pc' := 6) (x := 63) kc_127_5 rfl rfl ?_
    refine xi_getfield (pc' := 9) (v := .ref 64) kc_127_6 rfl rfl rfl A582 rfl ?_
    obtain ⟨y583, A583, hy583, ry583⟩ := xk_arr K.1 xD_64
    have R584 : xrp y583 6 gw := xra_ld IW A583
    refine xi_arraylength (pc' := 10) (n := 6) (v := 6) kc_127_9 rfl (xl_lenI (by decide) (by decide) A583 hy583) rfl ?_
    refine xi_cmf (pc' := 13) kc_127_10 rfl rfl ?_
    refine xi_aload_n (pc' := 14) (x := 63) kc_127_13 rfl rfl ?_
    refine xi_getfield (pc' := 17) (v := .ref 64) kc_127_14 rfl rfl rfl A582 rfl ?_
    refine xi_iload_n (pc' := 18) (x := 3) kc_127_17 rfl rfl ?_
    obtain ⟨v585, ev585, bv585, dv585⟩ := xj_get hy583 ry583 (i := 3) (by decide) (by decide)
    refine xi_iaload (pc' := 19) (v := v585) kc_127_18 rfl A583 (by decide) rfl (xi_in (by decide) (by rw [hy583]; decide)) ev585 ?_
    have hlv585 : v585.toInt = gw 3 := xrp_ldc R584 (k := 3) (by decide) (by decide) ev585
    have brv585 : 0 ≤ v585.toInt ∧ v585.toInt ≤ 99999 := by have := hw 3 (by omega); omega
    refine xi_iload_n (pc' := 20) (x := v579) kc_127_19 rfl rfl ?_
    obtain ⟨v586, ev586⟩ : ∃ q : Int32, v585 + v579 = q := ⟨_, rfl⟩
    have zv586 : v586.toInt = (v585.toInt + v579.toInt) := by rw [← ev586]; exact (xz_add (X := v585.toInt) (Y := v579.toInt) rfl rfl (by omega) (by omega)).trans (by omega)
    refine xi_iadd (pc' := 21) (v := v586) kc_127_20 rfl ev586 ?_
    refine xi_istore_n (pc' := 22) (lv' := [(3, .int v586), (0, .ref 63), (1, .int 3), (2, .int v579)]) kc_127_21 rfl rfl (xm_lt ml_127 rfl) ?_
    refine xi_aload_n (pc' := 23) (x := 63) kc_127_22 rfl rfl ?_
    refine xi_getfield (pc' := 26) (v := .ref 64) kc_127_23 rfl rfl rfl A582 rfl ?_
    refine xi_iload_n (pc' := 27) (x := 3) kc_127_26 rfl rfl ?_
    refine xi_iload_n (pc' := 28) (x := v586) kc_127_27 rfl rfl ?_
    refine xi_ldc (pc' := 30) (v := 99999) kc_127_28 rfl rfl ?_
    by_cases c587 : (v585.toInt + v579.toInt) ≤ 99999
    · refine xi_cmt (pc' := 38) kc_127_30 rfl (xc_le_t (X := (v585.toInt + v579.toInt)) (Y := 99999) zv586 (by decide) (by omega)) ?_
      refine xi_iload_n (pc' := 39) (x := v586) kc_127_38 rfl rfl ?_
      obtain ⟨y588, s588, hy588, ry588⟩ := xj_set (v := v586) hy583 ry583 3 (by first | omega | decide) (by first | omega | decide)
      refine xi_iastore (pc' := 40) (x' := y588) kc_127_39 rfl A583 rfl (xi_in (by decide) (by rw [hy583]; decide)) s588 (fun hh588 eh588 => ?_)
      have K589 := xk_pa K (xk_wa (by decide +kernel)) xD_64 hy588 ry588 eh588
      have R590 : xrp y588 6 (xup gw 3 (v586 : Int32).toInt) := xrp_setc R584 s588 (by decide) rfl
      refine xi_return kc_127_40 mr_127 ?_
      show xw J ov (d + 4) 128 (25, [(5, .ref 20), (0, .ref 1), (1, .ref 63), (2, .int 3), (3, .int x3), (4, .int x4)], [], hh588) _
      refine xi_aload_n (pc' := 26) (x := 63) kc_128_25 rfl rfl ?_
      have A591 := ((eh588.2.1 63 (by decide)).trans A582)
      refine xi_getfield (pc' := 29) (v := .ref 64) kc_128_26 rfl rfl rfl A591 rfl ?_
      refine xi_iload_n (pc' := 30) (x := 3) kc_128_29 rfl rfl ?_
      obtain ⟨v592, ev592, bv592, dv592⟩ := xj_get hy588 ry588 (i := 3) (by decide) (by decide)
      refine xi_iaload (pc' := 31) (v := v592) kc_128_30 rfl eh588.1 (by decide) rfl (xi_in (by decide) (by rw [hy588]; decide)) ev592 ?_
      have hlv592 : v592.toInt = (v586 : Int32).toInt := (xrp_ldc R590 (k := 3) (by decide) (by decide) ev592).trans xup_s
      refine xi_istore (pc' := 33) (lv' := [(6, .int v592), (5, .ref 20), (0, .ref 1), (1, .ref 63), (2, .int 3), (3, .int x3), (4, .int x4)]) kc_128_31 rfl rfl (xm_lt ml_128 rfl) ?_
      refine xi_aload (pc' := 35) (x := 20) kc_128_33 rfl rfl ?_
      have A593 := ((eh588.2.1 20 (by decide)).trans A574)
      refine xi_getfield (pc' := 38) (v := .ref 21) kc_128_35 rfl rfl rfl A593 rfl ?_
      refine xi_iconst (pc' := 39) (v := 0) kc_128_38 rfl rfl ?_
      obtain ⟨y594, A594, hy594, ry594⟩ := xk_arr K589.1 xD_21
      have R595 : xrp y594 5 (st 3) := xra_ld (xg6_k I6 K589 (by decide +kernel)).2.2.2.1 A594
      obtain ⟨v596, ev596, bv596, dv596⟩ := xj_get hy594 ry594 (i := 0) (by decide) (by decide)
      refine xi_iaload (pc' := 40) (v := v596) kc_128_39 rfl A594 (by decide) rfl (xi_in (by decide) (by rw [hy594]; decide)) ev596 ?_
      have hlv596 : v596.toInt = (st 3) 0 := xrp_ldc R595 (k := 0) (by decide) (by decide) ev596
      have brv596 : 0 ≤ v596.toInt ∧ v596.toInt ≤ 99 := by have := hq 3 (by omega); omega
      refine xi_istore (pc' := 42) (lv' := [(7, .int v596), (6, .int v592), (5, .ref 20), (0, .ref 1), (1, .ref 63), (2, .int 3), (3, .int x3), (4, .int x4)]) kc_128_40 rfl rfl (xm_lt ml_128 rfl) ?_
      refine xi_iload (pc' := 44) (x := v596) kc_128_42 rfl rfl ?_
      refine xi_iload (pc' := 46) (x := x4) kc_128_44 rfl rfl ?_
      refine xi_static (mj := 102) (as := [.int x4]) (st1 := [.int v596]) (lv0 := [(0, .int x4)]) kc_128_46 rfl rfl (Nat.le_of_ble_eq_true rfl) rfl rfl (Nat.le_of_ble_eq_true rfl) (hJ _ _ _ _ (by decide)) (xm_le ml_102 rfl) rfl ?_
      refine xw_gx hJ hov1 hov2 (d := d + 1) (x0 := x4) (by omega) (fun r597 hr597 br597 => ?_)
      show xw J ov (d + 4) 128 (49, [(7, .int v596), (6, .int v592), (5, .ref 20), (0, .ref 1), (1, .ref 63), (2, .int 3), (3, .int x3), (4, .int x4)], [.int r597, .int v596], hh588) _
      obtain ⟨v598, ev598⟩ : ∃ q : Int32, (v596 : Int32) * r597 = q := ⟨_, rfl⟩
      have rv598 := xc_rng v598
      refine xi_imul (pc' := 50) (v := v598) kc_128_49 rfl ev598 ?_
      refine xi_iconst (pc' := 51) (v := 2) kc_128_50 rfl rfl ?_
      obtain ⟨v599, ev599⟩ : ∃ q : Int32, v598 / 2 = q := ⟨_, rfl⟩
      have dv599 : 2 * v599.toInt ≤ v598.toInt + 1 ∧ v598.toInt ≤ 2 * v599.toInt + 1 := by rw [← ev599]; exact xz_div (X := v598.toInt) (Y := 2) rfl (by decide) (by decide)
      have bv599 : -1073741825 ≤ v599.toInt ∧ v599.toInt ≤ 1073741824 := by omega
      refine xi_idiv (pc' := 52) (v := v599) kc_128_51 rfl ev599 (by decide) ?_
      refine xi_istore (pc' := 54) (lv' := [(8, .int v599), (7, .int v596), (6, .int v592), (5, .ref 20), (0, .ref 1), (1, .ref 63), (2, .int 3), (3, .int x3), (4, .int x4)]) kc_128_52 rfl rfl (xm_lt ml_128 rfl) ?_
      refine xi_iload (pc' := 56) (x := v592) kc_128_54 rfl rfl ?_
      refine xi_iload (pc' := 58) (x := v592) kc_128_56 rfl rfl ?_
      refine xi_iload (pc' := 60) (x := v599) kc_128_58 rfl rfl ?_
      obtain ⟨v600, ev600⟩ : ∃ q : Int32, (v592 : Int32) - v599 = q := ⟨_, rfl⟩
      have rv600 := xc_rng v600
      refine xi_isub (pc' := 61) (v := v600) kc_128_60 rfl ev600 ?_
      refine xi_aload (pc' := 63) (x := 20) kc_128_61 rfl rfl ?_
      refine xi_virtual (mj := 129) (as := []) (st1 := [.int v600, .int v592]) (lv0 := [(0, .ref 20)]) kc_128_63 rfl rfl rfl rfl rfl A593 (Nat.le_of_ble_eq_true rfl) (hJ _ _ _ _ (by decide)) (xm_le ml_129 rfl) rfl ?_
      refine xi_aload_n (pc' := 1) (x := 20) kc_129_0 rfl rfl ?_
      refine xi_getfield (pc' := 4) (v := .ref 21) kc_129_1 rfl rfl rfl A593 rfl ?_
      refine xi_iconst (pc' := 5) (v := 2) kc_129_4 rfl rfl ?_
      obtain ⟨v601, ev601, bv601, dv601⟩ := xj_get hy594 ry594 (i := 2) (by decide) (by decide)
      refine xi_iaload (pc' := 6) (v := v601) kc_129_5 rfl A594 (by decide) rfl (xi_in (by decide) (by rw [hy594]; decide)) ev601 ?_
      have hlv601 : v601.toInt = (st 3) 2 := xrp_ldc R595 (k := 2) (by decide) (by decide) ev601
      have brv601 : 0 ≤ v601.toInt ∧ v601.toInt ≤ 99 := by have := hq 3 (by omega); omega
      refine xi_aload_n (pc' := 7) (x := 20) kc_129_6 rfl rfl ?_
      refine xi_getfield (pc' := 10) (v := .ref 21) kc_129_7 rfl rfl rfl A593 rfl ?_
      refine xi_iconst (pc' := 11) (v := 4) kc_129_10 rfl rfl ?_
      obtain ⟨v602, ev602, bv602, dv602⟩ := xj_get hy594 ry594 (i := 4) (by decide) (by decide)
      refine xi_iaload (pc' := 12) (v := v602) kc_129_11 rfl A594 (by decide) rfl (xi_in (by decide) (by rw [hy594]; decide)) ev602 ?_
      have hlv602 : v602.toInt = (st 3) 4 := xrp_ldc R595 (k := 4) (by decide) (by decide) ev602
      have brv602 : 0 ≤ v602.toInt ∧ v602.toInt ≤ 99 := by have := hq 3 (by omega); omega
      refine xi_iconst (pc' := 13) (v := 1) kc_129_12 rfl rfl ?_
      by_cases c603 : v602.toInt = 1
      · refine xi_cmf (pc' := 16) kc_129_13 rfl (xc_ne_f (X := v602.toInt) (Y := 1) rfl (by decide) (by omega)) ?_
        refine xi_aload_n (pc' := 17) (x := 20) kc_129_16 rfl rfl ?_
        refine xi_getfield (pc' := 20) (v := .ref 21) kc_129_17 rfl rfl rfl A593 rfl ?_
        refine xi_iconst (pc' := 21) (v := 3) kc_129_20 rfl rfl ?_
        obtain ⟨v604, ev604, bv604, dv604⟩ := xj_get hy594 ry594 (i := 3) (by decide) (by decide)
        refine xi_iaload (pc' := 22) (v := v604) kc_129_21 rfl A594 (by decide) rfl (xi_in (by decide) (by rw [hy594]; decide)) ev604 ?_
        have hlv604 : v604.toInt = (st 3) 3 := xrp_ldc R595 (k := 3) (by decide) (by decide) ev604
        have brv604 : 0 ≤ v604.toInt ∧ v604.toInt ≤ 99 := by have := hq 3 (by omega); omega
        refine xi_goto (pc' := 26) kc_129_22 rfl ?_
        obtain ⟨v605, ev605⟩ : ∃ q : Int32, v601 + v604 = q := ⟨_, rfl⟩
        have zv605 : v605.toInt = (v601.toInt + v604.toInt) := by rw [← ev605]; exact (xz_add (X := v601.toInt) (Y := v604.toInt) rfl rfl (by omega) (by omega)).trans (by omega)
        refine xi_iadd (pc' := 27) (v := v605) kc_129_26 rfl ev605 ?_
        refine xi_ireturn kc_129_27 mr_129 rfl ?_
        show xw J ov (d + 4) 128 (66, [(8, .int v599), (7, .int v596), (6, .int v592), (5, .ref 20), (0, .ref 1), (1, .ref 63), (2, .int 3), (3, .int x3), (4, .int x4)], [.int v605, .int v600, .int v592], hh588) _
        obtain ⟨v606, ev606⟩ : ∃ q : Int32, (v600 : Int32) * v605 = q := ⟨_, rfl⟩
        have rv606 := xc_rng v606
        refine xi_imul (pc' := 67) (v := v606) kc_128_66 rfl ev606 ?_
        refine xi_bipush (pc' := 69) (v := 100) kc_128_67 rfl rfl ?_
        obtain ⟨v607, ev607⟩ : ∃ q : Int32, v606 / 100 = q := ⟨_, rfl⟩
        have dv607 : 100 * v607.toInt ≤ v606.toInt + 99 ∧ v606.toInt ≤ 100 * v607.toInt + 99 := by rw [← ev607]; exact xz_div (X := v606.toInt) (Y := 100) rfl (by decide) (by decide)
        have bv607 : -21474837 ≤ v607.toInt ∧ v607.toInt ≤ 21474837 := by omega
        refine xi_idiv (pc' := 70) (v := v607) kc_128_69 rfl ev607 (by decide) ?_
        obtain ⟨v608, ev608⟩ : ∃ q : Int32, (v592 : Int32) - v607 = q := ⟨_, rfl⟩
        have rv608 := xc_rng v608
        refine xi_isub (pc' := 71) (v := v608) kc_128_70 rfl ev608 ?_
        refine xi_istore (pc' := 73) (lv' := [(6, .int v608), (8, .int v599), (7, .int v596), (5, .ref 20), (0, .ref 1), (1, .ref 63), (2, .int 3), (3, .int x3), (4, .int x4)]) kc_128_71 rfl rfl (xm_lt ml_128 rfl) ?_
        refine xi_aload (pc' := 75) (x := 20) kc_128_73 rfl rfl ?_
        refine xi_getfield (pc' := 78) (v := .ref 21) kc_128_75 rfl rfl rfl A593 rfl ?_
        refine xi_iconst (pc' := 79) (v := 1) kc_128_78 rfl rfl ?_
        obtain ⟨v609, ev609, bv609, dv609⟩ := xj_get hy594 ry594 (i := 1) (by decide) (by decide)
        refine xi_iaload (pc' := 80) (v := v609) kc_128_79 rfl A594 (by decide) rfl (xi_in (by decide) (by rw [hy594]; decide)) ev609 ?_
        have hlv609 : v609.toInt = (st 3) 1 := xrp_ldc R595 (k := 1) (by decide) (by decide) ev609
        have brv609 : 0 ≤ v609.toInt ∧ v609.toInt ≤ 99 := by have := hq 3 (by omega); omega
        refine xi_istore (pc' := 82) (lv' := [(9, .int v609), (6, .int v608), (8, .int v599), (7, .int v596), (5, .ref 20), (0, .ref 1), (1, .ref 63), (2, .int 3), (3, .int x3), (4, .int x4)]) kc_128_80 rfl rfl (xm_lt ml_128 rfl) ?_
        refine xi_iload (pc' := 84) (x := v596) kc_128_82 rfl rfl ?_
        refine xi_iload (pc' := 86) (x := v609) kc_128_84 rfl rfl ?_
        refine xi_static (mj := 102) (as := [.int v609]) (st1 := [.int v596]) (lv0 := [(0, .int v609)]) kc_128_86 rfl rfl (Nat.le_of_ble_eq_true rfl) rfl rfl (Nat.le_of_ble_eq_true rfl) (hJ _ _ _ _ (by decide)) (xm_le ml_102 rfl) rfl ?_
        refine xw_gx hJ hov1 hov2 (d := d + 1) (x0 := v609) (by omega) (fun r610 hr610 br610 => ?_)
        show xw J ov (d + 4) 128 (89, [(9, .int v609), (6, .int v608), (8, .int v599), (7, .int v596), (5, .ref 20), (0, .ref 1), (1, .ref 63), (2, .int 3), (3, .int x3), (4, .int x4)], [.int r610, .int v596], hh588) _
        obtain ⟨v611, ev611⟩ : ∃ q : Int32, (v596 : Int32) * r610 = q := ⟨_, rfl⟩
        have rv611 := xc_rng v611
        refine xi_imul (pc' := 90) (v := v611) kc_128_89 rfl ev611 ?_
        refine xi_istore (pc' := 92) (lv' := [(10, .int v611), (9, .int v609), (6, .int v608), (8, .int v599), (7, .int v596), (5, .ref 20), (0, .ref 1), (1, .ref 63), (2, .int 3), (3, .int x3), (4, .int x4)]) kc_128_90 rfl rfl (xm_lt ml_128 rfl) ?_
        refine xi_iload (pc' := 94) (x := v608) kc_128_92 rfl rfl ?_
        refine xi_iload (pc' := 96) (x := v611) kc_128_94 rfl rfl ?_
        by_cases c612 : v608.toInt ≤ v611.toInt
        · refine xi_cmt (pc' := 119) kc_128_96 rfl (xc_le_t (X := v608.toInt) (Y := v611.toInt) rfl rfl (by omega)) ?_
          refine xi_aload_n (pc' := 120) (x := 63) kc_128_119 rfl rfl ?_
          refine xi_getfield (pc' := 123) (v := .ref 64) kc_128_120 rfl rfl rfl A591 rfl ?_
          refine xi_iload_n (pc' := 124) (x := 3) kc_128_123 rfl rfl ?_
          refine xi_iload (pc' := 126) (x := v608) kc_128_124 rfl rfl ?_
          obtain ⟨y613, s613, hy613, ry613⟩ := xj_set (v := v608) hy588 ry588 3 (by first | omega | decide) (by first | omega | decide)
          refine xi_iastore (pc' := 127) (x' := y613) kc_128_126 rfl eh588.1 rfl (xi_in (by decide) (by rw [hy588]; decide)) s613 (fun hh613 eh613 => ?_)
          have K614 := xk_pa K589 (xk_wa (by decide +kernel)) xD_64 hy613 ry613 eh613
          have R615 : xrp y613 6 (xup (xup gw 3 (v586 : Int32).toInt) 3 (v608 : Int32).toInt) := xrp_setc R590 s613 (by decide) rfl
          refine xi_return kc_128_127 mr_128 ?_
          have hqr := hq 3 (by omega)
          have hwr := hw 3 (by omega)
          have em : Int32.toNatClampNeg v575 = (hr % 24).toNat := xcl3 (by omega) (by omega)
          have hmr : 0 ≤ C 23 (hr % 24).toNat ∧ C 23 (hr % 24).toNat ≤ 999 := hC.2.2.2.2.2 3 (by omega) (hr % 24).toNat (by omega)
          rw [em] at hlv579
          have n1 : Int32.toNatClampNeg 3 = 3 := by decide
          rw [n1] at kk
          have zc99999 : (99999 : Int32).toInt = 99999 := by decide
          have ew : (v592 : Int32).toInt = xcap (gw 3 + C 23 (hr % 24).toNat) := xcap_is (fun z => by omega) (fun z => by omega)
          have hfan := xc_of_fan hq (show 3 < 6 by omega)
          have ec : (v605 : Int32).toInt = st 3 2 + (if st 3 4 = 1 then st 3 3 else 0) := by rw [if_pos (show st 3 4 = 1 by omega)]; omega
          have hcb := xho_b b4.1 b4.2
          have eg : (r610 : Int32).toInt = xho (st 3 1) := by rw [hr610, show (v609 : Int32).toInt = st 3 1 by omega]
          obtain ⟨ha1, ha2, ha3, ha4⟩ := xair ew (show (v596 : Int32).toInt = st 3 0 by omega) hr597 ec eg (xcap_b (by omega)) hqr.1 ⟨by omega, by omega⟩ hfan ⟨by omega, by omega⟩ ev598 ev599 ev600 ev606 ev607 ev608 ev611
          have hv := xro_v ha1 ha3
          have hW := xrp_fn R615 (show _ = (xup gw 3 (xro (gw 3) (C 23 (hr % 24).toNat) (st 3 0) (st 3 1) (st 3 2 + (if st 3 4 = 1 then st 3 3 else 0)) (xho x4.toInt))) from (congrArg (xup _ 3) (show (v608 : Int32).toInt = _ from hv.2 (by omega))).trans xup_2)
          exact kk hh613 K614 (xra_mk eh613.1 hW)
        · refine xi_cmf (pc' := 99) kc_128_96 rfl (xc_le_f (X := v608.toInt) (Y := v611.toInt) rfl rfl (by omega)) ?_
          refine xi_aload_n (pc' := 100) (x := 1) kc_128_99 rfl rfl ?_
          refine xi_aload_n (pc' := 101) (x := 63) kc_128_100 rfl rfl ?_
          refine xi_iload_n (pc' := 102) (x := 3) kc_128_101 rfl rfl ?_
          refine xi_iload (pc' := 104) (x := v608) kc_128_102 rfl rfl ?_
          refine xi_iload (pc' := 106) (x := v611) kc_128_104 rfl rfl ?_
          obtain ⟨v616, ev616⟩ : ∃ q : Int32, (v608 : Int32) - v611 = q := ⟨_, rfl⟩
          have rv616 := xc_rng v616
          refine xi_isub (pc' := 107) (v := v616) kc_128_106 rfl ev616 ?_
          refine xi_iload (pc' := 109) (x := v609) kc_128_107 rfl rfl ?_
          refine xi_iload (pc' := 111) (x := x4) kc_128_109 rfl rfl ?_
          obtain ⟨v617, ev617⟩ : ∃ q : Int32, v609 - x4 = q := ⟨_, rfl⟩
          have zv617 : v617.toInt = (v609.toInt + (-1) * x4.toInt) := by rw [← ev617]; exact (xz_sub (X := v609.toInt) (Y := x4.toInt) rfl rfl (by omega) (by omega)).trans (by omega)
          refine xi_isub (pc' := 112) (v := v617) kc_128_111 rfl ev617 ?_
          have A618 := ((eh588.2.1 1 (by decide)).trans A3)
          refine xi_virtual (mj := 130) (as := [.ref 63, .int 3, .int v616, .int v617]) (st1 := []) (lv0 := [(0, .ref 1), (1, .ref 63), (2, .int 3), (3, .int v616), (4, .int v617)]) kc_128_112 rfl rfl rfl rfl rfl A618 (Nat.le_of_ble_eq_true rfl) (hJ _ _ _ _ (by decide)) (xm_le ml_130 rfl) rfl ?_
          have zc3 : (3 : Int32).toInt = 3 := by decide
          refine mt_130_0 hJ hov1 hov2 (d := d + 1) (x2 := 3) (x3 := v616) (x4 := v617) K589.1 (by first | omega | decide) (fun hh620 K621 => ?_)
          have A622 := ((eh588.2.1 22 (by decide)).trans A577)
          have K623 := xk_tr K589 K621 (xsb_ok _ _ (by decide +kernel))
          obtain ⟨u624, u625, bu624, bu625, A626⟩ := xq_1 K623.1
          have C627 : xcX hh620 C := xcX_k C0 K623 (by decide +kernel)
          have hfu624 : u624.toInt = (C 11 0) := xfi_ld C627.1 A626 rfl
          have e628 : u1 = u624 := xk_eqi (q := 5) K621 (by decide +kernel) A618 A626 rfl rfl
          subst e628
          have A629 := xk_eqa (q := 0) K621 (by decide +kernel) A622
          obtain ⟨u630, u631, bu630, bu631, A632⟩ := xq_63 K623.1
          have hfu631 : u631.toInt = 63 := xfi_ld C627.2.2.2.2.2.2.2.2.2.2.2.2.2.2.2.2.2.2.2 A632 rfl
          have e633 : u580 = u630 := xk_eqi (q := 2) K621 (by decide +kernel) A591 A632 rfl rfl
          subst e633
          have e634 : u581 = u631 := xk_eqi (q := 3) K621 (by decide +kernel) A591 A632 rfl rfl
          subst e634
          have A635 := xk_eqa (q := 0) K621 (by decide +kernel) eh588.1
          have A636 := xk_eqa (q := 0) K621 (by decide +kernel) A594
          show xw J ov (d + 4) 128 (115, [(10, .int v611), (9, .int v609), (6, .int v608), (8, .int v599), (7, .int v596), (5, .ref 20), (0, .ref 1), (1, .ref 63), (2, .int 3), (3, .int x3), (4, .int x4)], [], hh620) _
          refine xi_iload (pc' := 117) (x := v611) kc_128_115 rfl rfl ?_
          refine xi_istore (pc' := 119) (lv' := [(6, .int v611), (10, .int v611), (9, .int v609), (8, .int v599), (7, .int v596), (5, .ref 20), (0, .ref 1), (1, .ref 63), (2, .int 3), (3, .int x3), (4, .int x4)]) kc_128_117 rfl rfl (xm_lt ml_128 rfl) ?_
          refine xi_aload_n (pc' := 120) (x := 63) kc_128_119 rfl rfl ?_
          refine xi_getfield (pc' := 123) (v := .ref 64) kc_128_120 rfl rfl rfl A632 rfl ?_
          refine xi_iload_n (pc' := 124) (x := 3) kc_128_123 rfl rfl ?_
          refine xi_iload (pc' := 126) (x := v611) kc_128_124 rfl rfl ?_
          obtain ⟨y637, s637, hy637, ry637⟩ := xj_set (v := v611) hy588 ry588 3 (by first | omega | decide) (by first | omega | decide)
          refine xi_iastore (pc' := 127) (x' := y637) kc_128_126 rfl A635 rfl (xi_in (by decide) (by rw [hy588]; decide)) s637 (fun hh637 eh637 => ?_)
          have K638 := xk_pa K623 (xk_wa (by decide +kernel)) xD_64 hy637 ry637 eh637
          have R639 : xrp y637 6 (xup (xup gw 3 (v586 : Int32).toInt) 3 (v611 : Int32).toInt) := xrp_setc R590 s637 (by decide) rfl
          refine xi_return kc_128_127 mr_128 ?_
          have hqr := hq 3 (by omega)
          have hwr := hw 3 (by omega)
          have em : Int32.toNatClampNeg v575 = (hr % 24).toNat := xcl3 (by omega) (by omega)
          have hmr : 0 ≤ C 23 (hr % 24).toNat ∧ C 23 (hr % 24).toNat ≤ 999 := hC.2.2.2.2.2 3 (by omega) (hr % 24).toNat (by omega)
          rw [em] at hlv579
          have n1 : Int32.toNatClampNeg 3 = 3 := by decide
          rw [n1] at kk
          have zc99999 : (99999 : Int32).toInt = 99999 := by decide
          have ew : (v592 : Int32).toInt = xcap (gw 3 + C 23 (hr % 24).toNat) := xcap_is (fun z => by omega) (fun z => by omega)
          have hfan := xc_of_fan hq (show 3 < 6 by omega)
          have ec : (v605 : Int32).toInt = st 3 2 + (if st 3 4 = 1 then st 3 3 else 0) := by rw [if_pos (show st 3 4 = 1 by omega)]; omega
          have hcb := xho_b b4.1 b4.2
          have eg : (r610 : Int32).toInt = xho (st 3 1) := by rw [hr610, show (v609 : Int32).toInt = st 3 1 by omega]
          obtain ⟨ha1, ha2, ha3, ha4⟩ := xair ew (show (v596 : Int32).toInt = st 3 0 by omega) hr597 ec eg (xcap_b (by omega)) hqr.1 ⟨by omega, by omega⟩ hfan ⟨by omega, by omega⟩ ev598 ev599 ev600 ev606 ev607 ev608 ev611
          have hv := xro_v ha1 ha3
          have hW := xrp_fn R639 (show _ = (xup gw 3 (xro (gw 3) (C 23 (hr % 24).toNat) (st 3 0) (st 3 1) (st 3 2 + (if st 3 4 = 1 then st 3 3 else 0)) (xho x4.toInt))) from (congrArg (xup _ 3) (show (v611 : Int32).toInt = _ from hv.1 (by omega))).trans xup_2)
          exact kk hh637 K638 (xra_mk eh637.1 hW)
      · refine xi_cmt (pc' := 25) kc_129_13 rfl (xc_ne_t (X := v602.toInt) (Y := 1) rfl (by decide) (by omega)) ?_
        refine xi_iconst (pc' := 26) (v := 0) kc_129_25 rfl rfl ?_
        obtain ⟨v640, ev640⟩ : ∃ q : Int32, v601 + 0 = q := ⟨_, rfl⟩
        have zv640 : v640.toInt = v601.toInt := by rw [← ev640]; exact (xz_add (X := v601.toInt) (Y := 0) rfl (by decide) (by omega) (by omega)).trans (by omega)
        refine xi_iadd (pc' := 27) (v := v640) kc_129_26 rfl ev640 ?_
        refine xi_ireturn kc_129_27 mr_129 rfl ?_
        show xw J ov (d + 4) 128 (66, [(8, .int v599), (7, .int v596), (6, .int v592), (5, .ref 20), (0, .ref 1), (1, .ref 63), (2, .int 3), (3, .int x3), (4, .int x4)], [.int v640, .int v600, .int v592], hh588) _
        obtain ⟨v641, ev641⟩ : ∃ q : Int32, (v600 : Int32) * v640 = q := ⟨_, rfl⟩
        have rv641 := xc_rng v641
        refine xi_imul (pc' := 67) (v := v641) kc_128_66 rfl ev641 ?_
        refine xi_bipush (pc' := 69) (v := 100) kc_128_67 rfl rfl ?_
        obtain ⟨v642, ev642⟩ : ∃ q : Int32, v641 / 100 = q := ⟨_, rfl⟩
        have dv642 : 100 * v642.toInt ≤ v641.toInt + 99 ∧ v641.toInt ≤ 100 * v642.toInt + 99 := by rw [← ev642]; exact xz_div (X := v641.toInt) (Y := 100) rfl (by decide) (by decide)
        have bv642 : -21474837 ≤ v642.toInt ∧ v642.toInt ≤ 21474837 := by omega
        refine xi_idiv (pc' := 70) (v := v642) kc_128_69 rfl ev642 (by decide) ?_
        obtain ⟨v643, ev643⟩ : ∃ q : Int32, (v592 : Int32) - v642 = q := ⟨_, rfl⟩
        have rv643 := xc_rng v643
        refine xi_isub (pc' := 71) (v := v643) kc_128_70 rfl ev643 ?_
        refine xi_istore (pc' := 73) (lv' := [(6, .int v643), (8, .int v599), (7, .int v596), (5, .ref 20), (0, .ref 1), (1, .ref 63), (2, .int 3), (3, .int x3), (4, .int x4)]) kc_128_71 rfl rfl (xm_lt ml_128 rfl) ?_
        refine xi_aload (pc' := 75) (x := 20) kc_128_73 rfl rfl ?_
        refine xi_getfield (pc' := 78) (v := .ref 21) kc_128_75 rfl rfl rfl A593 rfl ?_
        refine xi_iconst (pc' := 79) (v := 1) kc_128_78 rfl rfl ?_
        obtain ⟨v644, ev644, bv644, dv644⟩ := xj_get hy594 ry594 (i := 1) (by decide) (by decide)
        refine xi_iaload (pc' := 80) (v := v644) kc_128_79 rfl A594 (by decide) rfl (xi_in (by decide) (by rw [hy594]; decide)) ev644 ?_
        have hlv644 : v644.toInt = (st 3) 1 := xrp_ldc R595 (k := 1) (by decide) (by decide) ev644
        have brv644 : 0 ≤ v644.toInt ∧ v644.toInt ≤ 99 := by have := hq 3 (by omega); omega
        refine xi_istore (pc' := 82) (lv' := [(9, .int v644), (6, .int v643), (8, .int v599), (7, .int v596), (5, .ref 20), (0, .ref 1), (1, .ref 63), (2, .int 3), (3, .int x3), (4, .int x4)]) kc_128_80 rfl rfl (xm_lt ml_128 rfl) ?_
        refine xi_iload (pc' := 84) (x := v596) kc_128_82 rfl rfl ?_
        refine xi_iload (pc' := 86) (x := v644) kc_128_84 rfl rfl ?_
        refine xi_static (mj := 102) (as := [.int v644]) (st1 := [.int v596]) (lv0 := [(0, .int v644)]) kc_128_86 rfl rfl (Nat.le_of_ble_eq_true rfl) rfl rfl (Nat.le_of_ble_eq_true rfl) (hJ _ _ _ _ (by decide)) (xm_le ml_102 rfl) rfl ?_
        refine xw_gx hJ hov1 hov2 (d := d + 1) (x0 := v644) (by omega) (fun r645 hr645 br645 => ?_)
        show xw J ov (d + 4) 128 (89, [(9, .int v644), (6, .int v643), (8, .int v599), (7, .int v596), (5, .ref 20), (0, .ref 1), (1, .ref 63), (2, .int 3), (3, .int x3), (4, .int x4)], [.int r645, .int v596], hh588) _
        obtain ⟨v646, ev646⟩ : ∃ q : Int32, (v596 : Int32) * r645 = q := ⟨_, rfl⟩
        have rv646 := xc_rng v646
        refine xi_imul (pc' := 90) (v := v646) kc_128_89 rfl ev646 ?_
        refine xi_istore (pc' := 92) (lv' := [(10, .int v646), (9, .int v644), (6, .int v643), (8, .int v599), (7, .int v596), (5, .ref 20), (0, .ref 1), (1, .ref 63), (2, .int 3), (3, .int x3), (4, .int x4)]) kc_128_90 rfl rfl (xm_lt ml_128 rfl) ?_
        refine xi_iload (pc' := 94) (x := v643) kc_128_92 rfl rfl ?_
        refine xi_iload (pc' := 96) (x := v646) kc_128_94 rfl rfl ?_
        by_cases c647 : v643.toInt ≤ v646.toInt
        · refine xi_cmt (pc' := 119) kc_128_96 rfl (xc_le_t (X := v643.toInt) (Y := v646.toInt) rfl rfl (by omega)) ?_
          refine xi_aload_n (pc' := 120) (x := 63) kc_128_119 rfl rfl ?_
          refine xi_getfield (pc' := 123) (v := .ref 64) kc_128_120 rfl rfl rfl A591 rfl ?_
          refine xi_iload_n (pc' := 124) (x := 3) kc_128_123 rfl rfl ?_
          refine xi_iload (pc' := 126) (x := v643) kc_128_124 rfl rfl ?_
          obtain ⟨y648, s648, hy648, ry648⟩ := xj_set (v := v643) hy588 ry588 3 (by first | omega | decide) (by first | omega | decide)
          refine xi_iastore (pc' := 127) (x' := y648) kc_128_126 rfl eh588.1 rfl (xi_in (by decide) (by rw [hy588]; decide)) s648 (fun hh648 eh648 => ?_)
          have K649 := xk_pa K589 (xk_wa (by decide +kernel)) xD_64 hy648 ry648 eh648
          have R650 : xrp y648 6 (xup (xup gw 3 (v586 : Int32).toInt) 3 (v643 : Int32).toInt) := xrp_setc R590 s648 (by decide) rfl
          refine xi_return kc_128_127 mr_128 ?_
          have hqr := hq 3 (by omega)
          have hwr := hw 3 (by omega)
          have em : Int32.toNatClampNeg v575 = (hr % 24).toNat := xcl3 (by omega) (by omega)
          have hmr : 0 ≤ C 23 (hr % 24).toNat ∧ C 23 (hr % 24).toNat ≤ 999 := hC.2.2.2.2.2 3 (by omega) (hr % 24).toNat (by omega)
          rw [em] at hlv579
          have n1 : Int32.toNatClampNeg 3 = 3 := by decide
          rw [n1] at kk
          have zc99999 : (99999 : Int32).toInt = 99999 := by decide
          have ew : (v592 : Int32).toInt = xcap (gw 3 + C 23 (hr % 24).toNat) := xcap_is (fun z => by omega) (fun z => by omega)
          have hfan := xc_of_fan hq (show 3 < 6 by omega)
          have ec : (v640 : Int32).toInt = st 3 2 + (if st 3 4 = 1 then st 3 3 else 0) := by rw [if_neg (show ¬ st 3 4 = 1 by omega)]; omega
          have hcb := xho_b b4.1 b4.2
          have eg : (r645 : Int32).toInt = xho (st 3 1) := by rw [hr645, show (v644 : Int32).toInt = st 3 1 by omega]
          obtain ⟨ha1, ha2, ha3, ha4⟩ := xair ew (show (v596 : Int32).toInt = st 3 0 by omega) hr597 ec eg (xcap_b (by omega)) hqr.1 ⟨by omega, by omega⟩ hfan ⟨by omega, by omega⟩ ev598 ev599 ev600 ev641 ev642 ev643 ev646
          have hv := xro_v ha1 ha3
          have hW := xrp_fn R650 (show _ = (xup gw 3 (xro (gw 3) (C 23 (hr % 24).toNat) (st 3 0) (st 3 1) (st 3 2 + (if st 3 4 = 1 then st 3 3 else 0)) (xho x4.toInt))) from (congrArg (xup _ 3) (show (v643 : Int32).toInt = _ from hv.2 (by omega))).trans xup_2)
          exact kk hh648 K649 (xra_mk eh648.1 hW)
        · refine xi_cmf (pc' := 99) kc_128_96 rfl (xc_le_f (X := v643.toInt) (Y := v646.toInt) rfl rfl (by omega)) ?_
          refine xi_aload_n (pc' := 100) (x := 1) kc_128_99 rfl rfl ?_
          refine xi_aload_n (pc' := 101) (x := 63) kc_128_100 rfl rfl ?_
          refine xi_iload_n (pc' := 102) (x := 3) kc_128_101 rfl rfl ?_
          refine xi_iload (pc' := 104) (x := v643) kc_128_102 rfl rfl ?_
          refine xi_iload (pc' := 106) (x := v646) kc_128_104 rfl rfl ?_
          obtain ⟨v651, ev651⟩ : ∃ q : Int32, (v643 : Int32) - v646 = q := ⟨_, rfl⟩
          have rv651 := xc_rng v651
          refine xi_isub (pc' := 107) (v := v651) kc_128_106 rfl ev651 ?_
          refine xi_iload (pc' := 109) (x := v644) kc_128_107 rfl rfl ?_
          refine xi_iload (pc' := 111) (x := x4) kc_128_109 rfl rfl ?_
          obtain ⟨v652, ev652⟩ : ∃ q : Int32, v644 - x4 = q := ⟨_, rfl⟩
          have zv652 : v652.toInt = (v644.toInt + (-1) * x4.toInt) := by rw [← ev652]; exact (xz_sub (X := v644.toInt) (Y := x4.toInt) rfl rfl (by omega) (by omega)).trans (by omega)
          refine xi_isub (pc' := 112) (v := v652) kc_128_111 rfl ev652 ?_
          have A653 := ((eh588.2.1 1 (by decide)).trans A3)
          refine xi_virtual (mj := 130) (as := [.ref 63, .int 3, .int v651, .int v652]) (st1 := []) (lv0 := [(0, .ref 1), (1, .ref 63), (2, .int 3), (3, .int v651), (4, .int v652)]) kc_128_112 rfl rfl rfl rfl rfl A653 (Nat.le_of_ble_eq_true rfl) (hJ _ _ _ _ (by decide)) (xm_le ml_130 rfl) rfl ?_
          have zc3 : (3 : Int32).toInt = 3 := by decide
          refine mt_130_0 hJ hov1 hov2 (d := d + 1) (x2 := 3) (x3 := v651) (x4 := v652) K589.1 (by first | omega | decide) (fun hh655 K656 => ?_)
          have A657 := ((eh588.2.1 22 (by decide)).trans A577)
          have K658 := xk_tr K589 K656 (xsb_ok _ _ (by decide +kernel))
          obtain ⟨u659, u660, bu659, bu660, A661⟩ := xq_1 K658.1
          have C662 : xcX hh655 C := xcX_k C0 K658 (by decide +kernel)
          have hfu659 : u659.toInt = (C 11 0) := xfi_ld C662.1 A661 rfl
          have e663 : u1 = u659 := xk_eqi (q := 5) K656 (by decide +kernel) A653 A661 rfl rfl
          subst e663
          have A664 := xk_eqa (q := 0) K656 (by decide +kernel) A657
          obtain ⟨u665, u666, bu665, bu666, A667⟩ := xq_63 K658.1
          have hfu666 : u666.toInt = 63 := xfi_ld C662.2.2.2.2.2.2.2.2.2.2.2.2.2.2.2.2.2.2.2 A667 rfl
          have e668 : u580 = u665 := xk_eqi (q := 2) K656 (by decide +kernel) A591 A667 rfl rfl
          subst e668
          have e669 : u581 = u666 := xk_eqi (q := 3) K656 (by decide +kernel) A591 A667 rfl rfl
          subst e669
          have A670 := xk_eqa (q := 0) K656 (by decide +kernel) eh588.1
          have A671 := xk_eqa (q := 0) K656 (by decide +kernel) A594
          show xw J ov (d + 4) 128 (115, [(10, .int v646), (9, .int v644), (6, .int v643), (8, .int v599), (7, .int v596), (5, .ref 20), (0, .ref 1), (1, .ref 63), (2, .int 3), (3, .int x3), (4, .int x4)], [], hh655) _
          refine xi_iload (pc' := 117) (x := v646) kc_128_115 rfl rfl ?_
          refine xi_istore (pc' := 119) (lv' := [(6, .int v646), (10, .int v646), (9, .int v644), (8, .int v599), (7, .int v596), (5, .ref 20), (0, .ref 1), (1, .ref 63), (2, .int 3), (3, .int x3), (4, .int x4)]) kc_128_117 rfl rfl (xm_lt ml_128 rfl) ?_
          refine xi_aload_n (pc' := 120) (x := 63) kc_128_119 rfl rfl ?_
          refine xi_getfield (pc' := 123) (v := .ref 64) kc_128_120 rfl rfl rfl A667 rfl ?_
          refine xi_iload_n (pc' := 124) (x := 3) kc_128_123 rfl rfl ?_
          refine xi_iload (pc' := 126) (x := v646) kc_128_124 rfl rfl ?_
          obtain ⟨y672, s672, hy672, ry672⟩ := xj_set (v := v646) hy588 ry588 3 (by first | omega | decide) (by first | omega | decide)
          refine xi_iastore (pc' := 127) (x' := y672) kc_128_126 rfl A670 rfl (xi_in (by decide) (by rw [hy588]; decide)) s672 (fun hh672 eh672 => ?_)
          have K673 := xk_pa K658 (xk_wa (by decide +kernel)) xD_64 hy672 ry672 eh672
          have R674 : xrp y672 6 (xup (xup gw 3 (v586 : Int32).toInt) 3 (v646 : Int32).toInt) := xrp_setc R590 s672 (by decide) rfl
          refine xi_return kc_128_127 mr_128 ?_
          have hqr := hq 3 (by omega)
          have hwr := hw 3 (by omega)
          have em : Int32.toNatClampNeg v575 = (hr % 24).toNat := xcl3 (by omega) (by omega)
          have hmr : 0 ≤ C 23 (hr % 24).toNat ∧ C 23 (hr % 24).toNat ≤ 999 := hC.2.2.2.2.2 3 (by omega) (hr % 24).toNat (by omega)
          rw [em] at hlv579
          have n1 : Int32.toNatClampNeg 3 = 3 := by decide
          rw [n1] at kk
          have zc99999 : (99999 : Int32).toInt = 99999 := by decide
          have ew : (v592 : Int32).toInt = xcap (gw 3 + C 23 (hr % 24).toNat) := xcap_is (fun z => by omega) (fun z => by omega)
          have hfan := xc_of_fan hq (show 3 < 6 by omega)
          have ec : (v640 : Int32).toInt = st 3 2 + (if st 3 4 = 1 then st 3 3 else 0) := by rw [if_neg (show ¬ st 3 4 = 1 by omega)]; omega
          have hcb := xho_b b4.1 b4.2
          have eg : (r645 : Int32).toInt = xho (st 3 1) := by rw [hr645, show (v644 : Int32).toInt = st 3 1 by omega]
          obtain ⟨ha1, ha2, ha3, ha4⟩ := xair ew (show (v596 : Int32).toInt = st 3 0 by omega) hr597 ec eg (xcap_b (by omega)) hqr.1 ⟨by omega, by omega⟩ hfan ⟨by omega, by omega⟩ ev598 ev599 ev600 ev641 ev642 ev643 ev646
          have hv := xro_v ha1 ha3
          have hW := xrp_fn R674 (show _ = (xup gw 3 (xro (gw 3) (C 23 (hr % 24).toNat) (st 3 0) (st 3 1) (st 3 2 + (if st 3 4 = 1 then st 3 3 else 0)) (xho x4.toInt))) from (congrArg (xup _ 3) (show (v646 : Int32).toInt = _ from hv.1 (by omega))).trans xup_2)
          exact kk hh672 K673 (xra_mk eh672.1 hW)
    · refine xi_cmf (pc' := 33) kc_127_30 rfl (xc_le_f (X := (v585.toInt + v579.toInt)) (Y := 99999) zv586 (by decide) (by omega)) ?_
      refine xi_ldc (pc' := 35) (v := 99999) kc_127_33 rfl rfl ?_
      refine xi_goto (pc' := 39) kc_127_35 rfl ?_
      obtain ⟨y675, s675, hy675, ry675⟩ := xj_set (v := 99999) hy583 ry583 3 (by first | omega | decide) (by first | omega | decide)
      refine xi_iastore (pc' := 40) (x' := y675) kc_127_39 rfl A583 rfl (xi_in (by decide) (by rw [hy583]; decide)) s675 (fun hh675 eh675 => ?_)
      have K676 := xk_pa K (xk_wa (by decide +kernel)) xD_64 hy675 ry675 eh675
      have R677 : xrp y675 6 (xup gw 3 (99999 : Int32).toInt) := xrp_setc R584 s675 (by decide) rfl
      refine xi_return kc_127_40 mr_127 ?_
      show xw J ov (d + 4) 128 (25, [(5, .ref 20), (0, .ref 1), (1, .ref 63), (2, .int 3), (3, .int x3), (4, .int x4)], [], hh675) _
      refine xi_aload_n (pc' := 26) (x := 63) kc_128_25 rfl rfl ?_
      have A678 := ((eh675.2.1 63 (by decide)).trans A582)
      refine xi_getfield (pc' := 29) (v := .ref 64) kc_128_26 rfl rfl rfl A678 rfl ?_
      refine xi_iload_n (pc' := 30) (x := 3) kc_128_29 rfl rfl ?_
      obtain ⟨v679, ev679, bv679, dv679⟩ := xj_get hy675 ry675 (i := 3) (by decide) (by decide)
      refine xi_iaload (pc' := 31) (v := v679) kc_128_30 rfl eh675.1 (by decide) rfl (xi_in (by decide) (by rw [hy675]; decide)) ev679 ?_
      have hlv679 : v679.toInt = (99999 : Int32).toInt := (xrp_ldc R677 (k := 3) (by decide) (by decide) ev679).trans xup_s
      refine xi_istore (pc' := 33) (lv' := [(6, .int v679), (5, .ref 20), (0, .ref 1), (1, .ref 63), (2, .int 3), (3, .int x3), (4, .int x4)]) kc_128_31 rfl rfl (xm_lt ml_128 rfl) ?_
      refine xi_aload (pc' := 35) (x := 20) kc_128_33 rfl rfl ?_
      have A680 := ((eh675.2.1 20 (by decide)).trans A574)
      refine xi_getfield (pc' := 38) (v := .ref 21) kc_128_35 rfl rfl rfl A680 rfl ?_
      refine xi_iconst (pc' := 39) (v := 0) kc_128_38 rfl rfl ?_
      obtain ⟨y681, A681, hy681, ry681⟩ := xk_arr K676.1 xD_21
      have R682 : xrp y681 5 (st 3) := xra_ld (xg6_k I6 K676 (by decide +kernel)).2.2.2.1 A681
      obtain ⟨v683, ev683, bv683, dv683⟩ := xj_get hy681 ry681 (i := 0) (by decide) (by decide)
      refine xi_iaload (pc' := 40) (v := v683) kc_128_39 rfl A681 (by decide) rfl (xi_in (by decide) (by rw [hy681]; decide)) ev683 ?_
      have hlv683 : v683.toInt = (st 3) 0 := xrp_ldc R682 (k := 0) (by decide) (by decide) ev683
      have brv683 : 0 ≤ v683.toInt ∧ v683.toInt ≤ 99 := by have := hq 3 (by omega); omega
      refine xi_istore (pc' := 42) (lv' := [(7, .int v683), (6, .int v679), (5, .ref 20), (0, .ref 1), (1, .ref 63), (2, .int 3), (3, .int x3), (4, .int x4)]) kc_128_40 rfl rfl (xm_lt ml_128 rfl) ?_
      refine xi_iload (pc' := 44) (x := v683) kc_128_42 rfl rfl ?_
      refine xi_iload (pc' := 46) (x := x4) kc_128_44 rfl rfl ?_
      refine xi_static (mj := 102) (as := [.int x4]) (st1 := [.int v683]) (lv0 := [(0, .int x4)]) kc_128_46 rfl rfl (Nat.le_of_ble_eq_true rfl) rfl rfl (Nat.le_of_ble_eq_true rfl) (hJ _ _ _ _ (by decide)) (xm_le ml_102 rfl) rfl ?_
      refine xw_gx hJ hov1 hov2 (d := d + 1) (x0 := x4) (by omega) (fun r684 hr684 br684 => ?_)
      show xw J ov (d + 4) 128 (49, [(7, .int v683), (6, .int v679), (5, .ref 20), (0, .ref 1), (1, .ref 63), (2, .int 3), (3, .int x3), (4, .int x4)], [.int r684, .int v683], hh675) _
      obtain ⟨v685, ev685⟩ : ∃ q : Int32, (v683 : Int32) * r684 = q := ⟨_, rfl⟩
      have rv685 := xc_rng v685
      refine xi_imul (pc' := 50) (v := v685) kc_128_49 rfl ev685 ?_
      refine xi_iconst (pc' := 51) (v := 2) kc_128_50 rfl rfl ?_
      obtain ⟨v686, ev686⟩ : ∃ q : Int32, v685 / 2 = q := ⟨_, rfl⟩
      have dv686 : 2 * v686.toInt ≤ v685.toInt + 1 ∧ v685.toInt ≤ 2 * v686.toInt + 1 := by rw [← ev686]; exact xz_div (X := v685.toInt) (Y := 2) rfl (by decide) (by decide)
      have bv686 : -1073741825 ≤ v686.toInt ∧ v686.toInt ≤ 1073741824 := by omega
      refine xi_idiv (pc' := 52) (v := v686) kc_128_51 rfl ev686 (by decide) ?_
      refine xi_istore (pc' := 54) (lv' := [(8, .int v686), (7, .int v683), (6, .int v679), (5, .ref 20), (0, .ref 1), (1, .ref 63), (2, .int 3), (3, .int x3), (4, .int x4)]) kc_128_52 rfl rfl (xm_lt ml_128 rfl) ?_
      refine xi_iload (pc' := 56) (x := v679) kc_128_54 rfl rfl ?_
      refine xi_iload (pc' := 58) (x := v679) kc_128_56 rfl rfl ?_
      refine xi_iload (pc' := 60) (x := v686) kc_128_58 rfl rfl ?_
      obtain ⟨v687, ev687⟩ : ∃ q : Int32, (v679 : Int32) - v686 = q := ⟨_, rfl⟩
      have rv687 := xc_rng v687
      refine xi_isub (pc' := 61) (v := v687) kc_128_60 rfl ev687 ?_
      refine xi_aload (pc' := 63) (x := 20) kc_128_61 rfl rfl ?_
      refine xi_virtual (mj := 129) (as := []) (st1 := [.int v687, .int v679]) (lv0 := [(0, .ref 20)]) kc_128_63 rfl rfl rfl rfl rfl A680 (Nat.le_of_ble_eq_true rfl) (hJ _ _ _ _ (by decide)) (xm_le ml_129 rfl) rfl ?_
      refine xi_aload_n (pc' := 1) (x := 20) kc_129_0 rfl rfl ?_
      refine xi_getfield (pc' := 4) (v := .ref 21) kc_129_1 rfl rfl rfl A680 rfl ?_
      refine xi_iconst (pc' := 5) (v := 2) kc_129_4 rfl rfl ?_
      obtain ⟨v688, ev688, bv688, dv688⟩ := xj_get hy681 ry681 (i := 2) (by decide) (by decide)
      refine xi_iaload (pc' := 6) (v := v688) kc_129_5 rfl A681 (by decide) rfl (xi_in (by decide) (by rw [hy681]; decide)) ev688 ?_
      have hlv688 : v688.toInt = (st 3) 2 := xrp_ldc R682 (k := 2) (by decide) (by decide) ev688
      have brv688 : 0 ≤ v688.toInt ∧ v688.toInt ≤ 99 := by have := hq 3 (by omega); omega
      refine xi_aload_n (pc' := 7) (x := 20) kc_129_6 rfl rfl ?_
      refine xi_getfield (pc' := 10) (v := .ref 21) kc_129_7 rfl rfl rfl A680 rfl ?_
      refine xi_iconst (pc' := 11) (v := 4) kc_129_10 rfl rfl ?_
      obtain ⟨v689, ev689, bv689, dv689⟩ := xj_get hy681 ry681 (i := 4) (by decide) (by decide)
      refine xi_iaload (pc' := 12) (v := v689) kc_129_11 rfl A681 (by decide) rfl (xi_in (by decide) (by rw [hy681]; decide)) ev689 ?_
      have hlv689 : v689.toInt = (st 3) 4 := xrp_ldc R682 (k := 4) (by decide) (by decide) ev689
      have brv689 : 0 ≤ v689.toInt ∧ v689.toInt ≤ 99 := by have := hq 3 (by omega); omega
      refine xi_iconst (pc' := 13) (v := 1) kc_129_12 rfl rfl ?_
      by_cases c690 : v689.toInt = 1
      · refine xi_cmf (pc' := 16) kc_129_13 rfl (xc_ne_f (X := v689.toInt) (Y := 1) rfl (by decide) (by omega)) ?_
        refine xi_aload_n (pc' := 17) (x := 20) kc_129_16 rfl rfl ?_
        refine xi_getfield (pc' := 20) (v := .ref 21) kc_129_17 rfl rfl rfl A680 rfl ?_
        refine xi_iconst (pc' := 21) (v := 3) kc_129_20 rfl rfl ?_
        obtain ⟨v691, ev691, bv691, dv691⟩ := xj_get hy681 ry681 (i := 3) (by decide) (by decide)
        refine xi_iaload (pc' := 22) (v := v691) kc_129_21 rfl A681 (by decide) rfl (xi_in (by decide) (by rw [hy681]; decide)) ev691 ?_
        have hlv691 : v691.toInt = (st 3) 3 := xrp_ldc R682 (k := 3) (by decide) (by decide) ev691
        have brv691 : 0 ≤ v691.toInt ∧ v691.toInt ≤ 99 := by have := hq 3 (by omega); omega
        refine xi_goto (pc' := 26) kc_129_22 rfl ?_
        obtain ⟨v692, ev692⟩ : ∃ q : Int32, v688 + v691 = q := ⟨_, rfl⟩
        have zv692 : v692.toInt = (v688.toInt + v691.toInt) := by rw [← ev692]; exact (xz_add (X := v688.toInt) (Y := v691.toInt) rfl rfl (by omega) (by omega)).trans (by omega)
        refine xi_iadd (pc' := 27) (v := v692) kc_129_26 rfl ev692 ?_
        refine xi_ireturn kc_129_27 mr_129 rfl ?_
        show xw J ov (d + 4) 128 (66, [(8, .int v686), (7, .int v683), (6, .int v679), (5, .ref 20), (0, .ref 1), (1, .ref 63), (2, .int 3), (3, .int x3), (4, .int x4)], [.int v692, .int v687, .int v679], hh675) _
        obtain ⟨v693, ev693⟩ : ∃ q : Int32, (v687 : Int32) * v692 = q := ⟨_, rfl⟩
        have rv693 := xc_rng v693
        refine xi_imul (pc' := 67) (v := v693) kc_128_66 rfl ev693 ?_
        refine xi_bipush (pc' := 69) (v := 100) kc_128_67 rfl rfl ?_
        obtain ⟨v694, ev694⟩ : ∃ q : Int32, v693 / 100 = q := ⟨_, rfl⟩
        have dv694 : 100 * v694.toInt ≤ v693.toInt + 99 ∧ v693.toInt ≤ 100 * v694.toInt + 99 := by rw [← ev694]; exact xz_div (X := v693.toInt) (Y := 100) rfl (by decide) (by decide)
        have bv694 : -21474837 ≤ v694.toInt ∧ v694.toInt ≤ 21474837 := by omega
        refine xi_idiv (pc' := 70) (v := v694) kc_128_69 rfl ev694 (by decide) ?_
        obtain ⟨v695, ev695⟩ : ∃ q : Int32, (v679 : Int32) - v694 = q := ⟨_, rfl⟩
        have rv695 := xc_rng v695
        refine xi_isub (pc' := 71) (v := v695) kc_128_70 rfl ev695 ?_
        refine xi_istore (pc' := 73) (lv' := [(6, .int v695), (8, .int v686), (7, .int v683), (5, .ref 20), (0, .ref 1), (1, .ref 63), (2, .int 3), (3, .int x3), (4, .int x4)]) kc_128_71 rfl rfl (xm_lt ml_128 rfl) ?_
        refine xi_aload (pc' := 75) (x := 20) kc_128_73 rfl rfl ?_
        refine xi_getfield (pc' := 78) (v := .ref 21) kc_128_75 rfl rfl rfl A680 rfl ?_
        refine xi_iconst (pc' := 79) (v := 1) kc_128_78 rfl rfl ?_
        obtain ⟨v696, ev696, bv696, dv696⟩ := xj_get hy681 ry681 (i := 1) (by decide) (by decide)
        refine xi_iaload (pc' := 80) (v := v696) kc_128_79 rfl A681 (by decide) rfl (xi_in (by decide) (by rw [hy681]; decide)) ev696 ?_
        have hlv696 : v696.toInt = (st 3) 1 := xrp_ldc R682 (k := 1) (by decide) (by decide) ev696
        have brv696 : 0 ≤ v696.toInt ∧ v696.toInt ≤ 99 := by have := hq 3 (by omega); omega
        refine xi_istore (pc' := 82) (lv' := [(9, .int v696), (6, .int v695), (8, .int v686), (7, .int v683), (5, .ref 20), (0, .ref 1), (1, .ref 63), (2, .int 3), (3, .int x3), (4, .int x4)]) kc_128_80 rfl rfl (xm_lt ml_128 rfl) ?_
        refine xi_iload (pc' := 84) (x := v683) kc_128_82 rfl rfl ?_
        refine xi_iload (pc' := 86) (x := v696) kc_128_84 rfl rfl ?_
        refine xi_static (mj := 102) (as := [.int v696]) (st1 := [.int v683]) (lv0 := [(0, .int v696)]) kc_128_86 rfl rfl (Nat.le_of_ble_eq_true rfl) rfl rfl (Nat.le_of_ble_eq_true rfl) (hJ _ _ _ _ (by decide)) (xm_le ml_102 rfl) rfl ?_
        refine xw_gx hJ hov1 hov2 (d := d + 1) (x0 := v696) (by omega) (fun r697 hr697 br697 => ?_)
        show xw J ov (d + 4) 128 (89, [(9, .int v696), (6, .int v695), (8, .int v686), (7, .int v683), (5, .ref 20), (0, .ref 1), (1, .ref 63), (2, .int 3), (3, .int x3), (4, .int x4)], [.int r697, .int v683], hh675) _
        obtain ⟨v698, ev698⟩ : ∃ q : Int32, (v683 : Int32) * r697 = q := ⟨_, rfl⟩
        have rv698 := xc_rng v698
        refine xi_imul (pc' := 90) (v := v698) kc_128_89 rfl ev698 ?_
        refine xi_istore (pc' := 92) (lv' := [(10, .int v698), (9, .int v696), (6, .int v695), (8, .int v686), (7, .int v683), (5, .ref 20), (0, .ref 1), (1, .ref 63), (2, .int 3), (3, .int x3), (4, .int x4)]) kc_128_90 rfl rfl (xm_lt ml_128 rfl) ?_
        refine xi_iload (pc' := 94) (x := v695) kc_128_92 rfl rfl ?_
        refine xi_iload (pc' := 96) (x := v698) kc_128_94 rfl rfl ?_
        by_cases c699 : v695.toInt ≤ v698.toInt
        · refine xi_cmt (pc' := 119) kc_128_96 rfl (xc_le_t (X := v695.toInt) (Y := v698.toInt) rfl rfl (by omega)) ?_
          refine xi_aload_n (pc' := 120) (x := 63) kc_128_119 rfl rfl ?_
          refine xi_getfield (pc' := 123) (v := .ref 64) kc_128_120 rfl rfl rfl A678 rfl ?_
          refine xi_iload_n (pc' := 124) (x := 3) kc_128_123 rfl rfl ?_
          refine xi_iload (pc' := 126) (x := v695) kc_128_124 rfl rfl ?_
          obtain ⟨y700, s700, hy700, ry700⟩ := xj_set (v := v695) hy675 ry675 3 (by first | omega | decide) (by first | omega | decide)
          refine xi_iastore (pc' := 127) (x' := y700) kc_128_126 rfl eh675.1 rfl (xi_in (by decide) (by rw [hy675]; decide)) s700 (fun hh700 eh700 => ?_)
          have K701 := xk_pa K676 (xk_wa (by decide +kernel)) xD_64 hy700 ry700 eh700
          have R702 : xrp y700 6 (xup (xup gw 3 (99999 : Int32).toInt) 3 (v695 : Int32).toInt) := xrp_setc R677 s700 (by decide) rfl
          refine xi_return kc_128_127 mr_128 ?_
          have hqr := hq 3 (by omega)
          have hwr := hw 3 (by omega)
          have em : Int32.toNatClampNeg v575 = (hr % 24).toNat := xcl3 (by omega) (by omega)
          have hmr : 0 ≤ C 23 (hr % 24).toNat ∧ C 23 (hr % 24).toNat ≤ 999 := hC.2.2.2.2.2 3 (by omega) (hr % 24).toNat (by omega)
          rw [em] at hlv579
          have n1 : Int32.toNatClampNeg 3 = 3 := by decide
          rw [n1] at kk
          have zc99999 : (99999 : Int32).toInt = 99999 := by decide
          have ew : (v679 : Int32).toInt = xcap (gw 3 + C 23 (hr % 24).toNat) := xcap_is (fun z => by omega) (fun z => by omega)
          have hfan := xc_of_fan hq (show 3 < 6 by omega)
          have ec : (v692 : Int32).toInt = st 3 2 + (if st 3 4 = 1 then st 3 3 else 0) := by rw [if_pos (show st 3 4 = 1 by omega)]; omega
          have hcb := xho_b b4.1 b4.2
          have eg : (r697 : Int32).toInt = xho (st 3 1) := by rw [hr697, show (v696 : Int32).toInt = st 3 1 by omega]
          obtain ⟨ha1, ha2, ha3, ha4⟩ := xair ew (show (v683 : Int32).toInt = st 3 0 by omega) hr684 ec eg (xcap_b (by omega)) hqr.1 ⟨by omega, by omega⟩ hfan ⟨by omega, by omega⟩ ev685 ev686 ev687 ev693 ev694 ev695 ev698
          have hv := xro_v ha1 ha3
          have hW := xrp_fn R702 (show _ = (xup gw 3 (xro (gw 3) (C 23 (hr % 24).toNat) (st 3 0) (st 3 1) (st 3 2 + (if st 3 4 = 1 then st 3 3 else 0)) (xho x4.toInt))) from (congrArg (xup _ 3) (show (v695 : Int32).toInt = _ from hv.2 (by omega))).trans xup_2)
          exact kk hh700 K701 (xra_mk eh700.1 hW)
        · refine xi_cmf (pc' := 99) kc_128_96 rfl (xc_le_f (X := v695.toInt) (Y := v698.toInt) rfl rfl (by omega)) ?_
          refine xi_aload_n (pc' := 100) (x := 1) kc_128_99 rfl rfl ?_
          refine xi_aload_n (pc' := 101) (x := 63) kc_128_100 rfl rfl ?_
          refine xi_iload_n (pc' := 102) (x := 3) kc_128_101 rfl rfl ?_
          refine xi_iload (pc' := 104) (x := v695) kc_128_102 rfl rfl ?_
          refine xi_iload (pc' := 106) (x := v698) kc_128_104 rfl rfl ?_
          obtain ⟨v703, ev703⟩ : ∃ q : Int32, (v695 : Int32) - v698 = q := ⟨_, rfl⟩
          have rv703 := xc_rng v703
          refine xi_isub (pc' := 107) (v := v703) kc_128_106 rfl ev703 ?_
          refine xi_iload (pc' := 109) (x := v696) kc_128_107 rfl rfl ?_
          refine xi_iload (pc' := 111) (x := x4) kc_128_109 rfl rfl ?_
          obtain ⟨v704, ev704⟩ : ∃ q : Int32, v696 - x4 = q := ⟨_, rfl⟩
          have zv704 : v704.toInt = (v696.toInt + (-1) * x4.toInt) := by rw [← ev704]; exact (xz_sub (X := v696.toInt) (Y := x4.toInt) rfl rfl (by omega) (by omega)).trans (by omega)
          refine xi_isub (pc' := 112) (v := v704) kc_128_111 rfl ev704 ?_
          have A705 := ((eh675.2.1 1 (by decide)).trans A3)
          refine xi_virtual (mj := 130) (as := [.ref 63, .int 3, .int v703, .int v704]) (st1 := []) (lv0 := [(0, .ref 1), (1, .ref 63), (2, .int 3), (3, .int v703), (4, .int v704)]) kc_128_112 rfl rfl rfl rfl rfl A705 (Nat.le_of_ble_eq_true rfl) (hJ _ _ _ _ (by decide)) (xm_le ml_130 rfl) rfl ?_
          have zc3 : (3 : Int32).toInt = 3 := by decide
          refine mt_130_0 hJ hov1 hov2 (d := d + 1) (x2 := 3) (x3 := v703) (x4 := v704) K676.1 (by first | omega | decide) (fun hh707 K708 => ?_)
          have A709 := ((eh675.2.1 22 (by decide)).trans A577)
          have K710 := xk_tr K676 K708 (xsb_ok _ _ (by decide +kernel))
          obtain ⟨u711, u712, bu711, bu712, A713⟩ := xq_1 K710.1
          have C714 : xcX hh707 C := xcX_k C0 K710 (by decide +kernel)
          have hfu711 : u711.toInt = (C 11 0) := xfi_ld C714.1 A713 rfl
          have e715 : u1 = u711 := xk_eqi (q := 5) K708 (by decide +kernel) A705 A713 rfl rfl
          subst e715
          have A716 := xk_eqa (q := 0) K708 (by decide +kernel) A709
          obtain ⟨u717, u718, bu717, bu718, A719⟩ := xq_63 K710.1
          have hfu718 : u718.toInt = 63 := xfi_ld C714.2.2.2.2.2.2.2.2.2.2.2.2.2.2.2.2.2.2.2 A719 rfl
          have e720 : u580 = u717 := xk_eqi (q := 2) K708 (by decide +kernel) A678 A719 rfl rfl
          subst e720
          have e721 : u581 = u718 := xk_eqi (q := 3) K708 (by decide +kernel) A678 A719 rfl rfl
          subst e721
          have A722 := xk_eqa (q := 0) K708 (by decide +kernel) eh675.1
          have A723 := xk_eqa (q := 0) K708 (by decide +kernel) A681
          show xw J ov (d + 4) 128 (115, [(10, .int v698), (9, .int v696), (6, .int v695), (8, .int v686), (7, .int v683), (5, .ref 20), (0, .ref 1), (1, .ref 63), (2, .int 3), (3, .int x3), (4, .int x4)], [], hh707) _
          refine xi_iload (pc' := 117) (x := v698) kc_128_115 rfl rfl ?_
          refine xi_istore (pc' := 119) (lv' := [(6, .int v698), (10, .int v698), (9, .int v696), (8, .int v686), (7, .int v683), (5, .ref 20), (0, .ref 1), (1, .ref 63), (2, .int 3), (3, .int x3), (4, .int x4)]) kc_128_117 rfl rfl (xm_lt ml_128 rfl) ?_
          refine xi_aload_n (pc' := 120) (x := 63) kc_128_119 rfl rfl ?_
          refine xi_getfield (pc' := 123) (v := .ref 64) kc_128_120 rfl rfl rfl A719 rfl ?_
          refine xi_iload_n (pc' := 124) (x := 3) kc_128_123 rfl rfl ?_
          refine xi_iload (pc' := 126) (x := v698) kc_128_124 rfl rfl ?_
          obtain ⟨y724, s724, hy724, ry724⟩ := xj_set (v := v698) hy675 ry675 3 (by first | omega | decide) (by first | omega | decide)
          refine xi_iastore (pc' := 127) (x' := y724) kc_128_126 rfl A722 rfl (xi_in (by decide) (by rw [hy675]; decide)) s724 (fun hh724 eh724 => ?_)
          have K725 := xk_pa K710 (xk_wa (by decide +kernel)) xD_64 hy724 ry724 eh724
          have R726 : xrp y724 6 (xup (xup gw 3 (99999 : Int32).toInt) 3 (v698 : Int32).toInt) := xrp_setc R677 s724 (by decide) rfl
          refine xi_return kc_128_127 mr_128 ?_
          have hqr := hq 3 (by omega)
          have hwr := hw 3 (by omega)
          have em : Int32.toNatClampNeg v575 = (hr % 24).toNat := xcl3 (by omega) (by omega)
          have hmr : 0 ≤ C 23 (hr % 24).toNat ∧ C 23 (hr % 24).toNat ≤ 999 := hC.2.2.2.2.2 3 (by omega) (hr % 24).toNat (by omega)
          rw [em] at hlv579
          have n1 : Int32.toNatClampNeg 3 = 3 := by decide
          rw [n1] at kk
          have zc99999 : (99999 : Int32).toInt = 99999 := by decide
          have ew : (v679 : Int32).toInt = xcap (gw 3 + C 23 (hr % 24).toNat) := xcap_is (fun z => by omega) (fun z => by omega)
          have hfan := xc_of_fan hq (show 3 < 6 by omega)
          have ec : (v692 : Int32).toInt = st 3 2 + (if st 3 4 = 1 then st 3 3 else 0) := by rw [if_pos (show st 3 4 = 1 by omega)]; omega
          have hcb := xho_b b4.1 b4.2
          have eg : (r697 : Int32).toInt = xho (st 3 1) := by rw [hr697, show (v696 : Int32).toInt = st 3 1 by omega]
          obtain ⟨ha1, ha2, ha3, ha4⟩ := xair ew (show (v683 : Int32).toInt = st 3 0 by omega) hr684 ec eg (xcap_b (by omega)) hqr.1 ⟨by omega, by omega⟩ hfan ⟨by omega, by omega⟩ ev685 ev686 ev687 ev693 ev694 ev695 ev698
          have hv := xro_v ha1 ha3
          have hW := xrp_fn R726 (show _ = (xup gw 3 (xro (gw 3) (C 23 (hr % 24).toNat) (st 3 0) (st 3 1) (st 3 2 + (if st 3 4 = 1 then st 3 3 else 0)) (xho x4.toInt))) from (congrArg (xup _ 3) (show (v698 : Int32).toInt = _ from hv.1 (by omega))).trans xup_2)
          exact kk hh724 K725 (xra_mk eh724.1 hW)
      · refine xi_cmt (pc' := 25) kc_129_13 rfl (xc_ne_t (X := v689.toInt) (Y := 1) rfl (by decide) (by omega)) ?_
        refine xi_iconst (pc' := 26) (v := 0) kc_129_25 rfl rfl ?_
        obtain ⟨v727, ev727⟩ : ∃ q : Int32, v688 + 0 = q := ⟨_, rfl⟩
        have zv727 : v727.toInt = v688.toInt := by rw [← ev727]; exact (xz_add (X := v688.toInt) (Y := 0) rfl (by decide) (by omega) (by omega)).trans (by omega)
        refine xi_iadd (pc' := 27) (v := v727) kc_129_26 rfl ev727 ?_
        refine xi_ireturn kc_129_27 mr_129 rfl ?_
        show xw J ov (d + 4) 128 (66, [(8, .int v686), (7, .int v683), (6, .int v679), (5, .ref 20), (0, .ref 1), (1, .ref 63), (2, .int 3), (3, .int x3), (4, .int x4)], [.int v727, .int v687, .int v679], hh675) _
        obtain ⟨v728, ev728⟩ : ∃ q : Int32, (v687 : Int32) * v727 = q := ⟨_, rfl⟩
        have rv728 := xc_rng v728
        refine xi_imul (pc' := 67) (v := v728) kc_128_66 rfl ev728 ?_
        refine xi_bipush (pc' := 69) (v := 100) kc_128_67 rfl rfl ?_
        obtain ⟨v729, ev729⟩ : ∃ q : Int32, v728 / 100 = q := ⟨_, rfl⟩
        have dv729 : 100 * v729.toInt ≤ v728.toInt + 99 ∧ v728.toInt ≤ 100 * v729.toInt + 99 := by rw [← ev729]; exact xz_div (X := v728.toInt) (Y := 100) rfl (by decide) (by decide)
        have bv729 : -21474837 ≤ v729.toInt ∧ v729.toInt ≤ 21474837 := by omega
        refine xi_idiv (pc' := 70) (v := v729) kc_128_69 rfl ev729 (by decide) ?_
        obtain ⟨v730, ev730⟩ : ∃ q : Int32, (v679 : Int32) - v729 = q := ⟨_, rfl⟩
        have rv730 := xc_rng v730
        refine xi_isub (pc' := 71) (v := v730) kc_128_70 rfl ev730 ?_
        refine xi_istore (pc' := 73) (lv' := [(6, .int v730), (8, .int v686), (7, .int v683), (5, .ref 20), (0, .ref 1), (1, .ref 63), (2, .int 3), (3, .int x3), (4, .int x4)]) kc_128_71 rfl rfl (xm_lt ml_128 rfl) ?_
        refine xi_aload (pc' := 75) (x := 20) kc_128_73 rfl rfl ?_
        refine xi_getfield (pc' := 78) (v := .ref 21) kc_128_75 rfl rfl rfl A680 rfl ?_
        refine xi_iconst (pc' := 79) (v := 1) kc_128_78 rfl rfl ?_
        obtain ⟨v731, ev731, bv731, dv731⟩ := xj_get hy681 ry681 (i := 1) (by decide) (by decide)
        refine xi_iaload (pc' := 80) (v := v731) kc_128_79 rfl A681 (by decide) rfl (xi_in (by decide) (by rw [hy681]; decide)) ev731 ?_
        have hlv731 : v731.toInt = (st 3) 1 := xrp_ldc R682 (k := 1) (by decide) (by decide) ev731
        have brv731 : 0 ≤ v731.toInt ∧ v731.toInt ≤ 99 := by have := hq 3 (by omega); omega
        refine xi_istore (pc' := 82) (lv' := [(9, .int v731), (6, .int v730), (8, .int v686), (7, .int v683), (5, .ref 20), (0, .ref 1), (1, .ref 63), (2, .int 3), (3, .int x3), (4, .int x4)]) kc_128_80 rfl rfl (xm_lt ml_128 rfl) ?_
        refine xi_iload (pc' := 84) (x := v683) kc_128_82 rfl rfl ?_
        refine xi_iload (pc' := 86) (x := v731) kc_128_84 rfl rfl ?_
        refine xi_static (mj := 102) (as := [.int v731]) (st1 := [.int v683]) (lv0 := [(0, .int v731)]) kc_128_86 rfl rfl (Nat.le_of_ble_eq_true rfl) rfl rfl (Nat.le_of_ble_eq_true rfl) (hJ _ _ _ _ (by decide)) (xm_le ml_102 rfl) rfl ?_
        refine xw_gx hJ hov1 hov2 (d := d + 1) (x0 := v731) (by omega) (fun r732 hr732 br732 => ?_)
        show xw J ov (d + 4) 128 (89, [(9, .int v731), (6, .int v730), (8, .int v686), (7, .int v683), (5, .ref 20), (0, .ref 1), (1, .ref 63), (2, .int 3), (3, .int x3), (4, .int x4)], [.int r732, .int v683], hh675) _
        obtain ⟨v733, ev733⟩ : ∃ q : Int32, (v683 : Int32) * r732 = q := ⟨_, rfl⟩
        have rv733 := xc_rng v733
        refine xi_imul (pc' := 90) (v := v733) kc_128_89 rfl ev733 ?_
        refine xi_istore (pc' := 92) (lv' := [(10, .int v733), (9, .int v731), (6, .int v730), (8, .int v686), (7, .int v683), (5, .ref 20), (0, .ref 1), (1, .ref 63), (2, .int 3), (3, .int x3), (4, .int x4)]) kc_128_90 rfl rfl (xm_lt ml_128 rfl) ?_
        refine xi_iload (pc' := 94) (x := v730) kc_128_92 rfl rfl ?_
        refine xi_iload (pc' := 96) (x := v733) kc_128_94 rfl rfl ?_
        by_cases c734 : v730.toInt ≤ v733.toInt
        · refine xi_cmt (pc' := 119) kc_128_96 rfl (xc_le_t (X := v730.toInt) (Y := v733.toInt) rfl rfl (by omega)) ?_
          refine xi_aload_n (pc' := 120) (x := 63) kc_128_119 rfl rfl ?_
          refine xi_getfield (pc' := 123) (v := .ref 64) kc_128_120 rfl rfl rfl A678 rfl ?_
          refine xi_iload_n (pc' := 124) (x := 3) kc_128_123 rfl rfl ?_
          refine xi_iload (pc' := 126) (x := v730) kc_128_124 rfl rfl ?_
          obtain ⟨y735, s735, hy735, ry735⟩ := xj_set (v := v730) hy675 ry675 3 (by first | omega | decide) (by first | omega | decide)
          refine xi_iastore (pc' := 127) (x' := y735) kc_128_126 rfl eh675.1 rfl (xi_in (by decide) (by rw [hy675]; decide)) s735 (fun hh735 eh735 => ?_)
          have K736 := xk_pa K676 (xk_wa (by decide +kernel)) xD_64 hy735 ry735 eh735
          have R737 : xrp y735 6 (xup (xup gw 3 (99999 : Int32).toInt) 3 (v730 : Int32).toInt) := xrp_setc R677 s735 (by decide) rfl
          refine xi_return kc_128_127 mr_128 ?_
          have hqr := hq 3 (by omega)
          have hwr := hw 3 (by omega)
          have em : Int32.toNatClampNeg v575 = (hr % 24).toNat := xcl3 (by omega) (by omega)
          have hmr : 0 ≤ C 23 (hr % 24).toNat ∧ C 23 (hr % 24).toNat ≤ 999 := hC.2.2.2.2.2 3 (by omega) (hr % 24).toNat (by omega)
          rw [em] at hlv579
          have n1 : Int32.toNatClampNeg 3 = 3 := by decide
          rw [n1] at kk
          have zc99999 : (99999 : Int32).toInt = 99999 := by decide
          have ew : (v679 : Int32).toInt = xcap (gw 3 + C 23 (hr % 24).toNat) := xcap_is (fun z => by omega) (fun z => by omega)
          have hfan := xc_of_fan hq (show 3 < 6 by omega)
          have ec : (v727 : Int32).toInt = st 3 2 + (if st 3 4 = 1 then st 3 3 else 0) := by rw [if_neg (show ¬ st 3 4 = 1 by omega)]; omega
          have hcb := xho_b b4.1 b4.2
          have eg : (r732 : Int32).toInt = xho (st 3 1) := by rw [hr732, show (v731 : Int32).toInt = st 3 1 by omega]
          obtain ⟨ha1, ha2, ha3, ha4⟩ := xair ew (show (v683 : Int32).toInt = st 3 0 by omega) hr684 ec eg (xcap_b (by omega)) hqr.1 ⟨by omega, by omega⟩ hfan ⟨by omega, by omega⟩ ev685 ev686 ev687 ev728 ev729 ev730 ev733
          have hv := xro_v ha1 ha3
          have hW := xrp_fn R737 (show _ = (xup gw 3 (xro (gw 3) (C 23 (hr % 24).toNat) (st 3 0) (st 3 1) (st 3 2 + (if st 3 4 = 1 then st 3 3 else 0)) (xho x4.toInt))) from (congrArg (xup _ 3) (show (v730 : Int32).toInt = _ from hv.2 (by omega))).trans xup_2)
          exact kk hh735 K736 (xra_mk eh735.1 hW)
        · refine xi_cmf (pc' := 99) kc_128_96 rfl (xc_le_f (X := v730.toInt) (Y := v733.toInt) rfl rfl (by omega)) ?_
          refine xi_aload_n (pc' := 100) (x := 1) kc_128_99 rfl rfl ?_
          refine xi_aload_n (pc' := 101) (x := 63) kc_128_100 rfl rfl ?_
          refine xi_iload_n (pc' := 102) (x := 3) kc_128_101 rfl rfl ?_
          refine xi_iload (pc' := 104) (x := v730) kc_128_102 rfl rfl ?_
          refine xi_iload (pc' := 106) (x := v733) kc_128_104 rfl rfl ?_
          obtain ⟨v738, ev738⟩ : ∃ q : Int32, (v730 : Int32) - v733 = q := ⟨_, rfl⟩
          have rv738 := xc_rng v738
          refine xi_isub (pc' := 107) (v := v738) kc_128_106 rfl ev738 ?_
          refine xi_iload (pc' := 109) (x := v731) kc_128_107 rfl rfl ?_
          refine xi_iload (pc' := 111) (x := x4) kc_128_109 rfl rfl ?_
          obtain ⟨v739, ev739⟩ : ∃ q : Int32, v731 - x4 = q := ⟨_, rfl⟩
          have zv739 : v739.toInt = (v731.toInt + (-1) * x4.toInt) := by rw [← ev739]; exact (xz_sub (X := v731.toInt) (Y := x4.toInt) rfl rfl (by omega) (by omega)).trans (by omega)
          refine xi_isub (pc' := 112) (v := v739) kc_128_111 rfl ev739 ?_
          have A740 := ((eh675.2.1 1 (by decide)).trans A3)
          refine xi_virtual (mj := 130) (as := [.ref 63, .int 3, .int v738, .int v739]) (st1 := []) (lv0 := [(0, .ref 1), (1, .ref 63), (2, .int 3), (3, .int v738), (4, .int v739)]) kc_128_112 rfl rfl rfl rfl rfl A740 (Nat.le_of_ble_eq_true rfl) (hJ _ _ _ _ (by decide)) (xm_le ml_130 rfl) rfl ?_
          have zc3 : (3 : Int32).toInt = 3 := by decide
          refine mt_130_0 hJ hov1 hov2 (d := d + 1) (x2 := 3) (x3 := v738) (x4 := v739) K676.1 (by first | omega | decide) (fun hh742 K743 => ?_)
          have A744 := ((eh675.2.1 22 (by decide)).trans A577)
          have K745 := xk_tr K676 K743 (xsb_ok _ _ (by decide +kernel))
          obtain ⟨u746, u747, bu746, bu747, A748⟩ := xq_1 K745.1
          have C749 : xcX hh742 C := xcX_k C0 K745 (by decide +kernel)
          have hfu746 : u746.toInt = (C 11 0) := xfi_ld C749.1 A748 rfl
          have e750 : u1 = u746 := xk_eqi (q := 5) K743 (by decide +kernel) A740 A748 rfl rfl
          subst e750
          have A751 := xk_eqa (q := 0) K743 (by decide +kernel) A744
          obtain ⟨u752, u753, bu752, bu753, A754⟩ := xq_63 K745.1
          have hfu753 : u753.toInt = 63 := xfi_ld C749.2.2.2.2.2.2.2.2.2.2.2.2.2.2.2.2.2.2.2 A754 rfl
          have e755 : u580 = u752 := xk_eqi (q := 2) K743 (by decide +kernel) A678 A754 rfl rfl
          subst e755
          have e756 : u581 = u753 := xk_eqi (q := 3) K743 (by decide +kernel) A678 A754 rfl rfl
          subst e756
          have A757 := xk_eqa (q := 0) K743 (by decide +kernel) eh675.1
          have A758 := xk_eqa (q := 0) K743 (by decide +kernel) A681
          show xw J ov (d + 4) 128 (115, [(10, .int v733), (9, .int v731), (6, .int v730), (8, .int v686), (7, .int v683), (5, .ref 20), (0, .ref 1), (1, .ref 63), (2, .int 3), (3, .int x3), (4, .int x4)], [], hh742) _
          refine xi_iload (pc' := 117) (x := v733) kc_128_115 rfl rfl ?_
          refine xi_istore (pc' := 119) (lv' := [(6, .int v733), (10, .int v733), (9, .int v731), (8, .int v686), (7, .int v683), (5, .ref 20), (0, .ref 1), (1, .ref 63), (2, .int 3), (3, .int x3), (4, .int x4)]) kc_128_117 rfl rfl (xm_lt ml_128 rfl) ?_
          refine xi_aload_n (pc' := 120) (x := 63) kc_128_119 rfl rfl ?_
          refine xi_getfield (pc' := 123) (v := .ref 64) kc_128_120 rfl rfl rfl A754 rfl ?_
          refine xi_iload_n (pc' := 124) (x := 3) kc_128_123 rfl rfl ?_
          refine xi_iload (pc' := 126) (x := v733) kc_128_124 rfl rfl ?_
          obtain ⟨y759, s759, hy759, ry759⟩ := xj_set (v := v733) hy675 ry675 3 (by first | omega | decide) (by first | omega | decide)
          refine xi_iastore (pc' := 127) (x' := y759) kc_128_126 rfl A757 rfl (xi_in (by decide) (by rw [hy675]; decide)) s759 (fun hh759 eh759 => ?_)
          have K760 := xk_pa K745 (xk_wa (by decide +kernel)) xD_64 hy759 ry759 eh759
          have R761 : xrp y759 6 (xup (xup gw 3 (99999 : Int32).toInt) 3 (v733 : Int32).toInt) := xrp_setc R677 s759 (by decide) rfl
          refine xi_return kc_128_127 mr_128 ?_
          have hqr := hq 3 (by omega)
          have hwr := hw 3 (by omega)
          have em : Int32.toNatClampNeg v575 = (hr % 24).toNat := xcl3 (by omega) (by omega)
          have hmr : 0 ≤ C 23 (hr % 24).toNat ∧ C 23 (hr % 24).toNat ≤ 999 := hC.2.2.2.2.2 3 (by omega) (hr % 24).toNat (by omega)
          rw [em] at hlv579
          have n1 : Int32.toNatClampNeg 3 = 3 := by decide
          rw [n1] at kk
          have zc99999 : (99999 : Int32).toInt = 99999 := by decide
          have ew : (v679 : Int32).toInt = xcap (gw 3 + C 23 (hr % 24).toNat) := xcap_is (fun z => by omega) (fun z => by omega)
          have hfan := xc_of_fan hq (show 3 < 6 by omega)
          have ec : (v727 : Int32).toInt = st 3 2 + (if st 3 4 = 1 then st 3 3 else 0) := by rw [if_neg (show ¬ st 3 4 = 1 by omega)]; omega
          have hcb := xho_b b4.1 b4.2
          have eg : (r732 : Int32).toInt = xho (st 3 1) := by rw [hr732, show (v731 : Int32).toInt = st 3 1 by omega]
          obtain ⟨ha1, ha2, ha3, ha4⟩ := xair ew (show (v683 : Int32).toInt = st 3 0 by omega) hr684 ec eg (xcap_b (by omega)) hqr.1 ⟨by omega, by omega⟩ hfan ⟨by omega, by omega⟩ ev685 ev686 ev687 ev728 ev729 ev730 ev733
          have hv := xro_v ha1 ha3
          have hW := xrp_fn R761 (show _ = (xup gw 3 (xro (gw 3) (C 23 (hr % 24).toNat) (st 3 0) (st 3 1) (st 3 2 + (if st 3 4 = 1 then st 3 3 else 0)) (xho x4.toInt))) from (congrArg (xup _ 3) (show (v733 : Int32).toInt = _ from hv.1 (by omega))).trans xup_2)
          exact kk hh759 K760 (xra_mk eh759.1 hW)
  by_cases c762 : x2.toInt = 4
  · have qx2 : x2 = 4 := xc_of (Eq.trans (by omega) (show (4 : Int) = (4 : Int32).toInt by decide))
    subst qx2
    refine xi_aaload (pc' := 6) (b := 23) kc_128_5 rfl A5 rfl (xi_in (n := 6) (by decide) (by decide)) rfl ?_
    refine xi_astore (pc' := 8) (lv' := [(5, .ref 23), (0, .ref 1), (1, .ref 63), (2, .int 4), (3, .int x3), (4, .int x4)]) kc_128_6 rfl rfl (xm_lt ml_128 rfl) ?_
    refine xi_aload_n (pc' := 9) (x := 63) kc_128_8 rfl rfl ?_
    refine xi_iload_n (pc' := 10) (x := 4) kc_128_9 rfl rfl ?_
    refine xi_aload (pc' := 12) (x := 23) kc_128_10 rfl rfl ?_
    have A763 := xq_23 K.1
    refine xi_getfield (pc' := 15) (v := .ref 25) kc_128_12 rfl rfl rfl A763 rfl ?_
    refine xi_iload_n (pc' := 16) (x := x3) kc_128_15 rfl rfl ?_
    refine xi_bipush (pc' := 18) (v := 24) kc_128_16 rfl rfl ?_
    refine xi_static (mj := 3) (as := [.int x3, .int 24]) (st1 := [.ref 25, .int 4, .ref 63]) (lv0 := [(0, .int x3), (1, .int 24)]) kc_128_18 rfl rfl (Nat.le_of_ble_eq_true rfl) rfl rfl (Nat.le_of_ble_eq_true rfl) (hJ _ _ _ _ (by decide)) (xm_le ml_3 rfl) rfl ?_
    refine xi_iload_n (pc' := 1) (x := x3) kc_3_0 rfl rfl ?_
    refine xi_iload_n (pc' := 2) (x := 24) kc_3_1 rfl rfl ?_
    obtain ⟨v764, ev764⟩ : ∃ q : Int32, x3 - x3 / 24 * 24 = q := ⟨_, rfl⟩
    have dv764 : v764.toInt = x3.toInt % 24 := by rw [← ev764]; exact xz_reme (X := x3.toInt) (Y := 24) rfl (by decide) (by omega) (by decide)
    have bv764 : 0 ≤ v764.toInt ∧ v764.toInt ≤ 23 := by omega
    refine xi_irem (pc' := 3) (v := v764) kc_3_2 rfl ev764 (by decide) ?_
    refine xi_istore_n (pc' := 4) (lv' := [(2, .int v764), (0, .int x3), (1, .int 24)]) kc_3_3 rfl rfl (xm_lt ml_3 rfl) ?_
    refine xi_iload_n (pc' := 5) (x := x3) kc_3_4 rfl rfl ?_
    refine xi_iload_n (pc' := 6) (x := 24) kc_3_5 rfl rfl ?_
    obtain ⟨v765, ev765⟩ : ∃ q : Int32, (x3 : Int32) ^^^ 24 = q := ⟨_, rfl⟩
    have rv765 := xc_rng v765
    have bv765 : 0 ≤ v765.toInt := by rw [← ev765]; exact xz_xor (by first | omega | decide) (by first | omega | decide)
    refine xi_ixor (pc' := 7) (v := v765) kc_3_6 rfl ev765 ?_
    refine xi_ift (pc' := 18) kc_3_7 rfl (xc_ge_t (X := v765.toInt) (Y := 0) rfl (by decide) (by omega)) ?_
    refine xi_iload_n (pc' := 19) (x := v764) kc_3_18 rfl rfl ?_
    refine xi_ireturn kc_3_19 mr_3 rfl ?_
    show xw J ov (d + 4) 128 (21, [(5, .ref 23), (0, .ref 1), (1, .ref 63), (2, .int 4), (3, .int x3), (4, .int x4)], [.int v764, .ref 25, .int 4, .ref 63], h) _
    obtain ⟨y766, A766, hy766, ry766⟩ := xk_arr K.1 xD_25
    have R767 : xrp y766 24 (C 24) := xra_ld C4.2.2.2.2.2.2.1 A766
    obtain ⟨v768, ev768, bv768, dv768⟩ := xj_get hy766 ry766 (i := v764) (by omega) (by omega)
    refine xi_iaload (pc' := 22) (v := v768) kc_128_21 rfl A766 (by decide) rfl (xi_in (by omega) (by rw [hy766]; omega)) ev768 ?_
    have hlv768 : v768.toInt = (C 24) (Int32.toNatClampNeg v764) := xrp_ld R767 (by omega) (by omega) ev768
    have brv768 : 0 ≤ v768.toInt ∧ v768.toInt ≤ 999 := by have hz : 0 ≤ C 24 (Int32.toNatClampNeg v764) ∧ C 24 (Int32.toNatClampNeg v764) ≤ 999 := hC.2.2.2.2.2 4 (by omega) (Int32.toNatClampNeg v764) (by have := xj_tn (i := v764) (by omega); omega); omega
    obtain ⟨u769, u770, bu769, bu770, A771⟩ := xq_63 K.1
    have hfu770 : u770.toInt = 63 := xfi_ld C4.2.2.2.2.2.2.2.2.2.2.2.2.2.2.2.2.2.2.2 A771 rfl
    refine xi_virtual (mj := 127) (as := [.int 4, .int v768]) (st1 := []) (lv0 := [(0, .ref 63), (1, .int 4), (2, .int v768)]) kc_128_22 rfl rfl rfl rfl rfl A771 (Nat.le_of_ble_eq_true rfl) (hJ _ _ _ _ (by decide)) (xm_le ml_127 rfl) rfl ?_
    refine xi_iload_n (pc' := 1) (x := 4) kc_127_0 rfl rfl ?_
    refine xi_iff (pc' := 4) kc_127_1 rfl rfl ?_
    refine xi_iload_n (pc' := 5) (x := 4) kc_127_4 rfl rfl ?_
    refine xi_aload_n (pc' := 6) (x := 63) kc_127_5 rfl rfl ?_
    refine xi_getfield (pc' := 9) (v := .ref 64) kc_127_6 rfl rfl rfl A771 rfl ?_
    obtain ⟨y772, A772, hy772, ry772⟩ := xk_arr K.1 xD_64
    have R773 : xrp y772 6 gw := xra_ld IW A772
    refine xi_arraylength (pc' := 10) (n := 6) (v := 6) kc_127_9 rfl (xl_lenI (by decide) (by decide) A772 hy772) rfl ?_
    refine xi_cmf (pc' := 13) kc_127_10 rfl rfl ?_
    refine xi_aload_n (pc' := 14) (x := 63) kc_127_13 rfl rfl ?_
    refine xi_getfield (pc' := 17) (v := .ref 64) kc_127_14 rfl rfl rfl A771 rfl ?_
    refine xi_iload_n (pc' := 18) (x := 4) kc_127_17 rfl rfl ?_
    obtain ⟨v774, ev774, bv774, dv774⟩ := xj_get hy772 ry772 (i := 4) (by decide) (by decide)
    refine xi_iaload (pc' := 19) (v := v774) kc_127_18 rfl A772 (by decide) rfl (xi_in (by decide) (by rw [hy772]; decide)) ev774 ?_
    have hlv774 : v774.toInt = gw 4 := xrp_ldc R773 (k := 4) (by decide) (by decide) ev774
    have brv774 : 0 ≤ v774.toInt ∧ v774.toInt ≤ 99999 := by have := hw 4 (by omega); omega
    refine xi_iload_n (pc' := 20) (x := v768) kc_127_19 rfl rfl ?_
    obtain ⟨v775, ev775⟩ : ∃ q : Int32, v774 + v768 = q := ⟨_, rfl⟩
    have zv775 : v775.toInt = (v774.toInt + v768.toInt) := by rw [← ev775]; exact (xz_add (X := v774.toInt) (Y := v768.toInt) rfl rfl (by omega) (by omega)).trans (by omega)
    refine xi_iadd (pc' := 21) (v := v775) kc_127_20 rfl ev775 ?_
    refine xi_istore_n (pc' := 22) (lv' := [(3, .int v775), (0, .ref 63), (1, .int 4), (2, .int v768)]) kc_127_21 rfl rfl (xm_lt ml_127 rfl) ?_
    refine xi_aload_n (pc' := 23) (x := 63) kc_127_22 rfl rfl ?_
    refine xi_getfield (pc' := 26) (v := .ref 64) kc_127_23 rfl rfl rfl A771 rfl ?_
    refine xi_iload_n (pc' := 27) (x := 4) kc_127_26 rfl rfl ?_
    refine xi_iload_n (pc' := 28) (x := v775) kc_127_27 rfl rfl ?_
    refine xi_ldc (pc' := 30) (v := 99999) kc_127_28 rfl rfl ?_
    by_cases c776 : (v774.toInt + v768.toInt) ≤ 99999
    · refine xi_cmt (pc' := 38) kc_127_30 rfl (xc_le_t (X := (v774.toInt + v768.toInt)) (Y := 99999) zv775 (by decide) (by omega)) ?_
      refine xi_iload_n (pc' := 39) (x := v775) kc_127_38 rfl rfl ?_
      obtain ⟨y777, s777, hy777, ry777⟩ := xj_set (v := v775) hy772 ry772 4 (by first | omega | decide) (by first | omega | decide)
      refine xi_iastore (pc' := 40) (x' := y777) kc_127_39 rfl A772 rfl (xi_in (by decide) (by rw [hy772]; decide)) s777 (fun hh777 eh777 => ?_)
      have K778 := xk_pa K (xk_wa (by decide +kernel)) xD_64 hy777 ry777 eh777
      have R779 : xrp y777 6 (xup gw 4 (v775 : Int32).toInt) := xrp_setc R773 s777 (by decide) rfl
      refine xi_return kc_127_40 mr_127 ?_
      show xw J ov (d + 4) 128 (25, [(5, .ref 23), (0, .ref 1), (1, .ref 63), (2, .int 4), (3, .int x3), (4, .int x4)], [], hh777) _
      refine xi_aload_n (pc' := 26) (x := 63) kc_128_25 rfl rfl ?_
      have A780 := ((eh777.2.1 63 (by decide)).trans A771)
      refine xi_getfield (pc' := 29) (v := .ref 64) kc_128_26 rfl rfl rfl A780 rfl ?_
      refine xi_iload_n (pc' := 30) (x := 4) kc_128_29 rfl rfl ?_
      obtain ⟨v781, ev781, bv781, dv781⟩ := xj_get hy777 ry777 (i := 4) (by decide) (by decide)
      refine xi_iaload (pc' := 31) (v := v781) kc_128_30 rfl eh777.1 (by decide) rfl (xi_in (by decide) (by rw [hy777]; decide)) ev781 ?_
      have hlv781 : v781.toInt = (v775 : Int32).toInt := (xrp_ldc R779 (k := 4) (by decide) (by decide) ev781).trans xup_s
      refine xi_istore (pc' := 33) (lv' := [(6, .int v781), (5, .ref 23), (0, .ref 1), (1, .ref 63), (2, .int 4), (3, .int x3), (4, .int x4)]) kc_128_31 rfl rfl (xm_lt ml_128 rfl) ?_
      refine xi_aload (pc' := 35) (x := 23) kc_128_33 rfl rfl ?_
      have A782 := ((eh777.2.1 23 (by decide)).trans A763)
      refine xi_getfield (pc' := 38) (v := .ref 24) kc_128_35 rfl rfl rfl A782 rfl ?_
      refine xi_iconst (pc' := 39) (v := 0) kc_128_38 rfl rfl ?_
      obtain ⟨y783, A783, hy783, ry783⟩ := xk_arr K778.1 xD_24
      have R784 : xrp y783 5 (st 4) := xra_ld (xg6_k I6 K778 (by decide +kernel)).2.2.2.2.1 A783
      obtain ⟨v785, ev785, bv785, dv785⟩ := xj_get hy783 ry783 (i := 0) (by decide) (by decide)
      refine xi_iaload (pc' := 40) (v := v785) kc_128_39 rfl A783 (by decide) rfl (xi_in (by decide) (by rw [hy783]; decide)) ev785 ?_
      have hlv785 : v785.toInt = (st 4) 0 := xrp_ldc R784 (k := 0) (by decide) (by decide) ev785
      have brv785 : 0 ≤ v785.toInt ∧ v785.toInt ≤ 99 := by have := hq 4 (by omega); omega
      refine xi_istore (pc' := 42) (lv' := [(7, .int v785), (6, .int v781), (5, .ref 23), (0, .ref 1), (1, .ref 63), (2, .int 4), (3, .int x3), (4, .int x4)]) kc_128_40 rfl rfl (xm_lt ml_128 rfl) ?_
      refine xi_iload (pc' := 44) (x := v785) kc_128_42 rfl rfl ?_
      refine xi_iload (pc' := 46) (x := x4) kc_128_44 rfl rfl ?_
      refine xi_static (mj := 102) (as := [.int x4]) (st1 := [.int v785]) (lv0 := [(0, .int x4)]) kc_128_46 rfl rfl (Nat.le_of_ble_eq_true rfl) rfl rfl (Nat.le_of_ble_eq_true rfl) (hJ _ _ _ _ (by decide)) (xm_le ml_102 rfl) rfl ?_
      refine xw_gx hJ hov1 hov2 (d := d + 1) (x0 := x4) (by omega) (fun r786 hr786 br786 => ?_)
      show xw J ov (d + 4) 128 (49, [(7, .int v785), (6, .int v781), (5, .ref 23), (0, .ref 1), (1, .ref 63), (2, .int 4), (3, .int x3), (4, .int x4)], [.int r786, .int v785], hh777) _
      obtain ⟨v787, ev787⟩ : ∃ q : Int32, (v785 : Int32) * r786 = q := ⟨_, rfl⟩
      have rv787 := xc_rng v787
      refine xi_imul (pc' := 50) (v := v787) kc_128_49 rfl ev787 ?_
      refine xi_iconst (pc' := 51) (v := 2) kc_128_50 rfl rfl ?_
      obtain ⟨v788, ev788⟩ : ∃ q : Int32, v787 / 2 = q := ⟨_, rfl⟩
      have dv788 : 2 * v788.toInt ≤ v787.toInt + 1 ∧ v787.toInt ≤ 2 * v788.toInt + 1 := by rw [← ev788]; exact xz_div (X := v787.toInt) (Y := 2) rfl (by decide) (by decide)
      have bv788 : -1073741825 ≤ v788.toInt ∧ v788.toInt ≤ 1073741824 := by omega
      refine xi_idiv (pc' := 52) (v := v788) kc_128_51 rfl ev788 (by decide) ?_
      refine xi_istore (pc' := 54) (lv' := [(8, .int v788), (7, .int v785), (6, .int v781), (5, .ref 23), (0, .ref 1), (1, .ref 63), (2, .int 4), (3, .int x3), (4, .int x4)]) kc_128_52 rfl rfl (xm_lt ml_128 rfl) ?_
      refine xi_iload (pc' := 56) (x := v781) kc_128_54 rfl rfl ?_
      refine xi_iload (pc' := 58) (x := v781) kc_128_56 rfl rfl ?_
      refine xi_iload (pc' := 60) (x := v788) kc_128_58 rfl rfl ?_
      obtain ⟨v789, ev789⟩ : ∃ q : Int32, (v781 : Int32) - v788 = q := ⟨_, rfl⟩
      have rv789 := xc_rng v789
      refine xi_isub (pc' := 61) (v := v789) kc_128_60 rfl ev789 ?_
      refine xi_aload (pc' := 63) (x := 23) kc_128_61 rfl rfl ?_
      refine xi_virtual (mj := 129) (as := []) (st1 := [.int v789, .int v781]) (lv0 := [(0, .ref 23)]) kc_128_63 rfl rfl rfl rfl rfl A782 (Nat.le_of_ble_eq_true rfl) (hJ _ _ _ _ (by decide)) (xm_le ml_129 rfl) rfl ?_
      refine xi_aload_n (pc' := 1) (x := 23) kc_129_0 rfl rfl ?_
      refine xi_getfield (pc' := 4) (v := .ref 24) kc_129_1 rfl rfl rfl A782 rfl ?_
      refine xi_iconst (pc' := 5) (v := 2) kc_129_4 rfl rfl ?_
      obtain ⟨v790, ev790, bv790, dv790⟩ := xj_get hy783 ry783 (i := 2) (by decide) (by decide)
      refine xi_iaload (pc' := 6) (v := v790) kc_129_5 rfl A783 (by decide) rfl (xi_in (by decide) (by rw [hy783]; decide)) ev790 ?_
      have hlv790 : v790.toInt = (st 4) 2 := xrp_ldc R784 (k := 2) (by decide) (by decide) ev790
      have brv790 : 0 ≤ v790.toInt ∧ v790.toInt ≤ 99 := by have := hq 4 (by omega); omega
      refine xi_aload_n (pc' := 7) (x := 23) kc_129_6 rfl rfl ?_
      refine xi_getfield (pc' := 10) (v := .ref 24) kc_129_7 rfl rfl rfl A782 rfl ?_
      refine xi_iconst (pc' := 11) (v := 4) kc_129_10 rfl rfl ?_
      obtain ⟨v791, ev791, bv791, dv791⟩ := xj_get hy783 ry783 (i := 4) (by decide) (by decide)
      refine xi_iaload (pc' := 12) (v := v791) kc_129_11 rfl A783 (by decide) rfl (xi_in (by decide) (by rw [hy783]; decide)) ev791 ?_
      have hlv791 : v791.toInt = (st 4) 4 := xrp_ldc R784 (k := 4) (by decide) (by decide) ev791
      have brv791 : 0 ≤ v791.toInt ∧ v791.toInt ≤ 99 := by have := hq 4 (by omega); omega
      refine xi_iconst (pc' := 13) (v := 1) kc_129_12 rfl rfl ?_
      by_cases c792 : v791.toInt = 1
      · refine xi_cmf (pc' := 16) kc_129_13 rfl (xc_ne_f (X := v791.toInt) (Y := 1) rfl (by decide) (by omega)) ?_
        refine xi_aload_n (pc' := 17) (x := 23) kc_129_16 rfl rfl ?_
        refine xi_getfield (pc' := 20) (v := .ref 24) kc_129_17 rfl rfl rfl A782 rfl ?_
        refine xi_iconst (pc' := 21) (v := 3) kc_129_20 rfl rfl ?_
        obtain ⟨v793, ev793, bv793, dv793⟩ := xj_get hy783 ry783 (i := 3) (by decide) (by decide)
        refine xi_iaload (pc' := 22) (v := v793) kc_129_21 rfl A783 (by decide) rfl (xi_in (by decide) (by rw [hy783]; decide)) ev793 ?_
        have hlv793 : v793.toInt = (st 4) 3 := xrp_ldc R784 (k := 3) (by decide) (by decide) ev793
        have brv793 : 0 ≤ v793.toInt ∧ v793.toInt ≤ 99 := by have := hq 4 (by omega); omega
        refine xi_goto (pc' := 26) kc_129_22 rfl ?_
        obtain ⟨v794, ev794⟩ : ∃ q : Int32, v790 + v793 = q := ⟨_, rfl⟩
        have zv794 : v794.toInt = (v790.toInt + v793.toInt) := by rw [← ev794]; exact (xz_add (X := v790.toInt) (Y := v793.toInt) rfl rfl (by omega) (by omega)).trans (by omega)
        refine xi_iadd (pc' := 27) (v := v794) kc_129_26 rfl ev794 ?_
        refine xi_ireturn kc_129_27 mr_129 rfl ?_
        show xw J ov (d + 4) 128 (66, [(8, .int v788), (7, .int v785), (6, .int v781), (5, .ref 23), (0, .ref 1), (1, .ref 63), (2, .int 4), (3, .int x3), (4, .int x4)], [.int v794, .int v789, .int v781], hh777) _
        obtain ⟨v795, ev795⟩ : ∃ q : Int32, (v789 : Int32) * v794 = q := ⟨_, rfl⟩
        have rv795 := xc_rng v795
        refine xi_imul (pc' := 67) (v := v795) kc_128_66 rfl ev795 ?_
        refine xi_bipush (pc' := 69) (v := 100) kc_128_67 rfl rfl ?_
        obtain ⟨v796, ev796⟩ : ∃ q : Int32, v795 / 100 = q := ⟨_, rfl⟩
        have dv796 : 100 * v796.toInt ≤ v795.toInt + 99 ∧ v795.toInt ≤ 100 * v796.toInt + 99 := by rw [← ev796]; exact xz_div (X := v795.toInt) (Y := 100) rfl (by decide) (by decide)
        have bv796 : -21474837 ≤ v796.toInt ∧ v796.toInt ≤ 21474837 := by omega
        refine xi_idiv (pc' := 70) (v := v796) kc_128_69 rfl ev796 (by decide) ?_
        obtain ⟨v797, ev797⟩ : ∃ q : Int32, (v781 : Int32) - v796 = q := ⟨_, rfl⟩
        have rv797 := xc_rng v797
        refine xi_isub (pc' := 71) (v := v797) kc_128_70 rfl ev797 ?_
        refine xi_istore (pc' := 73) (lv' := [(6, .int v797), (8, .int v788), (7, .int v785), (5, .ref 23), (0, .ref 1), (1, .ref 63), (2, .int 4), (3, .int x3), (4, .int x4)]) kc_128_71 rfl rfl (xm_lt ml_128 rfl) ?_
        refine xi_aload (pc' := 75) (x := 23) kc_128_73 rfl rfl ?_
        refine xi_getfield (pc' := 78) (v := .ref 24) kc_128_75 rfl rfl rfl A782 rfl ?_
        refine xi_iconst (pc' := 79) (v := 1) kc_128_78 rfl rfl ?_
        obtain ⟨v798, ev798, bv798, dv798⟩ := xj_get hy783 ry783 (i := 1) (by decide) (by decide)
        refine xi_iaload (pc' := 80) (v := v798) kc_128_79 rfl A783 (by decide) rfl (xi_in (by decide) (by rw [hy783]; decide)) ev798 ?_
        have hlv798 : v798.toInt = (st 4) 1 := xrp_ldc R784 (k := 1) (by decide) (by decide) ev798
        have brv798 : 0 ≤ v798.toInt ∧ v798.toInt ≤ 99 := by have := hq 4 (by omega); omega
        refine xi_istore (pc' := 82) (lv' := [(9, .int v798), (6, .int v797), (8, .int v788), (7, .int v785), (5, .ref 23), (0, .ref 1), (1, .ref 63), (2, .int 4), (3, .int x3), (4, .int x4)]) kc_128_80 rfl rfl (xm_lt ml_128 rfl) ?_
        refine xi_iload (pc' := 84) (x := v785) kc_128_82 rfl rfl ?_
        refine xi_iload (pc' := 86) (x := v798) kc_128_84 rfl rfl ?_
        refine xi_static (mj := 102) (as := [.int v798]) (st1 := [.int v785]) (lv0 := [(0, .int v798)]) kc_128_86 rfl rfl (Nat.le_of_ble_eq_true rfl) rfl rfl (Nat.le_of_ble_eq_true rfl) (hJ _ _ _ _ (by decide)) (xm_le ml_102 rfl) rfl ?_
        refine xw_gx hJ hov1 hov2 (d := d + 1) (x0 := v798) (by omega) (fun r799 hr799 br799 => ?_)
        show xw J ov (d + 4) 128 (89, [(9, .int v798), (6, .int v797), (8, .int v788), (7, .int v785), (5, .ref 23), (0, .ref 1), (1, .ref 63), (2, .int 4), (3, .int x3), (4, .int x4)], [.int r799, .int v785], hh777) _
        obtain ⟨v800, ev800⟩ : ∃ q : Int32, (v785 : Int32) * r799 = q := ⟨_, rfl⟩
        have rv800 := xc_rng v800
        refine xi_imul (pc' := 90) (v := v800) kc_128_89 rfl ev800 ?_
        refine xi_istore (pc' := 92) (lv' := [(10, .int v800), (9, .int v798), (6, .int v797), (8, .int v788), (7, .int v785), (5, .ref 23), (0, .ref 1), (1, .ref 63), (2, .int 4), (3, .int x3), (4, .int x4)]) kc_128_90 rfl rfl (xm_lt ml_128 rfl) ?_
        refine xi_iload (pc' := 94) (x := v797) kc_128_92 rfl rfl ?_
        refine xi_iload (pc' := 96) (x := v800) kc_128_94 rfl rfl ?_
        by_cases c801 : v797.toInt ≤ v800.toInt
        · refine xi_cmt (pc' := 119) kc_128_96 rfl (xc_le_t (X := v797.toInt) (Y := v800.toInt) rfl rfl (by omega)) ?_
          refine xi_aload_n (pc' := 120) (x := 63) kc_128_119 rfl rfl ?_
          refine xi_getfield (pc' := 123) (v := .ref 64) kc_128_120 rfl rfl rfl A780 rfl ?_
          refine xi_iload_n (pc' := 124) (x := 4) kc_128_123 rfl rfl ?_
          refine xi_iload (pc' := 126) (x := v797) kc_128_124 rfl rfl ?_
          obtain ⟨y802, s802, hy802, ry802⟩ := xj_set (v := v797) hy777 ry777 4 (by first | omega | decide) (by first | omega | decide)
          refine xi_iastore (pc' := 127) (x' := y802) kc_128_126 rfl eh777.1 rfl (xi_in (by decide) (by rw [hy777]; decide)) s802 (fun hh802 eh802 => ?_)
          have K803 := xk_pa K778 (xk_wa (by decide +kernel)) xD_64 hy802 ry802 eh802
          have R804 : xrp y802 6 (xup (xup gw 4 (v775 : Int32).toInt) 4 (v797 : Int32).toInt) := xrp_setc R779 s802 (by decide) rfl
          refine xi_return kc_128_127 mr_128 ?_
          have hqr := hq 4 (by omega)
          have hwr := hw 4 (by omega)
          have em : Int32.toNatClampNeg v764 = (hr % 24).toNat := xcl3 (by omega) (by omega)
          have hmr : 0 ≤ C 24 (hr % 24).toNat ∧ C 24 (hr % 24).toNat ≤ 999 := hC.2.2.2.2.2 4 (by omega) (hr % 24).toNat (by omega)
          rw [em] at hlv768
          have n1 : Int32.toNatClampNeg 4 = 4 := by decide
          rw [n1] at kk
          have zc99999 : (99999 : Int32).toInt = 99999 := by decide
          have ew : (v781 : Int32).toInt = xcap (gw 4 + C 24 (hr % 24).toNat) := xcap_is (fun z => by omega) (fun z => by omega)
          have hfan := xc_of_fan hq (show 4 < 6 by omega)
          have ec : (v794 : Int32).toInt = st 4 2 + (if st 4 4 = 1 then st 4 3 else 0) := by rw [if_pos (show st 4 4 = 1 by omega)]; omega
          have hcb := xho_b b4.1 b4.2
          have eg : (r799 : Int32).toInt = xho (st 4 1) := by rw [hr799, show (v798 : Int32).toInt = st 4 1 by omega]
          obtain ⟨ha1, ha2, ha3, ha4⟩ := xair ew (show (v785 : Int32).toInt = st 4 0 by omega) hr786 ec eg (xcap_b (by omega)) hqr.1 ⟨by omega, by omega⟩ hfan ⟨by omega, by omega⟩ ev787 ev788 ev789 ev795 ev796 ev797 ev800
          have hv := xro_v ha1 ha3
          have hW := xrp_fn R804 (show _ = (xup gw 4 (xro (gw 4) (C 24 (hr % 24).toNat) (st 4 0) (st 4 1) (st 4 2 + (if st 4 4 = 1 then st 4 3 else 0)) (xho x4.toInt))) from (congrArg (xup _ 4) (show (v797 : Int32).toInt = _ from hv.2 (by omega))).trans xup_2)
          exact kk hh802 K803 (xra_mk eh802.1 hW)
        · refine xi_cmf (pc' := 99) kc_128_96 rfl (xc_le_f (X := v797.toInt) (Y := v800.toInt) rfl rfl (by omega)) ?_
          refine xi_aload_n (pc' := 100) (x := 1) kc_128_99 rfl rfl ?_
          refine xi_aload_n (pc' := 101) (x := 63) kc_128_100 rfl rfl ?_
          refine xi_iload_n (pc' := 102) (x := 4) kc_128_101 rfl rfl ?_
          refine xi_iload (pc' := 104) (x := v797) kc_128_102 rfl rfl ?_
          refine xi_iload (pc' := 106) (x := v800) kc_128_104 rfl rfl ?_
          obtain ⟨v805, ev805⟩ : ∃ q : Int32, (v797 : Int32) - v800 = q := ⟨_, rfl⟩
          have rv805 := xc_rng v805
          refine xi_isub (pc' := 107) (v := v805) kc_128_106 rfl ev805 ?_
          refine xi_iload (pc' := 109) (x := v798) kc_128_107 rfl rfl ?_
          refine xi_iload (pc' := 111) (x := x4) kc_128_109 rfl rfl ?_
          obtain ⟨v806, ev806⟩ : ∃ q : Int32, v798 - x4 = q := ⟨_, rfl⟩
          have zv806 : v806.toInt = (v798.toInt + (-1) * x4.toInt) := by rw [← ev806]; exact (xz_sub (X := v798.toInt) (Y := x4.toInt) rfl rfl (by omega) (by omega)).trans (by omega)
          refine xi_isub (pc' := 112) (v := v806) kc_128_111 rfl ev806 ?_
          have A807 := ((eh777.2.1 1 (by decide)).trans A3)
          refine xi_virtual (mj := 130) (as := [.ref 63, .int 4, .int v805, .int v806]) (st1 := []) (lv0 := [(0, .ref 1), (1, .ref 63), (2, .int 4), (3, .int v805), (4, .int v806)]) kc_128_112 rfl rfl rfl rfl rfl A807 (Nat.le_of_ble_eq_true rfl) (hJ _ _ _ _ (by decide)) (xm_le ml_130 rfl) rfl ?_
          have zc4 : (4 : Int32).toInt = 4 := by decide
          refine mt_130_0 hJ hov1 hov2 (d := d + 1) (x2 := 4) (x3 := v805) (x4 := v806) K778.1 (by first | omega | decide) (fun hh809 K810 => ?_)
          have A811 := ((eh777.2.1 25 (by decide)).trans A766)
          have K812 := xk_tr K778 K810 (xsb_ok _ _ (by decide +kernel))
          obtain ⟨u813, u814, bu813, bu814, A815⟩ := xq_1 K812.1
          have C816 : xcX hh809 C := xcX_k C0 K812 (by decide +kernel)
          have hfu813 : u813.toInt = (C 11 0) := xfi_ld C816.1 A815 rfl
          have e817 : u1 = u813 := xk_eqi (q := 5) K810 (by decide +kernel) A807 A815 rfl rfl
          subst e817
          have A818 := xk_eqa (q := 0) K810 (by decide +kernel) A811
          obtain ⟨u819, u820, bu819, bu820, A821⟩ := xq_63 K812.1
          have hfu820 : u820.toInt = 63 := xfi_ld C816.2.2.2.2.2.2.2.2.2.2.2.2.2.2.2.2.2.2.2 A821 rfl
          have e822 : u769 = u819 := xk_eqi (q := 2) K810 (by decide +kernel) A780 A821 rfl rfl
          subst e822
          have e823 : u770 = u820 := xk_eqi (q := 3) K810 (by decide +kernel) A780 A821 rfl rfl
          subst e823
          have A824 := xk_eqa (q := 0) K810 (by decide +kernel) eh777.1
          have A825 := xk_eqa (q := 0) K810 (by decide +kernel) A783
          show xw J ov (d + 4) 128 (115, [(10, .int v800), (9, .int v798), (6, .int v797), (8, .int v788), (7, .int v785), (5, .ref 23), (0, .ref 1), (1, .ref 63), (2, .int 4), (3, .int x3), (4, .int x4)], [], hh809) _
          refine xi_iload (pc' := 117) (x := v800) kc_128_115 rfl rfl ?_
          refine xi_istore (pc' := 119) (lv' := [(6, .int v800), (10, .int v800), (9, .int v798), (8, .int v788), (7, .int v785), (5, .ref 23), (0, .ref 1), (1, .ref 63), (2, .int 4), (3, .int x3), (4, .int x4)]) kc_128_117 rfl rfl (xm_lt ml_128 rfl) ?_
          refine xi_aload_n (pc' := 120) (x := 63) kc_128_119 rfl rfl ?_
          refine xi_getfield (pc' := 123) (v := .ref 64) kc_128_120 rfl rfl rfl A821 rfl ?_
          refine xi_iload_n (pc' := 124) (x := 4) kc_128_123 rfl rfl ?_
          refine xi_iload (pc' := 126) (x := v800) kc_128_124 rfl rfl ?_
          obtain ⟨y826, s826, hy826, ry826⟩ := xj_set (v := v800) hy777 ry777 4 (by first | omega | decide) (by first | omega | decide)
          refine xi_iastore (pc' := 127) (x' := y826) kc_128_126 rfl A824 rfl (xi_in (by decide) (by rw [hy777]; decide)) s826 (fun hh826 eh826 => ?_)
          have K827 := xk_pa K812 (xk_wa (by decide +kernel)) xD_64 hy826 ry826 eh826
          have R828 : xrp y826 6 (xup (xup gw 4 (v775 : Int32).toInt) 4 (v800 : Int32).toInt) := xrp_setc R779 s826 (by decide) rfl
          refine xi_return kc_128_127 mr_128 ?_
          have hqr := hq 4 (by omega)
          have hwr := hw 4 (by omega)
          have em : Int32.toNatClampNeg v764 = (hr % 24).toNat := xcl3 (by omega) (by omega)
          have hmr : 0 ≤ C 24 (hr % 24).toNat ∧ C 24 (hr % 24).toNat ≤ 999 := hC.2.2.2.2.2 4 (by omega) (hr % 24).toNat (by omega)
          rw [em] at hlv768
          have n1 : Int32.toNatClampNeg 4 = 4 := by decide
          rw [n1] at kk
          have zc99999 : (99999 : Int32).toInt = 99999 := by decide
          have ew : (v781 : Int32).toInt = xcap (gw 4 + C 24 (hr % 24).toNat) := xcap_is (fun z => by omega) (fun z => by omega)
          have hfan := xc_of_fan hq (show 4 < 6 by omega)
          have ec : (v794 : Int32).toInt = st 4 2 + (if st 4 4 = 1 then st 4 3 else 0) := by rw [if_pos (show st 4 4 = 1 by omega)]; omega
          have hcb := xho_b b4.1 b4.2
          have eg : (r799 : Int32).toInt = xho (st 4 1) := by rw [hr799, show (v798 : Int32).toInt = st 4 1 by omega]
          obtain ⟨ha1, ha2, ha3, ha4⟩ := xair ew (show (v785 : Int32).toInt = st 4 0 by omega) hr786 ec eg (xcap_b (by omega)) hqr.1 ⟨by omega, by omega⟩ hfan ⟨by omega, by omega⟩ ev787 ev788 ev789 ev795 ev796 ev797 ev800
          have hv := xro_v ha1 ha3
          have hW := xrp_fn R828 (show _ = (xup gw 4 (xro (gw 4) (C 24 (hr % 24).toNat) (st 4 0) (st 4 1) (st 4 2 + (if st 4 4 = 1 then st 4 3 else 0)) (xho x4.toInt))) from (congrArg (xup _ 4) (show (v800 : Int32).toInt = _ from hv.1 (by omega))).trans xup_2)
          exact kk hh826 K827 (xra_mk eh826.1 hW)
      · refine xi_cmt (pc' := 25) kc_129_13 rfl (xc_ne_t (X := v791.toInt) (Y := 1) rfl (by decide) (by omega)) ?_
        refine xi_iconst (pc' := 26) (v := 0) kc_129_25 rfl rfl ?_
        obtain ⟨v829, ev829⟩ : ∃ q : Int32, v790 + 0 = q := ⟨_, rfl⟩
        have zv829 : v829.toInt = v790.toInt := by rw [← ev829]; exact (xz_add (X := v790.toInt) (Y := 0) rfl (by decide) (by omega) (by omega)).trans (by omega)
        refine xi_iadd (pc' := 27) (v := v829) kc_129_26 rfl ev829 ?_
        refine xi_ireturn kc_129_27 mr_129 rfl ?_
        show xw J ov (d + 4) 128 (66, [(8, .int v788), (7, .int v785), (6, .int v781), (5, .ref 23), (0, .ref 1), (1, .ref 63), (2, .int 4), (3, .int x3), (4, .int x4)], [.int v829, .int v789, .int v781], hh777) _
        obtain ⟨v830, ev830⟩ : ∃ q : Int32, (v789 : Int32) * v829 = q := ⟨_, rfl⟩
        have rv830 := xc_rng v830
        refine xi_imul (pc' := 67) (v := v830) kc_128_66 rfl ev830 ?_
        refine xi_bipush (pc' := 69) (v := 100) kc_128_67 rfl rfl ?_
        obtain ⟨v831, ev831⟩ : ∃ q : Int32, v830 / 100 = q := ⟨_, rfl⟩
        have dv831 : 100 * v831.toInt ≤ v830.toInt + 99 ∧ v830.toInt ≤ 100 * v831.toInt + 99 := by rw [← ev831]; exact xz_div (X := v830.toInt) (Y := 100) rfl (by decide) (by decide)
        have bv831 : -21474837 ≤ v831.toInt ∧ v831.toInt ≤ 21474837 := by omega
        refine xi_idiv (pc' := 70) (v := v831) kc_128_69 rfl ev831 (by decide) ?_
        obtain ⟨v832, ev832⟩ : ∃ q : Int32, (v781 : Int32) - v831 = q := ⟨_, rfl⟩
        have rv832 := xc_rng v832
        refine xi_isub (pc' := 71) (v := v832) kc_128_70 rfl ev832 ?_
        refine xi_istore (pc' := 73) (lv' := [(6, .int v832), (8, .int v788), (7, .int v785), (5, .ref 23), (0, .ref 1), (1, .ref 63), (2, .int 4), (3, .int x3), (4, .int x4)]) kc_128_71 rfl rfl (xm_lt ml_128 rfl) ?_
        refine xi_aload (pc' := 75) (x := 23) kc_128_73 rfl rfl ?_
        refine xi_getfield (pc' := 78) (v := .ref 24) kc_128_75 rfl rfl rfl A782 rfl ?_
        refine xi_iconst (pc' := 79) (v := 1) kc_128_78 rfl rfl ?_
        obtain ⟨v833, ev833, bv833, dv833⟩ := xj_get hy783 ry783 (i := 1) (by decide) (by decide)
        refine xi_iaload (pc' := 80) (v := v833) kc_128_79 rfl A783 (by decide) rfl (xi_in (by decide) (by rw [hy783]; decide)) ev833 ?_
        have hlv833 : v833.toInt = (st 4) 1 := xrp_ldc R784 (k := 1) (by decide) (by decide) ev833
        have brv833 : 0 ≤ v833.toInt ∧ v833.toInt ≤ 99 := by have := hq 4 (by omega); omega
        refine xi_istore (pc' := 82) (lv' := [(9, .int v833), (6, .int v832), (8, .int v788), (7, .int v785), (5, .ref 23), (0, .ref 1), (1, .ref 63), (2, .int 4), (3, .int x3), (4, .int x4)]) kc_128_80 rfl rfl (xm_lt ml_128 rfl) ?_
        refine xi_iload (pc' := 84) (x := v785) kc_128_82 rfl rfl ?_
        refine xi_iload (pc' := 86) (x := v833) kc_128_84 rfl rfl ?_
        refine xi_static (mj := 102) (as := [.int v833]) (st1 := [.int v785]) (lv0 := [(0, .int v833)]) kc_128_86 rfl rfl (Nat.le_of_ble_eq_true rfl) rfl rfl (Nat.le_of_ble_eq_true rfl) (hJ _ _ _ _ (by decide)) (xm_le ml_102 rfl) rfl ?_
        refine xw_gx hJ hov1 hov2 (d := d + 1) (x0 := v833) (by omega) (fun r834 hr834 br834 => ?_)
        show xw J ov (d + 4) 128 (89, [(9, .int v833), (6, .int v832), (8, .int v788), (7, .int v785), (5, .ref 23), (0, .ref 1), (1, .ref 63), (2, .int 4), (3, .int x3), (4, .int x4)], [.int r834, .int v785], hh777) _
        obtain ⟨v835, ev835⟩ : ∃ q : Int32, (v785 : Int32) * r834 = q := ⟨_, rfl⟩
        have rv835 := xc_rng v835
        refine xi_imul (pc' := 90) (v := v835) kc_128_89 rfl ev835 ?_
        refine xi_istore (pc' := 92) (lv' := [(10, .int v835), (9, .int v833), (6, .int v832), (8, .int v788), (7, .int v785), (5, .ref 23), (0, .ref 1), (1, .ref 63), (2, .int 4), (3, .int x3), (4, .int x4)]) kc_128_90 rfl rfl (xm_lt ml_128 rfl) ?_
        refine xi_iload (pc' := 94) (x := v832) kc_128_92 rfl rfl ?_
        refine xi_iload (pc' := 96) (x := v835) kc_128_94 rfl rfl ?_
        by_cases c836 : v832.toInt ≤ v835.toInt
        · refine xi_cmt (pc' := 119) kc_128_96 rfl (xc_le_t (X := v832.toInt) (Y := v835.toInt) rfl rfl (by omega)) ?_
          refine xi_aload_n (pc' := 120) (x := 63) kc_128_119 rfl rfl ?_
          refine xi_getfield (pc' := 123) (v := .ref 64) kc_128_120 rfl rfl rfl A780 rfl ?_
          refine xi_iload_n (pc' := 124) (x := 4) kc_128_123 rfl rfl ?_
          refine xi_iload (pc' := 126) (x := v832) kc_128_124 rfl rfl ?_
          obtain ⟨y837, s837, hy837, ry837⟩ := xj_set (v := v832) hy777 ry777 4 (by first | omega | decide) (by first | omega | decide)
          refine xi_iastore (pc' := 127) (x' := y837) kc_128_126 rfl eh777.1 rfl (xi_in (by decide) (by rw [hy777]; decide)) s837 (fun hh837 eh837 => ?_)
          have K838 := xk_pa K778 (xk_wa (by decide +kernel)) xD_64 hy837 ry837 eh837
          have R839 : xrp y837 6 (xup (xup gw 4 (v775 : Int32).toInt) 4 (v832 : Int32).toInt) := xrp_setc R779 s837 (by decide) rfl
          refine xi_return kc_128_127 mr_128 ?_
          have hqr := hq 4 (by omega)
          have hwr := hw 4 (by omega)
          have em : Int32.toNatClampNeg v764 = (hr % 24).toNat := xcl3 (by omega) (by omega)
          have hmr : 0 ≤ C 24 (hr % 24).toNat ∧ C 24 (hr % 24).toNat ≤ 999 := hC.2.2.2.2.2 4 (by omega) (hr % 24).toNat (by omega)
          rw [em] at hlv768
          have n1 : Int32.toNatClampNeg 4 = 4 := by decide
          rw [n1] at kk
          have zc99999 : (99999 : Int32).toInt = 99999 := by decide
          have ew : (v781 : Int32).toInt = xcap (gw 4 + C 24 (hr % 24).toNat) := xcap_is (fun z => by omega) (fun z => by omega)
          have hfan := xc_of_fan hq (show 4 < 6 by omega)
          have ec : (v829 : Int32).toInt = st 4 2 + (if st 4 4 = 1 then st 4 3 else 0) := by rw [if_neg (show ¬ st 4 4 = 1 by omega)]; omega
          have hcb := xho_b b4.1 b4.2
          have eg : (r834 : Int32).toInt = xho (st 4 1) := by rw [hr834, show (v833 : Int32).toInt = st 4 1 by omega]
          obtain ⟨ha1, ha2, ha3, ha4⟩ := xair ew (show (v785 : Int32).toInt = st 4 0 by omega) hr786 ec eg (xcap_b (by omega)) hqr.1 ⟨by omega, by omega⟩ hfan ⟨by omega, by omega⟩ ev787 ev788 ev789 ev830 ev831 ev832 ev835
          have hv := xro_v ha1 ha3
          have hW := xrp_fn R839 (show _ = (xup gw 4 (xro (gw 4) (C 24 (hr % 24).toNat) (st 4 0) (st 4 1) (st 4 2 + (if st 4 4 = 1 then st 4 3 else 0)) (xho x4.toInt))) from (congrArg (xup _ 4) (show (v832 : Int32).toInt = _ from hv.2 (by omega))).trans xup_2)
          exact kk hh837 K838 (xra_mk eh837.1 hW)
        · refine xi_cmf (pc' := 99) kc_128_96 rfl (xc_le_f (X := v832.toInt) (Y := v835.toInt) rfl rfl (by omega)) ?_
          refine xi_aload_n (pc' := 100) (x := 1) kc_128_99 rfl rfl ?_
          refine xi_aload_n (pc' := 101) (x := 63) kc_128_100 rfl rfl ?_
          refine xi_iload_n (pc' := 102) (x := 4) kc_128_101 rfl rfl ?_
          refine xi_iload (pc' := 104) (x := v832) kc_128_102 rfl rfl ?_
          refine xi_iload (pc' := 106) (x := v835) kc_128_104 rfl rfl ?_
          obtain ⟨v840, ev840⟩ : ∃ q : Int32, (v832 : Int32) - v835 = q := ⟨_, rfl⟩
          have rv840 := xc_rng v840
          refine xi_isub (pc' := 107) (v := v840) kc_128_106 rfl ev840 ?_
          refine xi_iload (pc' := 109) (x := v833) kc_128_107 rfl rfl ?_
          refine xi_iload (pc' := 111) (x := x4) kc_128_109 rfl rfl ?_
          obtain ⟨v841, ev841⟩ : ∃ q : Int32, v833 - x4 = q := ⟨_, rfl⟩
          have zv841 : v841.toInt = (v833.toInt + (-1) * x4.toInt) := by rw [← ev841]; exact (xz_sub (X := v833.toInt) (Y := x4.toInt) rfl rfl (by omega) (by omega)).trans (by omega)
          refine xi_isub (pc' := 112) (v := v841) kc_128_111 rfl ev841 ?_
          have A842 := ((eh777.2.1 1 (by decide)).trans A3)
          refine xi_virtual (mj := 130) (as := [.ref 63, .int 4, .int v840, .int v841]) (st1 := []) (lv0 := [(0, .ref 1), (1, .ref 63), (2, .int 4), (3, .int v840), (4, .int v841)]) kc_128_112 rfl rfl rfl rfl rfl A842 (Nat.le_of_ble_eq_true rfl) (hJ _ _ _ _ (by decide)) (xm_le ml_130 rfl) rfl ?_
          have zc4 : (4 : Int32).toInt = 4 := by decide
          refine mt_130_0 hJ hov1 hov2 (d := d + 1) (x2 := 4) (x3 := v840) (x4 := v841) K778.1 (by first | omega | decide) (fun hh844 K845 => ?_)
          have A846 := ((eh777.2.1 25 (by decide)).trans A766)
          have K847 := xk_tr K778 K845 (xsb_ok _ _ (by decide +kernel))
          obtain ⟨u848, u849, bu848, bu849, A850⟩ := xq_1 K847.1
          have C851 : xcX hh844 C := xcX_k C0 K847 (by decide +kernel)
          have hfu848 : u848.toInt = (C 11 0) := xfi_ld C851.1 A850 rfl
          have e852 : u1 = u848 := xk_eqi (q := 5) K845 (by decide +kernel) A842 A850 rfl rfl
          subst e852
          have A853 := xk_eqa (q := 0) K845 (by decide +kernel) A846
          obtain ⟨u854, u855, bu854, bu855, A856⟩ := xq_63 K847.1
          have hfu855 : u855.toInt = 63 := xfi_ld C851.2.2.2.2.2.2.2.2.2.2.2.2.2.2.2.2.2.2.2 A856 rfl
          have e857 : u769 = u854 := xk_eqi (q := 2) K845 (by decide +kernel) A780 A856 rfl rfl
          subst e857
          have e858 : u770 = u855 := xk_eqi (q := 3) K845 (by decide +kernel) A780 A856 rfl rfl
          subst e858
          have A859 := xk_eqa (q := 0) K845 (by decide +kernel) eh777.1
          have A860 := xk_eqa (q := 0) K845 (by decide +kernel) A783
          show xw J ov (d + 4) 128 (115, [(10, .int v835), (9, .int v833), (6, .int v832), (8, .int v788), (7, .int v785), (5, .ref 23), (0, .ref 1), (1, .ref 63), (2, .int 4), (3, .int x3), (4, .int x4)], [], hh844) _
          refine xi_iload (pc' := 117) (x := v835) kc_128_115 rfl rfl ?_
          refine xi_istore (pc' := 119) (lv' := [(6, .int v835), (10, .int v835), (9, .int v833), (8, .int v788), (7, .int v785), (5, .ref 23), (0, .ref 1), (1, .ref 63), (2, .int 4), (3, .int x3), (4, .int x4)]) kc_128_117 rfl rfl (xm_lt ml_128 rfl) ?_
          refine xi_aload_n (pc' := 120) (x := 63) kc_128_119 rfl rfl ?_
          refine xi_getfield (pc' := 123) (v := .ref 64) kc_128_120 rfl rfl rfl A856 rfl ?_
          refine xi_iload_n (pc' := 124) (x := 4) kc_128_123 rfl rfl ?_
          refine xi_iload (pc' := 126) (x := v835) kc_128_124 rfl rfl ?_
          obtain ⟨y861, s861, hy861, ry861⟩ := xj_set (v := v835) hy777 ry777 4 (by first | omega | decide) (by first | omega | decide)
          refine xi_iastore (pc' := 127) (x' := y861) kc_128_126 rfl A859 rfl (xi_in (by decide) (by rw [hy777]; decide)) s861 (fun hh861 eh861 => ?_)
          have K862 := xk_pa K847 (xk_wa (by decide +kernel)) xD_64 hy861 ry861 eh861
          have R863 : xrp y861 6 (xup (xup gw 4 (v775 : Int32).toInt) 4 (v835 : Int32).toInt) := xrp_setc R779 s861 (by decide) rfl
          refine xi_return kc_128_127 mr_128 ?_
          have hqr := hq 4 (by omega)
          have hwr := hw 4 (by omega)
          have em : Int32.toNatClampNeg v764 = (hr % 24).toNat := xcl3 (by omega) (by omega)
          have hmr : 0 ≤ C 24 (hr % 24).toNat ∧ C 24 (hr % 24).toNat ≤ 999 := hC.2.2.2.2.2 4 (by omega) (hr % 24).toNat (by omega)
          rw [em] at hlv768
          have n1 : Int32.toNatClampNeg 4 = 4 := by decide
          rw [n1] at kk
          have zc99999 : (99999 : Int32).toInt = 99999 := by decide
          have ew : (v781 : Int32).toInt = xcap (gw 4 + C 24 (hr % 24).toNat) := xcap_is (fun z => by omega) (fun z => by omega)
          have hfan := xc_of_fan hq (show 4 < 6 by omega)
          have ec : (v829 : Int32).toInt = st 4 2 + (if st 4 4 = 1 then st 4 3 else 0) := by rw [if_neg (show ¬ st 4 4 = 1 by omega)]; omega
          have hcb := xho_b b4.1 b4.2
          have eg : (r834 : Int32).toInt = xho (st 4 1) := by rw [hr834, show (v833 : Int32).toInt = st 4 1 by omega]
          obtain ⟨ha1, ha2, ha3, ha4⟩ := xair ew (show (v785 : Int32).toInt = st 4 0 by omega) hr786 ec eg (xcap_b (by omega)) hqr.1 ⟨by omega, by omega⟩ hfan ⟨by omega, by omega⟩ ev787 ev788 ev789 ev830 ev831 ev832 ev835
          have hv := xro_v ha1 ha3
          have hW := xrp_fn R863 (show _ = (xup gw 4 (xro (gw 4) (C 24 (hr % 24).toNat) (st 4 0) (st 4 1) (st 4 2 + (if st 4 4 = 1 then st 4 3 else 0)) (xho x4.toInt))) from (congrArg (xup _ 4) (show (v835 : Int32).toInt = _ from hv.1 (by omega))).trans xup_2)
          exact kk hh861 K862 (xra_mk eh861.1 hW)
    · refine xi_cmf (pc' := 33) kc_127_30 rfl (xc_le_f (X := (v774.toInt + v768.toInt)) (Y := 99999) zv775 (by decide) (by omega)) ?_
      refine xi_ldc (pc' := 35) (v := 99999) kc_127_33 rfl rfl ?_
      refine xi_goto (pc' := 39) kc_127_35 rfl ?_
      obtain ⟨y864, s864, hy864, ry864⟩ := xj_set (v := 99999) hy772 ry772 4 (by first | omega | decide) (by first | omega | decide)
      refine xi_iastore (pc' := 40) (x' := y864) kc_127_39 rfl A772 rfl (xi_in (by decide) (by rw [hy772]; decide)) s864 (fun hh864 eh864 => ?_)
      have K865 := xk_pa K (xk_wa (by decide +kernel)) xD_64 hy864 ry864 eh864
      have R866 : xrp y864 6 (xup gw 4 (99999 : Int32).toInt) := xrp_setc R773 s864 (by decide) rfl
      refine xi_return kc_127_40 mr_127 ?_
      show xw J ov (d + 4) 128 (25, [(5, .ref 23), (0, .ref 1), (1, .ref 63), (2, .int 4), (3, .int x3), (4, .int x4)], [], hh864) _
      refine xi_aload_n (pc' := 26) (x := 63) kc_128_25 rfl rfl ?_
      have A867 := ((eh864.2.1 63 (by decide)).trans A771)
      refine xi_getfield (pc' := 29) (v := .ref 64) kc_128_26 rfl rfl rfl A867 rfl ?_
      refine xi_iload_n (pc' := 30) (x := 4) kc_128_29 rfl rfl ?_
      obtain ⟨v868, ev868, bv868, dv868⟩ := xj_get hy864 ry864 (i := 4) (by decide) (by decide)
      refine xi_iaload (pc' := 31) (v := v868) kc_128_30 rfl eh864.1 (by decide) rfl (xi_in (by decide) (by rw [hy864]; decide)) ev868 ?_
      have hlv868 : v868.toInt = (99999 : Int32).toInt := (xrp_ldc R866 (k := 4) (by decide) (by decide) ev868).trans xup_s
      refine xi_istore (pc' := 33) (lv' := [(6, .int v868), (5, .ref 23), (0, .ref 1), (1, .ref 63), (2, .int 4), (3, .int x3), (4, .int x4)]) kc_128_31 rfl rfl (xm_lt ml_128 rfl) ?_
      refine xi_aload (pc' := 35) (x := 23) kc_128_33 rfl rfl ?_
      have A869 := ((eh864.2.1 23 (by decide)).trans A763)
      refine xi_getfield (pc' := 38) (v := .ref 24) kc_128_35 rfl rfl rfl A869 rfl ?_
      refine xi_iconst (pc' := 39) (v := 0) kc_128_38 rfl rfl ?_
      obtain ⟨y870, A870, hy870, ry870⟩ := xk_arr K865.1 xD_24
      have R871 : xrp y870 5 (st 4) := xra_ld (xg6_k I6 K865 (by decide +kernel)).2.2.2.2.1 A870
      obtain ⟨v872, ev872, bv872, dv872⟩ := xj_get hy870 ry870 (i := 0) (by decide) (by decide)
      refine xi_iaload (pc' := 40) (v := v872) kc_128_39 rfl A870 (by decide) rfl (xi_in (by decide) (by rw [hy870]; decide)) ev872 ?_
      have hlv872 : v872.toInt = (st 4) 0 := xrp_ldc R871 (k := 0) (by decide) (by decide) ev872
      have brv872 : 0 ≤ v872.toInt ∧ v872.toInt ≤ 99 := by have := hq 4 (by omega); omega
      refine xi_istore (pc' := 42) (lv' := [(7, .int v872), (6, .int v868), (5, .ref 23), (0, .ref 1), (1, .ref 63), (2, .int 4), (3, .int x3), (4, .int x4)]) kc_128_40 rfl rfl (xm_lt ml_128 rfl) ?_
      refine xi_iload (pc' := 44) (x := v872) kc_128_42 rfl rfl ?_
      refine xi_iload (pc' := 46) (x := x4) kc_128_44 rfl rfl ?_
      refine xi_static (mj := 102) (as := [.int x4]) (st1 := [.int v872]) (lv0 := [(0, .int x4)]) kc_128_46 rfl rfl (Nat.le_of_ble_eq_true rfl) rfl rfl (Nat.le_of_ble_eq_true rfl) (hJ _ _ _ _ (by decide)) (xm_le ml_102 rfl) rfl ?_
      refine xw_gx hJ hov1 hov2 (d := d + 1) (x0 := x4) (by omega) (fun r873 hr873 br873 => ?_)
      show xw J ov (d + 4) 128 (49, [(7, .int v872), (6, .int v868), (5, .ref 23), (0, .ref 1), (1, .ref 63), (2, .int 4), (3, .int x3), (4, .int x4)], [.int r873, .int v872], hh864) _
      obtain ⟨v874, ev874⟩ : ∃ q : Int32, (v872 : Int32) * r873 = q := ⟨_, rfl⟩
      have rv874 := xc_rng v874
      refine xi_imul (pc' := 50) (v := v874) kc_128_49 rfl ev874 ?_
      refine xi_iconst (pc' := 51) (v := 2) kc_128_50 rfl rfl ?_
      obtain ⟨v875, ev875⟩ : ∃ q : Int32, v874 / 2 = q := ⟨_, rfl⟩
      have dv875 : 2 * v875.toInt ≤ v874.toInt + 1 ∧ v874.toInt ≤ 2 * v875.toInt + 1 := by rw [← ev875]; exact xz_div (X := v874.toInt) (Y := 2) rfl (by decide) (by decide)
      have bv875 : -1073741825 ≤ v875.toInt ∧ v875.toInt ≤ 1073741824 := by omega
      refine xi_idiv (pc' := 52) (v := v875) kc_128_51 rfl ev875 (by decide) ?_
      refine xi_istore (pc' := 54) (lv' := [(8, .int v875), (7, .int v872), (6, .int v868), (5, .ref 23), (0, .ref 1), (1, .ref 63), (2, .int 4), (3, .int x3), (4, .int x4)]) kc_128_52 rfl rfl (xm_lt ml_128 rfl) ?_
      refine xi_iload (pc' := 56) (x := v868) kc_128_54 rfl rfl ?_
      refine xi_iload (pc' := 58) (x := v868) kc_128_56 rfl rfl ?_
      refine xi_iload (pc' := 60) (x := v875) kc_128_58 rfl rfl ?_
      obtain ⟨v876, ev876⟩ : ∃ q : Int32, (v868 : Int32) - v875 = q := ⟨_, rfl⟩
      have rv876 := xc_rng v876
      refine xi_isub (pc' := 61) (v := v876) kc_128_60 rfl ev876 ?_
      refine xi_aload (pc' := 63) (x := 23) kc_128_61 rfl rfl ?_
      refine xi_virtual (mj := 129) (as := []) (st1 := [.int v876, .int v868]) (lv0 := [(0, .ref 23)]) kc_128_63 rfl rfl rfl rfl rfl A869 (Nat.le_of_ble_eq_true rfl) (hJ _ _ _ _ (by decide)) (xm_le ml_129 rfl) rfl ?_
      refine xi_aload_n (pc' := 1) (x := 23) kc_129_0 rfl rfl ?_
      refine xi_getfield (pc' := 4) (v := .ref 24) kc_129_1 rfl rfl rfl A869 rfl ?_
      refine xi_iconst (pc' := 5) (v := 2) kc_129_4 rfl rfl ?_
      obtain ⟨v877, ev877, bv877, dv877⟩ := xj_get hy870 ry870 (i := 2) (by decide) (by decide)
      refine xi_iaload (pc' := 6) (v := v877) kc_129_5 rfl A870 (by decide) rfl (xi_in (by decide) (by rw [hy870]; decide)) ev877 ?_
      have hlv877 : v877.toInt = (st 4) 2 := xrp_ldc R871 (k := 2) (by decide) (by decide) ev877
      have brv877 : 0 ≤ v877.toInt ∧ v877.toInt ≤ 99 := by have := hq 4 (by omega); omega
      refine xi_aload_n (pc' := 7) (x := 23) kc_129_6 rfl rfl ?_
      refine xi_getfield (pc' := 10) (v := .ref 24) kc_129_7 rfl rfl rfl A869 rfl ?_
      refine xi_iconst (pc' := 11) (v := 4) kc_129_10 rfl rfl ?_
      obtain ⟨v878, ev878, bv878, dv878⟩ := xj_get hy870 ry870 (i := 4) (by decide) (by decide)
      refine xi_iaload (pc' := 12) (v := v878) kc_129_11 rfl A870 (by decide) rfl (xi_in (by decide) (by rw [hy870]; decide)) ev878 ?_
      have hlv878 : v878.toInt = (st 4) 4 := xrp_ldc R871 (k := 4) (by decide) (by decide) ev878
      have brv878 : 0 ≤ v878.toInt ∧ v878.toInt ≤ 99 := by have := hq 4 (by omega); omega
      refine xi_iconst (pc' := 13) (v := 1) kc_129_12 rfl rfl ?_
      by_cases c879 : v878.toInt = 1
      · refine xi_cmf (pc' := 16) kc_129_13 rfl (xc_ne_f (X := v878.toInt) (Y := 1) rfl (by decide) (by omega)) ?_
        refine xi_aload_n (pc' := 17) (x := 23) kc_129_16 rfl rfl ?_
        refine xi_getfield (pc' := 20) (v := .ref 24) kc_129_17 rfl rfl rfl A869 rfl ?_
        refine xi_iconst (pc' := 21) (v := 3) kc_129_20 rfl rfl ?_
        obtain ⟨v880, ev880, bv880, dv880⟩ := xj_get hy870 ry870 (i := 3) (by decide) (by decide)
        refine xi_iaload (pc' := 22) (v := v880) kc_129_21 rfl A870 (by decide) rfl (xi_in (by decide) (by rw [hy870]; decide)) ev880 ?_
        have hlv880 : v880.toInt = (st 4) 3 := xrp_ldc R871 (k := 3) (by decide) (by decide) ev880
        have brv880 : 0 ≤ v880.toInt ∧ v880.toInt ≤ 99 := by have := hq 4 (by omega); omega
        refine xi_goto (pc' := 26) kc_129_22 rfl ?_
        obtain ⟨v881, ev881⟩ : ∃ q : Int32, v877 + v880 = q := ⟨_, rfl⟩
        have zv881 : v881.toInt = (v877.toInt + v880.toInt) := by rw [← ev881]; exact (xz_add (X := v877.toInt) (Y := v880.toInt) rfl rfl (by omega) (by omega)).trans (by omega)
        refine xi_iadd (pc' := 27) (v := v881) kc_129_26 rfl ev881 ?_
        refine xi_ireturn kc_129_27 mr_129 rfl ?_
        show xw J ov (d + 4) 128 (66, [(8, .int v875), (7, .int v872), (6, .int v868), (5, .ref 23), (0, .ref 1), (1, .ref 63), (2, .int 4), (3, .int x3), (4, .int x4)], [.int v881, .int v876, .int v868], hh864) _
        obtain ⟨v882, ev882⟩ : ∃ q : Int32, (v876 : Int32) * v881 = q := ⟨_, rfl⟩
        have rv882 := xc_rng v882
        refine xi_imul (pc' := 67) (v := v882) kc_128_66 rfl ev882 ?_
        refine xi_bipush (pc' := 69) (v := 100) kc_128_67 rfl rfl ?_
        obtain ⟨v883, ev883⟩ : ∃ q : Int32, v882 / 100 = q := ⟨_, rfl⟩
        have dv883 : 100 * v883.toInt ≤ v882.toInt + 99 ∧ v882.toInt ≤ 100 * v883.toInt + 99 := by rw [← ev883]; exact xz_div (X := v882.toInt) (Y := 100) rfl (by decide) (by decide)
        have bv883 : -21474837 ≤ v883.toInt ∧ v883.toInt ≤ 21474837 := by omega
        refine xi_idiv (pc' := 70) (v := v883) kc_128_69 rfl ev883 (by decide) ?_
        obtain ⟨v884, ev884⟩ : ∃ q : Int32, (v868 : Int32) - v883 = q := ⟨_, rfl⟩
        have rv884 := xc_rng v884
        refine xi_isub (pc' := 71) (v := v884) kc_128_70 rfl ev884 ?_
        refine xi_istore (pc' := 73) (lv' := [(6, .int v884), (8, .int v875), (7, .int v872), (5, .ref 23), (0, .ref 1), (1, .ref 63), (2, .int 4), (3, .int x3), (4, .int x4)]) kc_128_71 rfl rfl (xm_lt ml_128 rfl) ?_
        refine xi_aload (pc' := 75) (x := 23) kc_128_73 rfl rfl ?_
        refine xi_getfield (pc' := 78) (v := .ref 24) kc_128_75 rfl rfl rfl A869 rfl ?_
        refine xi_iconst (pc' := 79) (v := 1) kc_128_78 rfl rfl ?_
        obtain ⟨v885, ev885, bv885, dv885⟩ := xj_get hy870 ry870 (i := 1) (by decide) (by decide)
        refine xi_iaload (pc' := 80) (v := v885) kc_128_79 rfl A870 (by decide) rfl (xi_in (by decide) (by rw [hy870]; decide)) ev885 ?_
        have hlv885 : v885.toInt = (st 4) 1 := xrp_ldc R871 (k := 1) (by decide) (by decide) ev885
        have brv885 : 0 ≤ v885.toInt ∧ v885.toInt ≤ 99 := by have := hq 4 (by omega); omega
        refine xi_istore (pc' := 82) (lv' := [(9, .int v885), (6, .int v884), (8, .int v875), (7, .int v872), (5, .ref 23), (0, .ref 1), (1, .ref 63), (2, .int 4), (3, .int x3), (4, .int x4)]) kc_128_80 rfl rfl (xm_lt ml_128 rfl) ?_
        refine xi_iload (pc' := 84) (x := v872) kc_128_82 rfl rfl ?_
        refine xi_iload (pc' := 86) (x := v885) kc_128_84 rfl rfl ?_
        refine xi_static (mj := 102) (as := [.int v885]) (st1 := [.int v872]) (lv0 := [(0, .int v885)]) kc_128_86 rfl rfl (Nat.le_of_ble_eq_true rfl) rfl rfl (Nat.le_of_ble_eq_true rfl) (hJ _ _ _ _ (by decide)) (xm_le ml_102 rfl) rfl ?_
        refine xw_gx hJ hov1 hov2 (d := d + 1) (x0 := v885) (by omega) (fun r886 hr886 br886 => ?_)
        show xw J ov (d + 4) 128 (89, [(9, .int v885), (6, .int v884), (8, .int v875), (7, .int v872), (5, .ref 23), (0, .ref 1), (1, .ref 63), (2, .int 4), (3, .int x3), (4, .int x4)], [.int r886, .int v872], hh864) _
        obtain ⟨v887, ev887⟩ : ∃ q : Int32, (v872 : Int32) * r886 = q := ⟨_, rfl⟩
        have rv887 := xc_rng v887
        refine xi_imul (pc' := 90) (v := v887) kc_128_89 rfl ev887 ?_
        refine xi_istore (pc' := 92) (lv' := [(10, .int v887), (9, .int v885), (6, .int v884), (8, .int v875), (7, .int v872), (5, .ref 23), (0, .ref 1), (1, .ref 63), (2, .int 4), (3, .int x3), (4, .int x4)]) kc_128_90 rfl rfl (xm_lt ml_128 rfl) ?_
        refine xi_iload (pc' := 94) (x := v884) kc_128_92 rfl rfl ?_
        refine xi_iload (pc' := 96) (x := v887) kc_128_94 rfl rfl ?_
        by_cases c888 : v884.toInt ≤ v887.toInt
        · refine xi_cmt (pc' := 119) kc_128_96 rfl (xc_le_t (X := v884.toInt) (Y := v887.toInt) rfl rfl (by omega)) ?_
          refine xi_aload_n (pc' := 120) (x := 63) kc_128_119 rfl rfl ?_
          refine xi_getfield (pc' := 123) (v := .ref 64) kc_128_120 rfl rfl rfl A867 rfl ?_
          refine xi_iload_n (pc' := 124) (x := 4) kc_128_123 rfl rfl ?_
          refine xi_iload (pc' := 126) (x := v884) kc_128_124 rfl rfl ?_
          obtain ⟨y889, s889, hy889, ry889⟩ := xj_set (v := v884) hy864 ry864 4 (by first | omega | decide) (by first | omega | decide)
          refine xi_iastore (pc' := 127) (x' := y889) kc_128_126 rfl eh864.1 rfl (xi_in (by decide) (by rw [hy864]; decide)) s889 (fun hh889 eh889 => ?_)
          have K890 := xk_pa K865 (xk_wa (by decide +kernel)) xD_64 hy889 ry889 eh889
          have R891 : xrp y889 6 (xup (xup gw 4 (99999 : Int32).toInt) 4 (v884 : Int32).toInt) := xrp_setc R866 s889 (by decide) rfl
          refine xi_return kc_128_127 mr_128 ?_
          have hqr := hq 4 (by omega)
          have hwr := hw 4 (by omega)
          have em : Int32.toNatClampNeg v764 = (hr % 24).toNat := xcl3 (by omega) (by omega)
          have hmr : 0 ≤ C 24 (hr % 24).toNat ∧ C 24 (hr % 24).toNat ≤ 999 := hC.2.2.2.2.2 4 (by omega) (hr % 24).toNat (by omega)
          rw [em] at hlv768
          have n1 : Int32.toNatClampNeg 4 = 4 := by decide
          rw [n1] at kk
          have zc99999 : (99999 : Int32).toInt = 99999 := by decide
          have ew : (v868 : Int32).toInt = xcap (gw 4 + C 24 (hr % 24).toNat) := xcap_is (fun z => by omega) (fun z => by omega)
          have hfan := xc_of_fan hq (show 4 < 6 by omega)
          have ec : (v881 : Int32).toInt = st 4 2 + (if st 4 4 = 1 then st 4 3 else 0) := by rw [if_pos (show st 4 4 = 1 by omega)]; omega
          have hcb := xho_b b4.1 b4.2
          have eg : (r886 : Int32).toInt = xho (st 4 1) := by rw [hr886, show (v885 : Int32).toInt = st 4 1 by omega]
          obtain ⟨ha1, ha2, ha3, ha4⟩ := xair ew (show (v872 : Int32).toInt = st 4 0 by omega) hr873 ec eg (xcap_b (by omega)) hqr.1 ⟨by omega, by omega⟩ hfan ⟨by omega, by omega⟩ ev874 ev875 ev876 ev882 ev883 ev884 ev887
          have hv := xro_v ha1 ha3
          have hW := xrp_fn R891 (show _ = (xup gw 4 (xro (gw 4) (C 24 (hr % 24).toNat) (st 4 0) (st 4 1) (st 4 2 + (if st 4 4 = 1 then st 4 3 else 0)) (xho x4.toInt))) from (congrArg (xup _ 4) (show (v884 : Int32).toInt = _ from hv.2 (by omega))).trans xup_2)
          exact kk hh889 K890 (xra_mk eh889.1 hW)
        · refine xi_cmf (pc' := 99) kc_128_96 rfl (xc_le_f (X := v884.toInt) (Y := v887.toInt) rfl rfl (by omega)) ?_
          refine xi_aload_n (pc' := 100) (x := 1) kc_128_99 rfl rfl ?_
          refine xi_aload_n (pc' := 101) (x := 63) kc_128_100 rfl rfl ?_
          refine xi_iload_n (pc' := 102) (x := 4) kc_128_101 rfl rfl ?_
          refine xi_iload (pc' := 104) (x := v884) kc_128_102 rfl rfl ?_
          refine xi_iload (pc' := 106) (x := v887) kc_128_104 rfl rfl ?_
          obtain ⟨v892, ev892⟩ : ∃ q : Int32, (v884 : Int32) - v887 = q := ⟨_, rfl⟩
          have rv892 := xc_rng v892
          refine xi_isub (pc' := 107) (v := v892) kc_128_106 rfl ev892 ?_
          refine xi_iload (pc' := 109) (x := v885) kc_128_107 rfl rfl ?_
          refine xi_iload (pc' := 111) (x := x4) kc_128_109 rfl rfl ?_
          obtain ⟨v893, ev893⟩ : ∃ q : Int32, v885 - x4 = q := ⟨_, rfl⟩
          have zv893 : v893.toInt = (v885.toInt + (-1) * x4.toInt) := by rw [← ev893]; exact (xz_sub (X := v885.toInt) (Y := x4.toInt) rfl rfl (by omega) (by omega)).trans (by omega)
          refine xi_isub (pc' := 112) (v := v893) kc_128_111 rfl ev893 ?_
          have A894 := ((eh864.2.1 1 (by decide)).trans A3)
          refine xi_virtual (mj := 130) (as := [.ref 63, .int 4, .int v892, .int v893]) (st1 := []) (lv0 := [(0, .ref 1), (1, .ref 63), (2, .int 4), (3, .int v892), (4, .int v893)]) kc_128_112 rfl rfl rfl rfl rfl A894 (Nat.le_of_ble_eq_true rfl) (hJ _ _ _ _ (by decide)) (xm_le ml_130 rfl) rfl ?_
          have zc4 : (4 : Int32).toInt = 4 := by decide
          refine mt_130_0 hJ hov1 hov2 (d := d + 1) (x2 := 4) (x3 := v892) (x4 := v893) K865.1 (by first | omega | decide) (fun hh896 K897 => ?_)
          have A898 := ((eh864.2.1 25 (by decide)).trans A766)
          have K899 := xk_tr K865 K897 (xsb_ok _ _ (by decide +kernel))
          obtain ⟨u900, u901, bu900, bu901, A902⟩ := xq_1 K899.1
          have C903 : xcX hh896 C := xcX_k C0 K899 (by decide +kernel)
          have hfu900 : u900.toInt = (C 11 0) := xfi_ld C903.1 A902 rfl
          have e904 : u1 = u900 := xk_eqi (q := 5) K897 (by decide +kernel) A894 A902 rfl rfl
          subst e904
          have A905 := xk_eqa (q := 0) K897 (by decide +kernel) A898
          obtain ⟨u906, u907, bu906, bu907, A908⟩ := xq_63 K899.1
          have hfu907 : u907.toInt = 63 := xfi_ld C903.2.2.2.2.2.2.2.2.2.2.2.2.2.2.2.2.2.2.2 A908 rfl
          have e909 : u769 = u906 := xk_eqi (q := 2) K897 (by decide +kernel) A867 A908 rfl rfl
          subst e909
          have e910 : u770 = u907 := xk_eqi (q := 3) K897 (by decide +kernel) A867 A908 rfl rfl
          subst e910
          have A911 := xk_eqa (q := 0) K897 (by decide +kernel) eh864.1
          have A912 := xk_eqa (q := 0) K897 (by decide +kernel) A870
          show xw J ov (d + 4) 128 (115, [(10, .int v887), (9, .int v885), (6, .int v884), (8, .int v875), (7, .int v872), (5, .ref 23), (0, .ref 1), (1, .ref 63), (2, .int 4), (3, .int x3), (4, .int x4)], [], hh896) _
          refine xi_iload (pc' := 117) (x := v887) kc_128_115 rfl rfl ?_
          refine xi_istore (pc' := 119) (lv' := [(6, .int v887), (10, .int v887), (9, .int v885), (8, .int v875), (7, .int v872), (5, .ref 23), (0, .ref 1), (1, .ref 63), (2, .int 4), (3, .int x3), (4, .int x4)]) kc_128_117 rfl rfl (xm_lt ml_128 rfl) ?_
          refine xi_aload_n (pc' := 120) (x := 63) kc_128_119 rfl rfl ?_
          refine xi_getfield (pc' := 123) (v := .ref 64) kc_128_120 rfl rfl rfl A908 rfl ?_
          refine xi_iload_n (pc' := 124) (x := 4) kc_128_123 rfl rfl ?_
          refine xi_iload (pc' := 126) (x := v887) kc_128_124 rfl rfl ?_
          obtain ⟨y913, s913, hy913, ry913⟩ := xj_set (v := v887) hy864 ry864 4 (by first | omega | decide) (by first | omega | decide)
          refine xi_iastore (pc' := 127) (x' := y913) kc_128_126 rfl A911 rfl (xi_in (by decide) (by rw [hy864]; decide)) s913 (fun hh913 eh913 => ?_)
          have K914 := xk_pa K899 (xk_wa (by decide +kernel)) xD_64 hy913 ry913 eh913
          have R915 : xrp y913 6 (xup (xup gw 4 (99999 : Int32).toInt) 4 (v887 : Int32).toInt) := xrp_setc R866 s913 (by decide) rfl
          refine xi_return kc_128_127 mr_128 ?_
          have hqr := hq 4 (by omega)
          have hwr := hw 4 (by omega)
          have em : Int32.toNatClampNeg v764 = (hr % 24).toNat := xcl3 (by omega) (by omega)
          have hmr : 0 ≤ C 24 (hr % 24).toNat ∧ C 24 (hr % 24).toNat ≤ 999 := hC.2.2.2.2.2 4 (by omega) (hr % 24).toNat (by omega)
          rw [em] at hlv768
          have n1 : Int32.toNatClampNeg 4 = 4 := by decide
          rw [n1] at kk
          have zc99999 : (99999 : Int32).toInt = 99999 := by decide
          have ew : (v868 : Int32).toInt = xcap (gw 4 + C 24 (hr % 24).toNat) := xcap_is (fun z => by omega) (fun z => by omega)
          have hfan := xc_of_fan hq (show 4 < 6 by omega)
          have ec : (v881 : Int32).toInt = st 4 2 + (if st 4 4 = 1 then st 4 3 else 0) := by rw [if_pos (show st 4 4 = 1 by omega)]; omega
          have hcb := xho_b b4.1 b4.2
          have eg : (r886 : Int32).toInt = xho (st 4 1) := by rw [hr886, show (v885 : Int32).toInt = st 4 1 by omega]
          obtain ⟨ha1, ha2, ha3, ha4⟩ := xair ew (show (v872 : Int32).toInt = st 4 0 by omega) hr873 ec eg (xcap_b (by omega)) hqr.1 ⟨by omega, by omega⟩ hfan ⟨by omega, by omega⟩ ev874 ev875 ev876 ev882 ev883 ev884 ev887
          have hv := xro_v ha1 ha3
          have hW := xrp_fn R915 (show _ = (xup gw 4 (xro (gw 4) (C 24 (hr % 24).toNat) (st 4 0) (st 4 1) (st 4 2 + (if st 4 4 = 1 then st 4 3 else 0)) (xho x4.toInt))) from (congrArg (xup _ 4) (show (v887 : Int32).toInt = _ from hv.1 (by omega))).trans xup_2)
          exact kk hh913 K914 (xra_mk eh913.1 hW)
      · refine xi_cmt (pc' := 25) kc_129_13 rfl (xc_ne_t (X := v878.toInt) (Y := 1) rfl (by decide) (by omega)) ?_
        refine xi_iconst (pc' := 26) (v := 0) kc_129_25 rfl rfl ?_
        obtain ⟨v916, ev916⟩ : ∃ q : Int32, v877 + 0 = q := ⟨_, rfl⟩
        have zv916 : v916.toInt = v877.toInt := by rw [← ev916]; exact (xz_add (X := v877.toInt) (Y := 0) rfl (by decide) (by omega) (by omega)).trans (by omega)
        refine xi_iadd (pc' := 27) (v := v916) kc_129_26 rfl ev916 ?_
        refine xi_ireturn kc_129_27 mr_129 rfl ?_
        show xw J ov (d + 4) 128 (66, [(8, .int v875), (7, .int v872), (6, .int v868), (5, .ref 23), (0, .ref 1), (1, .ref 63), (2, .int 4), (3, .int x3), (4, .int x4)], [.int v916, .int v876, .int v868], hh864) _
        obtain ⟨v917, ev917⟩ : ∃ q : Int32, (v876 : Int32) * v916 = q := ⟨_, rfl⟩
        have rv917 := xc_rng v917
        refine xi_imul (pc' := 67) (v := v917) kc_128_66 rfl ev917 ?_
        refine xi_bipush (pc' := 69) (v := 100) kc_128_67 rfl rfl ?_
        obtain ⟨v918, ev918⟩ : ∃ q : Int32, v917 / 100 = q := ⟨_, rfl⟩
        have dv918 : 100 * v918.toInt ≤ v917.toInt + 99 ∧ v917.toInt ≤ 100 * v918.toInt + 99 := by rw [← ev918]; exact xz_div (X := v917.toInt) (Y := 100) rfl (by decide) (by decide)
        have bv918 : -21474837 ≤ v918.toInt ∧ v918.toInt ≤ 21474837 := by omega
        refine xi_idiv (pc' := 70) (v := v918) kc_128_69 rfl ev918 (by decide) ?_
        obtain ⟨v919, ev919⟩ : ∃ q : Int32, (v868 : Int32) - v918 = q := ⟨_, rfl⟩
        have rv919 := xc_rng v919
        refine xi_isub (pc' := 71) (v := v919) kc_128_70 rfl ev919 ?_
        refine xi_istore (pc' := 73) (lv' := [(6, .int v919), (8, .int v875), (7, .int v872), (5, .ref 23), (0, .ref 1), (1, .ref 63), (2, .int 4), (3, .int x3), (4, .int x4)]) kc_128_71 rfl rfl (xm_lt ml_128 rfl) ?_
        refine xi_aload (pc' := 75) (x := 23) kc_128_73 rfl rfl ?_
        refine xi_getfield (pc' := 78) (v := .ref 24) kc_128_75 rfl rfl rfl A869 rfl ?_
        refine xi_iconst (pc' := 79) (v := 1) kc_128_78 rfl rfl ?_
        obtain ⟨v920, ev920, bv920, dv920⟩ := xj_get hy870 ry870 (i := 1) (by decide) (by decide)
        refine xi_iaload (pc' := 80) (v := v920) kc_128_79 rfl A870 (by decide) rfl (xi_in (by decide) (by rw [hy870]; decide)) ev920 ?_
        have hlv920 : v920.toInt = (st 4) 1 := xrp_ldc R871 (k := 1) (by decide) (by decide) ev920
        have brv920 : 0 ≤ v920.toInt ∧ v920.toInt ≤ 99 := by have := hq 4 (by omega); omega
        refine xi_istore (pc' := 82) (lv' := [(9, .int v920), (6, .int v919), (8, .int v875), (7, .int v872), (5, .ref 23), (0, .ref 1), (1, .ref 63), (2, .int 4), (3, .int x3), (4, .int x4)]) kc_128_80 rfl rfl (xm_lt ml_128 rfl) ?_
        refine xi_iload (pc' := 84) (x := v872) kc_128_82 rfl rfl ?_
        refine xi_iload (pc' := 86) (x := v920) kc_128_84 rfl rfl ?_
        refine xi_static (mj := 102) (as := [.int v920]) (st1 := [.int v872]) (lv0 := [(0, .int v920)]) kc_128_86 rfl rfl (Nat.le_of_ble_eq_true rfl) rfl rfl (Nat.le_of_ble_eq_true rfl) (hJ _ _ _ _ (by decide)) (xm_le ml_102 rfl) rfl ?_
        refine xw_gx hJ hov1 hov2 (d := d + 1) (x0 := v920) (by omega) (fun r921 hr921 br921 => ?_)
        show xw J ov (d + 4) 128 (89, [(9, .int v920), (6, .int v919), (8, .int v875), (7, .int v872), (5, .ref 23), (0, .ref 1), (1, .ref 63), (2, .int 4), (3, .int x3), (4, .int x4)], [.int r921, .int v872], hh864) _
        obtain ⟨v922, ev922⟩ : ∃ q : Int32, (v872 : Int32) * r921 = q := ⟨_, rfl⟩
        have rv922 := xc_rng v922
        refine xi_imul (pc' := 90) (v := v922) kc_128_89 rfl ev922 ?_
        refine xi_istore (pc' := 92) (lv' := [(10, .int v922), (9, .int v920), (6, .int v919), (8, .int v875), (7, .int v872), (5, .ref 23), (0, .ref 1), (1, .ref 63), (2, .int 4), (3, .int x3), (4, .int x4)]) kc_128_90 rfl rfl (xm_lt ml_128 rfl) ?_
        refine xi_iload (pc' := 94) (x := v919) kc_128_92 rfl rfl ?_
        refine xi_iload (pc' := 96) (x := v922) kc_128_94 rfl rfl ?_
        by_cases c923 : v919.toInt ≤ v922.toInt
        · refine xi_cmt (pc' := 119) kc_128_96 rfl (xc_le_t (X := v919.toInt) (Y := v922.toInt) rfl rfl (by omega)) ?_
          refine xi_aload_n (pc' := 120) (x := 63) kc_128_119 rfl rfl ?_
          refine xi_getfield (pc' := 123) (v := .ref 64) kc_128_120 rfl rfl rfl A867 rfl ?_
          refine xi_iload_n (pc' := 124) (x := 4) kc_128_123 rfl rfl ?_
          refine xi_iload (pc' := 126) (x := v919) kc_128_124 rfl rfl ?_
          obtain ⟨y924, s924, hy924, ry924⟩ := xj_set (v := v919) hy864 ry864 4 (by first | omega | decide) (by first | omega | decide)
          refine xi_iastore (pc' := 127) (x' := y924) kc_128_126 rfl eh864.1 rfl (xi_in (by decide) (by rw [hy864]; decide)) s924 (fun hh924 eh924 => ?_)
          have K925 := xk_pa K865 (xk_wa (by decide +kernel)) xD_64 hy924 ry924 eh924
          have R926 : xrp y924 6 (xup (xup gw 4 (99999 : Int32).toInt) 4 (v919 : Int32).toInt) := xrp_setc R866 s924 (by decide) rfl
          refine xi_return kc_128_127 mr_128 ?_
          have hqr := hq 4 (by omega)
          have hwr := hw 4 (by omega)
          have em : Int32.toNatClampNeg v764 = (hr % 24).toNat := xcl3 (by omega) (by omega)
          have hmr : 0 ≤ C 24 (hr % 24).toNat ∧ C 24 (hr % 24).toNat ≤ 999 := hC.2.2.2.2.2 4 (by omega) (hr % 24).toNat (by omega)
          rw [em] at hlv768
          have n1 : Int32.toNatClampNeg 4 = 4 := by decide
          rw [n1] at kk
          have zc99999 : (99999 : Int32).toInt = 99999 := by decide
          have ew : (v868 : Int32).toInt = xcap (gw 4 + C 24 (hr % 24).toNat) := xcap_is (fun z => by omega) (fun z => by omega)
          have hfan := xc_of_fan hq (show 4 < 6 by omega)
          have ec : (v916 : Int32).toInt = st 4 2 + (if st 4 4 = 1 then st 4 3 else 0) := by rw [if_neg (show ¬ st 4 4 = 1 by omega)]; omega
          have hcb := xho_b b4.1 b4.2
          have eg : (r921 : Int32).toInt = xho (st 4 1) := by rw [hr921, show (v920 : Int32).toInt = st 4 1 by omega]
          obtain ⟨ha1, ha2, ha3, ha4⟩ := xair ew (show (v872 : Int32).toInt = st 4 0 by omega) hr873 ec eg (xcap_b (by omega)) hqr.1 ⟨by omega, by omega⟩ hfan ⟨by omega, by omega⟩ ev874 ev875 ev876 ev917 ev918 ev919 ev922
          have hv := xro_v ha1 ha3
          have hW := xrp_fn R926 (show _ = (xup gw 4 (xro (gw 4) (C 24 (hr % 24).toNat) (st 4 0) (st 4 1) (st 4 2 + (if st 4 4 = 1 then st 4 3 else 0)) (xho x4.toInt))) from (congrArg (xup _ 4) (show (v919 : Int32).toInt = _ from hv.2 (by omega))).trans xup_2)
          exact kk hh924 K925 (xra_mk eh924.1 hW)
        · refine xi_cmf (pc' := 99) kc_128_96 rfl (xc_le_f (X := v919.toInt) (Y := v922.toInt) rfl rfl (by omega)) ?_
          refine xi_aload_n (pc' := 100) (x := 1) kc_128_99 rfl rfl ?_
          refine xi_aload_n (pc' := 101) (x := 63) kc_128_100 rfl rfl ?_
          refine xi_iload_n (pc' := 102) (x := 4) kc_128_101 rfl rfl ?_
          refine xi_iload (pc' := 104) (x := v919) kc_128_102 rfl rfl ?_
          refine xi_iload (pc' := 106) (x := v922) kc_128_104 rfl rfl ?_
          obtain ⟨v927, ev927⟩ : ∃ q : Int32, (v919 : Int32) - v922 = q := ⟨_, rfl⟩
          have rv927 := xc_rng v927
          refine xi_isub (pc' := 107) (v := v927) kc_128_106 rfl ev927 ?_
          refine xi_iload (pc' := 109) (x := v920) kc_128_107 rfl rfl ?_
          refine xi_iload (pc' := 111) (x := x4) kc_128_109 rfl rfl ?_
          obtain ⟨v928, ev928⟩ : ∃ q : Int32, v920 - x4 = q := ⟨_, rfl⟩
          have zv928 : v928.toInt = (v920.toInt + (-1) * x4.toInt) := by rw [← ev928]; exact (xz_sub (X := v920.toInt) (Y := x4.toInt) rfl rfl (by omega) (by omega)).trans (by omega)
          refine xi_isub (pc' := 112) (v := v928) kc_128_111 rfl ev928 ?_
          have A929 := ((eh864.2.1 1 (by decide)).trans A3)
          refine xi_virtual (mj := 130) (as := [.ref 63, .int 4, .int v927, .int v928]) (st1 := []) (lv0 := [(0, .ref 1), (1, .ref 63), (2, .int 4), (3, .int v927), (4, .int v928)]) kc_128_112 rfl rfl rfl rfl rfl A929 (Nat.le_of_ble_eq_true rfl) (hJ _ _ _ _ (by decide)) (xm_le ml_130 rfl) rfl ?_
          have zc4 : (4 : Int32).toInt = 4 := by decide
          refine mt_130_0 hJ hov1 hov2 (d := d + 1) (x2 := 4) (x3 := v927) (x4 := v928) K865.1 (by first | omega | decide) (fun hh931 K932 => ?_)
          have A933 := ((eh864.2.1 25 (by decide)).trans A766)
          have K934 := xk_tr K865 K932 (xsb_ok _ _ (by decide +kernel))
          obtain ⟨u935, u936, bu935, bu936, A937⟩ := xq_1 K934.1
          have C938 : xcX hh931 C := xcX_k C0 K934 (by decide +kernel)
          have hfu935 : u935.toInt = (C 11 0) := xfi_ld C938.1 A937 rfl
          have e939 : u1 = u935 := xk_eqi (q := 5) K932 (by decide +kernel) A929 A937 rfl rfl
          subst e939
          have A940 := xk_eqa (q := 0) K932 (by decide +kernel) A933
          obtain ⟨u941, u942, bu941, bu942, A943⟩ := xq_63 K934.1
          have hfu942 : u942.toInt = 63 := xfi_ld C938.2.2.2.2.2.2.2.2.2.2.2.2.2.2.2.2.2.2.2 A943 rfl
          have e944 : u769 = u941 := xk_eqi (q := 2) K932 (by decide +kernel) A867 A943 rfl rfl
          subst e944
          have e945 : u770 = u942 := xk_eqi (q := 3) K932 (by decide +kernel) A867 A943 rfl rfl
          subst e945
          have A946 := xk_eqa (q := 0) K932 (by decide +kernel) eh864.1
          have A947 := xk_eqa (q := 0) K932 (by decide +kernel) A870
          show xw J ov (d + 4) 128 (115, [(10, .int v922), (9, .int v920), (6, .int v919), (8, .int v875), (7, .int v872), (5, .ref 23), (0, .ref 1), (1, .ref 63), (2, .int 4), (3, .int x3), (4, .int x4)], [], hh931) _
          refine xi_iload (pc' := 117) (x := v922) kc_128_115 rfl rfl ?_
          refine xi_istore (pc' := 119) (lv' := [(6, .int v922), (10, .int v922), (9, .int v920), (8, .int v875), (7, .int v872), (5, .ref 23), (0, .ref 1), (1, .ref 63), (2, .int 4), (3, .int x3), (4, .int x4)]) kc_128_117 rfl rfl (xm_lt ml_128 rfl) ?_
          refine xi_aload_n (pc' := 120) (x := 63) kc_128_119 rfl rfl ?_
          refine xi_getfield (pc' := 123) (v := .ref 64) kc_128_120 rfl rfl rfl A943 rfl ?_
          refine xi_iload_n (pc' := 124) (x := 4) kc_128_123 rfl rfl ?_
          refine xi_iload (pc' := 126) (x := v922) kc_128_124 rfl rfl ?_
          obtain ⟨y948, s948, hy948, ry948⟩ := xj_set (v := v922) hy864 ry864 4 (by first | omega | decide) (by first | omega | decide)
          refine xi_iastore (pc' := 127) (x' := y948) kc_128_126 rfl A946 rfl (xi_in (by decide) (by rw [hy864]; decide)) s948 (fun hh948 eh948 => ?_)
          have K949 := xk_pa K934 (xk_wa (by decide +kernel)) xD_64 hy948 ry948 eh948
          have R950 : xrp y948 6 (xup (xup gw 4 (99999 : Int32).toInt) 4 (v922 : Int32).toInt) := xrp_setc R866 s948 (by decide) rfl
          refine xi_return kc_128_127 mr_128 ?_
          have hqr := hq 4 (by omega)
          have hwr := hw 4 (by omega)
          have em : Int32.toNatClampNeg v764 = (hr % 24).toNat := xcl3 (by omega) (by omega)
          have hmr : 0 ≤ C 24 (hr % 24).toNat ∧ C 24 (hr % 24).toNat ≤ 999 := hC.2.2.2.2.2 4 (by omega) (hr % 24).toNat (by omega)
          rw [em] at hlv768
          have n1 : Int32.toNatClampNeg 4 = 4 := by decide
          rw [n1] at kk
          have zc99999 : (99999 : Int32).toInt = 99999 := by decide
          have ew : (v868 : Int32).toInt = xcap (gw 4 + C 24 (hr % 24).toNat) := xcap_is (fun z => by omega) (fun z => by omega)
          have hfan := xc_of_fan hq (show 4 < 6 by omega)
          have ec : (v916 : Int32).toInt = st 4 2 + (if st 4 4 = 1 then st 4 3 else 0) := by rw [if_neg (show ¬ st 4 4 = 1 by omega)]; omega
          have hcb := xho_b b4.1 b4.2
          have eg : (r921 : Int32).toInt = xho (st 4 1) := by rw [hr921, show (v920 : Int32).toInt = st 4 1 by omega]
          obtain ⟨ha1, ha2, ha3, ha4⟩ := xair ew (show (v872 : Int32).toInt = st 4 0 by omega) hr873 ec eg (xcap_b (by omega)) hqr.1 ⟨by omega, by omega⟩ hfan ⟨by omega, by omega⟩ ev874 ev875 ev876 ev917 ev918 ev919 ev922
          have hv := xro_v ha1 ha3
          have hW := xrp_fn R950 (show _ = (xup gw 4 (xro (gw 4) (C 24 (hr % 24).toNat) (st 4 0) (st 4 1) (st 4 2 + (if st 4 4 = 1 then st 4 3 else 0)) (xho x4.toInt))) from (congrArg (xup _ 4) (show (v922 : Int32).toInt = _ from hv.1 (by omega))).trans xup_2)
          exact kk hh948 K949 (xra_mk eh948.1 hW)
  have qx2 : x2 = 5 := xc_of (Eq.trans (by omega) (show (5 : Int) = (5 : Int32).toInt by decide))
  subst qx2
  refine xi_aaload (pc' := 6) (b := 26) kc_128_5 rfl A5 rfl (xi_in (n := 6) (by decide) (by decide)) rfl ?_
  refine xi_astore (pc' := 8) (lv' := [(5, .ref 26), (0, .ref 1), (1, .ref 63), (2, .int 5), (3, .int x3), (4, .int x4)]) kc_128_6 rfl rfl (xm_lt ml_128 rfl) ?_
  refine xi_aload_n (pc' := 9) (x := 63) kc_128_8 rfl rfl ?_
  refine xi_iload_n (pc' := 10) (x := 5) kc_128_9 rfl rfl ?_
  refine xi_aload (pc' := 12) (x := 26) kc_128_10 rfl rfl ?_
  have A951 := xq_26 K.1
  refine xi_getfield (pc' := 15) (v := .ref 28) kc_128_12 rfl rfl rfl A951 rfl ?_
  refine xi_iload_n (pc' := 16) (x := x3) kc_128_15 rfl rfl ?_
  refine xi_bipush (pc' := 18) (v := 24) kc_128_16 rfl rfl ?_
  refine xi_static (mj := 3) (as := [.int x3, .int 24]) (st1 := [.ref 28, .int 5, .ref 63]) (lv0 := [(0, .int x3), (1, .int 24)]) kc_128_18 rfl rfl (Nat.le_of_ble_eq_true rfl) rfl rfl (Nat.le_of_ble_eq_true rfl) (hJ _ _ _ _ (by decide)) (xm_le ml_3 rfl) rfl ?_
  refine xi_iload_n (pc' := 1) (x := x3) kc_3_0 rfl rfl ?_
  refine xi_iload_n (pc' := 2) (x := 24) kc_3_1 rfl rfl ?_
  obtain ⟨v952, ev952⟩ : ∃ q : Int32, x3 - x3 / 24 * 24 = q := ⟨_, rfl⟩
  have dv952 : v952.toInt = x3.toInt % 24 := by rw [← ev952]; exact xz_reme (X := x3.toInt) (Y := 24) rfl (by decide) (by omega) (by decide)
  have bv952 : 0 ≤ v952.toInt ∧ v952.toInt ≤ 23 := by omega
  refine xi_irem (pc' := 3) (v := v952) kc_3_2 rfl ev952 (by decide) ?_
  refine xi_istore_n (pc' := 4) (lv' := [(2, .int v952), (0, .int x3), (1, .int 24)]) kc_3_3 rfl rfl (xm_lt ml_3 rfl) ?_
  refine xi_iload_n (pc' := 5) (x := x3) kc_3_4 rfl rfl ?_
  refine xi_iload_n (pc' := 6) (x := 24) kc_3_5 rfl rfl ?_
  obtain ⟨v953, ev953⟩ : ∃ q : Int32, (x3 : Int32) ^^^ 24 = q := ⟨_, rfl⟩
  have rv953 := xc_rng v953
  have bv953 : 0 ≤ v953.toInt := by rw [← ev953]; exact xz_xor (by first | omega | decide) (by first | omega | decide)
  refine xi_ixor (pc' := 7) (v := v953) kc_3_6 rfl ev953 ?_
  refine xi_ift (pc' := 18) kc_3_7 rfl (xc_ge_t (X := v953.toInt) (Y := 0) rfl (by decide) (by omega)) ?_
  refine xi_iload_n (pc' := 19) (x := v952) kc_3_18 rfl rfl ?_
  refine xi_ireturn kc_3_19 mr_3 rfl ?_
  show xw J ov (d + 4) 128 (21, [(5, .ref 26), (0, .ref 1), (1, .ref 63), (2, .int 5), (3, .int x3), (4, .int x4)], [.int v952, .ref 28, .int 5, .ref 63], h) _
  obtain ⟨y954, A954, hy954, ry954⟩ := xk_arr K.1 xD_28
  have R955 : xrp y954 24 (C 25) := xra_ld C4.2.2.2.2.2.2.2.1 A954
  obtain ⟨v956, ev956, bv956, dv956⟩ := xj_get hy954 ry954 (i := v952) (by omega) (by omega)
  refine xi_iaload (pc' := 22) (v := v956) kc_128_21 rfl A954 (by decide) rfl (xi_in (by omega) (by rw [hy954]; omega)) ev956 ?_
  have hlv956 : v956.toInt = (C 25) (Int32.toNatClampNeg v952) := xrp_ld R955 (by omega) (by omega) ev956
  have brv956 : 0 ≤ v956.toInt ∧ v956.toInt ≤ 999 := by have hz : 0 ≤ C 25 (Int32.toNatClampNeg v952) ∧ C 25 (Int32.toNatClampNeg v952) ≤ 999 := hC.2.2.2.2.2 5 (by omega) (Int32.toNatClampNeg v952) (by have := xj_tn (i := v952) (by omega); omega); omega
  obtain ⟨u957, u958, bu957, bu958, A959⟩ := xq_63 K.1
  have hfu958 : u958.toInt = 63 := xfi_ld C4.2.2.2.2.2.2.2.2.2.2.2.2.2.2.2.2.2.2.2 A959 rfl
  refine xi_virtual (mj := 127) (as := [.int 5, .int v956]) (st1 := []) (lv0 := [(0, .ref 63), (1, .int 5), (2, .int v956)]) kc_128_22 rfl rfl rfl rfl rfl A959 (Nat.le_of_ble_eq_true rfl) (hJ _ _ _ _ (by decide)) (xm_le ml_127 rfl) rfl ?_
  refine xi_iload_n (pc' := 1) (x := 5) kc_127_0 rfl rfl ?_
  refine xi_iff (pc' := 4) kc_127_1 rfl rfl ?_
  refine xi_iload_n (pc' := 5) (x := 5) kc_127_4 rfl rfl ?_
  refine xi_aload_n (pc' := 6) (x := 63) kc_127_5 rfl rfl ?_
  refine xi_getfield (pc' := 9) (v := .ref 64) kc_127_6 rfl rfl rfl A959 rfl ?_
  obtain ⟨y960, A960, hy960, ry960⟩ := xk_arr K.1 xD_64
  have R961 : xrp y960 6 gw := xra_ld IW A960
  refine xi_arraylength (pc' := 10) (n := 6) (v := 6) kc_127_9 rfl (xl_lenI (by decide) (by decide) A960 hy960) rfl ?_
  refine xi_cmf (pc' := 13) kc_127_10 rfl rfl ?_
  refine xi_aload_n (pc' := 14) (x := 63) kc_127_13 rfl rfl ?_
  refine xi_getfield (pc' := 17) (v := .ref 64) kc_127_14 rfl rfl rfl A959 rfl ?_
  refine xi_iload_n (pc' := 18) (x := 5) kc_127_17 rfl rfl ?_
  obtain ⟨v962, ev962, bv962, dv962⟩ := xj_get hy960 ry960 (i := 5) (by decide) (by decide)
  refine xi_iaload (pc' := 19) (v := v962) kc_127_18 rfl A960 (by decide) rfl (xi_in (by decide) (by rw [hy960]; decide)) ev962 ?_
  have hlv962 : v962.toInt = gw 5 := xrp_ldc R961 (k := 5) (by decide) (by decide) ev962
  have brv962 : 0 ≤ v962.toInt ∧ v962.toInt ≤ 99999 := by have := hw 5 (by omega); omega
  refine xi_iload_n (pc' := 20) (x := v956) kc_127_19 rfl rfl ?_
  obtain ⟨v963, ev963⟩ : ∃ q : Int32, v962 + v956 = q := ⟨_, rfl⟩
  have zv963 : v963.toInt = (v962.toInt + v956.toInt) := by rw [← ev963]; exact (xz_add (X := v962.toInt) (Y := v956.toInt) rfl rfl (by omega) (by omega)).trans (by omega)
  refine xi_iadd (pc' := 21) (v := v963) kc_127_20 rfl ev963 ?_
  refine xi_istore_n (pc' := 22) (lv' := [(3, .int v963), (0, .ref 63), (1, .int 5), (2, .int v956)]) kc_127_21 rfl rfl (xm_lt ml_127 rfl) ?_
  refine xi_aload_n (pc' := 23) (x := 63) kc_127_22 rfl rfl ?_
  refine xi_getfield (pc' := 26) (v := .ref 64) kc_127_23 rfl rfl rfl A959 rfl ?_
  refine xi_iload_n (pc' := 27) (x := 5) kc_127_26 rfl rfl ?_
  refine xi_iload_n (pc' := 28) (x := v963) kc_127_27 rfl rfl ?_
  refine xi_ldc (pc' := 30) (v := 99999) kc_127_28 rfl rfl ?_
  by_cases c964 : (v962.toInt + v956.toInt) ≤ 99999
  · refine xi_cmt (pc' := 38) kc_127_30 rfl (xc_le_t (X := (v962.toInt + v956.toInt)) (Y := 99999) zv963 (by decide) (by omega)) ?_
    refine xi_iload_n (pc' := 39) (x := v963) kc_127_38 rfl rfl ?_
    obtain ⟨y965, s965, hy965, ry965⟩ := xj_set (v := v963) hy960 ry960 5 (by first | omega | decide) (by first | omega | decide)
    refine xi_iastore (pc' := 40) (x' := y965) kc_127_39 rfl A960 rfl (xi_in (by decide) (by rw [hy960]; decide)) s965 (fun hh965 eh965 => ?_)
    have K966 := xk_pa K (xk_wa (by decide +kernel)) xD_64 hy965 ry965 eh965
    have R967 : xrp y965 6 (xup gw 5 (v963 : Int32).toInt) := xrp_setc R961 s965 (by decide) rfl
    refine xi_return kc_127_40 mr_127 ?_
    show xw J ov (d + 4) 128 (25, [(5, .ref 26), (0, .ref 1), (1, .ref 63), (2, .int 5), (3, .int x3), (4, .int x4)], [], hh965) _
    refine xi_aload_n (pc' := 26) (x := 63) kc_128_25 rfl rfl ?_
    have A968 := ((eh965.2.1 63 (by decide)).trans A959)
    refine xi_getfield (pc' := 29) (v := .ref 64) kc_128_26 rfl rfl rfl A968 rfl ?_
    refine xi_iload_n (pc' := 30) (x := 5) kc_128_29 rfl rfl ?_
    obtain ⟨v969, ev969, bv969, dv969⟩ := xj_get hy965 ry965 (i := 5) (by decide) (by decide)
    refine xi_iaload (pc' := 31) (v := v969) kc_128_30 rfl eh965.1 (by decide) rfl (xi_in (by decide) (by rw [hy965]; decide)) ev969 ?_
    have hlv969 : v969.toInt = (v963 : Int32).toInt := (xrp_ldc R967 (k := 5) (by decide) (by decide) ev969).trans xup_s
    refine xi_istore (pc' := 33) (lv' := [(6, .int v969), (5, .ref 26), (0, .ref 1), (1, .ref 63), (2, .int 5), (3, .int x3), (4, .int x4)]) kc_128_31 rfl rfl (xm_lt ml_128 rfl) ?_
    refine xi_aload (pc' := 35) (x := 26) kc_128_33 rfl rfl ?_
    have A970 := ((eh965.2.1 26 (by decide)).trans A951)
    refine xi_getfield (pc' := 38) (v := .ref 27) kc_128_35 rfl rfl rfl A970 rfl ?_
    refine xi_iconst (pc' := 39) (v := 0) kc_128_38 rfl rfl ?_
    obtain ⟨y971, A971, hy971, ry971⟩ := xk_arr K966.1 xD_27
    have R972 : xrp y971 5 (st 5) := xra_ld (xg6_k I6 K966 (by decide +kernel)).2.2.2.2.2 A971
    obtain ⟨v973, ev973, bv973, dv973⟩ := xj_get hy971 ry971 (i := 0) (by decide) (by decide)
    refine xi_iaload (pc' := 40) (v := v973) kc_128_39 rfl A971 (by decide) rfl (xi_in (by decide) (by rw [hy971]; decide)) ev973 ?_
    have hlv973 : v973.toInt = (st 5) 0 := xrp_ldc R972 (k := 0) (by decide) (by decide) ev973
    have brv973 : 0 ≤ v973.toInt ∧ v973.toInt ≤ 99 := by have := hq 5 (by omega); omega
    refine xi_istore (pc' := 42) (lv' := [(7, .int v973), (6, .int v969), (5, .ref 26), (0, .ref 1), (1, .ref 63), (2, .int 5), (3, .int x3), (4, .int x4)]) kc_128_40 rfl rfl (xm_lt ml_128 rfl) ?_
    refine xi_iload (pc' := 44) (x := v973) kc_128_42 rfl rfl ?_
    refine xi_iload (pc' := 46) (x := x4) kc_128_44 rfl rfl ?_
    refine xi_static (mj := 102) (as := [.int x4]) (st1 := [.int v973]) (lv0 := [(0, .int x4)]) kc_128_46 rfl rfl (Nat.le_of_ble_eq_true rfl) rfl rfl (Nat.le_of_ble_eq_true rfl) (hJ _ _ _ _ (by decide)) (xm_le ml_102 rfl) rfl ?_
    refine xw_gx hJ hov1 hov2 (d := d + 1) (x0 := x4) (by omega) (fun r974 hr974 br974 => ?_)
    show xw J ov (d + 4) 128 (49, [(7, .int v973), (6, .int v969), (5, .ref 26), (0, .ref 1), (1, .ref 63), (2, .int 5), (3, .int x3), (4, .int x4)], [.int r974, .int v973], hh965) _
    obtain ⟨v975, ev975⟩ : ∃ q : Int32, (v973 : Int32) * r974 = q := ⟨_, rfl⟩
    have rv975 := xc_rng v975
    refine xi_imul (pc' := 50) (v := v975) kc_128_49 rfl ev975 ?_
    refine xi_iconst (pc' := 51) (v := 2) kc_128_50 rfl rfl ?_
    obtain ⟨v976, ev976⟩ : ∃ q : Int32, v975 / 2 = q := ⟨_, rfl⟩
    have dv976 : 2 * v976.toInt ≤ v975.toInt + 1 ∧ v975.toInt ≤ 2 * v976.toInt + 1 := by rw [← ev976]; exact xz_div (X := v975.toInt) (Y := 2) rfl (by decide) (by decide)
    have bv976 : -1073741825 ≤ v976.toInt ∧ v976.toInt ≤ 1073741824 := by omega
    refine xi_idiv (pc' := 52) (v := v976) kc_128_51 rfl ev976 (by decide) ?_
    refine xi_istore (pc' := 54) (lv' := [(8, .int v976), (7, .int v973), (6, .int v969), (5, .ref 26), (0, .ref 1), (1, .ref 63), (2, .int 5), (3, .int x3), (4, .int x4)]) kc_128_52 rfl rfl (xm_lt ml_128 rfl) ?_
    refine xi_iload (pc' := 56) (x := v969) kc_128_54 rfl rfl ?_
    refine xi_iload (pc' := 58) (x := v969) kc_128_56 rfl rfl ?_
    refine xi_iload (pc' := 60) (x := v976) kc_128_58 rfl rfl ?_
    obtain ⟨v977, ev977⟩ : ∃ q : Int32, (v969 : Int32) - v976 = q := ⟨_, rfl⟩
    have rv977 := xc_rng v977
    refine xi_isub (pc' := 61) (v := v977) kc_128_60 rfl ev977 ?_
    refine xi_aload (pc' := 63) (x := 26) kc_128_61 rfl rfl ?_
    refine xi_virtual (mj := 129) (as := []) (st1 := [.int v977, .int v969]) (lv0 := [(0, .ref 26)]) kc_128_63 rfl rfl rfl rfl rfl A970 (Nat.le_of_ble_eq_true rfl) (hJ _ _ _ _ (by decide)) (xm_le ml_129 rfl) rfl ?_
    refine xi_aload_n (pc' := 1) (x := 26) kc_129_0 rfl rfl ?_
    refine xi_getfield (pc' := 4) (v := .ref 27) kc_129_1 rfl rfl rfl A970 rfl ?_
    refine xi_iconst (pc' := 5) (v := 2) kc_129_4 rfl rfl ?_
    obtain ⟨v978, ev978, bv978, dv978⟩ := xj_get hy971 ry971 (i := 2) (by decide) (by decide)
    refine xi_iaload (pc' := 6) (v := v978) kc_129_5 rfl A971 (by decide) rfl (xi_in (by decide) (by rw [hy971]; decide)) ev978 ?_
    have hlv978 : v978.toInt = (st 5) 2 := xrp_ldc R972 (k := 2) (by decide) (by decide) ev978
    have brv978 : 0 ≤ v978.toInt ∧ v978.toInt ≤ 99 := by have := hq 5 (by omega); omega
    refine xi_aload_n (pc' := 7) (x := 26) kc_129_6 rfl rfl ?_
    refine xi_getfield (pc' := 10) (v := .ref 27) kc_129_7 rfl rfl rfl A970 rfl ?_
    refine xi_iconst (pc' := 11) (v := 4) kc_129_10 rfl rfl ?_
    obtain ⟨v979, ev979, bv979, dv979⟩ := xj_get hy971 ry971 (i := 4) (by decide) (by decide)
    refine xi_iaload (pc' := 12) (v := v979) kc_129_11 rfl A971 (by decide) rfl (xi_in (by decide) (by rw [hy971]; decide)) ev979 ?_
    have hlv979 : v979.toInt = (st 5) 4 := xrp_ldc R972 (k := 4) (by decide) (by decide) ev979
    have brv979 : 0 ≤ v979.toInt ∧ v979.toInt ≤ 99 := by have := hq 5 (by omega); omega
    refine xi_iconst (pc' := 13) (v := 1) kc_129_12 rfl rfl ?_
    by_cases c980 : v979.toInt = 1
    · refine xi_cmf (pc' := 16) kc_129_13 rfl (xc_ne_f (X := v979.toInt) (Y := 1) rfl (by decide) (by omega)) ?_
      refine xi_aload_n (pc' := 17) (x := 26) kc_129_16 rfl rfl ?_
      refine xi_getfield (pc' := 20) (v := .ref 27) kc_129_17 rfl rfl rfl A970 rfl ?_
      refine xi_iconst (pc' := 21) (v := 3) kc_129_20 rfl rfl ?_
      obtain ⟨v981, ev981, bv981, dv981⟩ := xj_get hy971 ry971 (i := 3) (by decide) (by decide)
      refine xi_iaload (pc' := 22) (v := v981) kc_129_21 rfl A971 (by decide) rfl (xi_in (by decide) (by rw [hy971]; decide)) ev981 ?_
      have hlv981 : v981.toInt = (st 5) 3 := xrp_ldc R972 (k := 3) (by decide) (by decide) ev981
      have brv981 : 0 ≤ v981.toInt ∧ v981.toInt ≤ 99 := by have := hq 5 (by omega); omega
      refine xi_goto (pc' := 26) kc_129_22 rfl ?_
      obtain ⟨v982, ev982⟩ : ∃ q : Int32, v978 + v981 = q := ⟨_, rfl⟩
      have zv982 : v982.toInt = (v978.toInt + v981.toInt) := by rw [← ev982]; exact (xz_add (X := v978.toInt) (Y := v981.toInt) rfl rfl (by omega) (by omega)).trans (by omega)
      refine xi_iadd (pc' := 27) (v := v982) kc_129_26 rfl ev982 ?_
      refine xi_ireturn kc_129_27 mr_129 rfl ?_
      show xw J ov (d + 4) 128 (66, [(8, .int v976), (7, .int v973), (6, .int v969), (5, .ref 26), (0, .ref 1), (1, .ref 63), (2, .int 5), (3, .int x3), (4, .int x4)], [.int v982, .int v977, .int v969], hh965) _
      obtain ⟨v983, ev983⟩ : ∃ q : Int32, (v977 : Int32) * v982 = q := ⟨_, rfl⟩
      have rv983 := xc_rng v983
      refine xi_imul (pc' := 67) (v := v983) kc_128_66 rfl ev983 ?_
      refine xi_bipush (pc' := 69) (v := 100) kc_128_67 rfl rfl ?_
      obtain ⟨v984, ev984⟩ : ∃ q : Int32, v983 / 100 = q := ⟨_, rfl⟩
      have dv984 : 100 * v984.toInt ≤ v983.toInt + 99 ∧ v983.toInt ≤ 100 * v984.toInt + 99 := by rw [← ev984]; exact xz_div (X := v983.toInt) (Y := 100) rfl (by decide) (by decide)
      have bv984 : -21474837 ≤ v984.toInt ∧ v984.toInt ≤ 21474837 := by omega
      refine xi_idiv (pc' := 70) (v := v984) kc_128_69 rfl ev984 (by decide) ?_
      obtain ⟨v985, ev985⟩ : ∃ q : Int32, (v969 : Int32) - v984 = q := ⟨_, rfl⟩
      have rv985 := xc_rng v985
      refine xi_isub (pc' := 71) (v := v985) kc_128_70 rfl ev985 ?_
      refine xi_istore (pc' := 73) (lv' := [(6, .int v985), (8, .int v976), (7, .int v973), (5, .ref 26), (0, .ref 1), (1, .ref 63), (2, .int 5), (3, .int x3), (4, .int x4)]) kc_128_71 rfl rfl (xm_lt ml_128 rfl) ?_
      refine xi_aload (pc' := 75) (x := 26) kc_128_73 rfl rfl ?_
      refine xi_getfield (pc' := 78) (v := .ref 27) kc_128_75 rfl rfl rfl A970 rfl ?_
      refine xi_iconst (pc' := 79) (v := 1) kc_128_78 rfl rfl ?_
      obtain ⟨v986, ev986, bv986, dv986⟩ := xj_get hy971 ry971 (i := 1) (by decide) (by decide)
      refine xi_iaload (pc' := 80) (v := v986) kc_128_79 rfl A971 (by decide) rfl (xi_in (by decide) (by rw [hy971]; decide)) ev986 ?_
      have hlv986 : v986.toInt = (st 5) 1 := xrp_ldc R972 (k := 1) (by decide) (by decide) ev986
      have brv986 : 0 ≤ v986.toInt ∧ v986.toInt ≤ 99 := by have := hq 5 (by omega); omega
      refine xi_istore (pc' := 82) (lv' := [(9, .int v986), (6, .int v985), (8, .int v976), (7, .int v973), (5, .ref 26), (0, .ref 1), (1, .ref 63), (2, .int 5), (3, .int x3), (4, .int x4)]) kc_128_80 rfl rfl (xm_lt ml_128 rfl) ?_
      refine xi_iload (pc' := 84) (x := v973) kc_128_82 rfl rfl ?_
      refine xi_iload (pc' := 86) (x := v986) kc_128_84 rfl rfl ?_
      refine xi_static (mj := 102) (as := [.int v986]) (st1 := [.int v973]) (lv0 := [(0, .int v986)]) kc_128_86 rfl rfl (Nat.le_of_ble_eq_true rfl) rfl rfl (Nat.le_of_ble_eq_true rfl) (hJ _ _ _ _ (by decide)) (xm_le ml_102 rfl) rfl ?_
      refine xw_gx hJ hov1 hov2 (d := d + 1) (x0 := v986) (by omega) (fun r987 hr987 br987 => ?_)
      show xw J ov (d + 4) 128 (89, [(9, .int v986), (6, .int v985), (8, .int v976), (7, .int v973), (5, .ref 26), (0, .ref 1), (1, .ref 63), (2, .int 5), (3, .int x3), (4, .int x4)], [.int r987, .int v973], hh965) _
      obtain ⟨v988, ev988⟩ : ∃ q : Int32, (v973 : Int32) * r987 = q := ⟨_, rfl⟩
      have rv988 := xc_rng v988
      refine xi_imul (pc' := 90) (v := v988) kc_128_89 rfl ev988 ?_
      refine xi_istore (pc' := 92) (lv' := [(10, .int v988), (9, .int v986), (6, .int v985), (8, .int v976), (7, .int v973), (5, .ref 26), (0, .ref 1), (1, .ref 63), (2, .int 5), (3, .int x3), (4, .int x4)]) kc_128_90 rfl rfl (xm_lt ml_128 rfl) ?_
      refine xi_iload (pc' := 94) (x := v985) kc_128_92 rfl rfl ?_
      refine xi_iload (pc' := 96) (x := v988) kc_128_94 rfl rfl ?_
      by_cases c989 : v985.toInt ≤ v988.toInt
      · refine xi_cmt (pc' := 119) kc_128_96 rfl (xc_le_t (X := v985.toInt) (Y := v988.toInt) rfl rfl (by omega)) ?_
        refine xi_aload_n (pc' := 120) (x := 63) kc_128_119 rfl rfl ?_
        refine xi_getfield (pc' := 123) (v := .ref 64) kc_128_120 rfl rfl rfl A968 rfl ?_
        refine xi_iload_n (pc' := 124) (x := 5) kc_128_123 rfl rfl ?_
        refine xi_iload (pc' := 126) (x := v985) kc_128_124 rfl rfl ?_
        obtain ⟨y990, s990, hy990, ry990⟩ := xj_set (v := v985) hy965 ry965 5 (by first | omega | decide) (by first | omega | decide)
        refine xi_iastore (pc' := 127) (x' := y990) kc_128_126 rfl eh965.1 rfl (xi_in (by decide) (by rw [hy965]; decide)) s990 (fun hh990 eh990 => ?_)
        have K991 := xk_pa K966 (xk_wa (by decide +kernel)) xD_64 hy990 ry990 eh990
        have R992 : xrp y990 6 (xup (xup gw 5 (v963 : Int32).toInt) 5 (v985 : Int32).toInt) := xrp_setc R967 s990 (by decide) rfl
        refine xi_return kc_128_127 mr_128 ?_
        have hqr := hq 5 (by omega)
        have hwr := hw 5 (by omega)
        have em : Int32.toNatClampNeg v952 = (hr % 24).toNat := xcl3 (by omega) (by omega)
        have hmr : 0 ≤ C 25 (hr % 24).toNat ∧ C 25 (hr % 24).toNat ≤ 999 := hC.2.2.2.2.2 5 (by omega) (hr % 24).toNat (by omega)
        rw [em] at hlv956
        have n1 : Int32.toNatClampNeg 5 = 5 := by decide
        rw [n1] at kk
        have zc99999 : (99999 : Int32).toInt = 99999 := by decide
        have ew : (v969 : Int32).toInt = xcap (gw 5 + C 25 (hr % 24).toNat) := xcap_is (fun z => by omega) (fun z => by omega)
        have hfan := xc_of_fan hq (show 5 < 6 by omega)
        have ec : (v982 : Int32).toInt = st 5 2 + (if st 5 4 = 1 then st 5 3 else 0) := by rw [if_pos (show st 5 4 = 1 by omega)]; omega
        have hcb := xho_b b4.1 b4.2
        have eg : (r987 : Int32).toInt = xho (st 5 1) := by rw [hr987, show (v986 : Int32).toInt = st 5 1 by omega]
        obtain ⟨ha1, ha2, ha3, ha4⟩ := xair ew (show (v973 : Int32).toInt = st 5 0 by omega) hr974 ec eg (xcap_b (by omega)) hqr.1 ⟨by omega, by omega⟩ hfan ⟨by omega, by omega⟩ ev975 ev976 ev977 ev983 ev984 ev985 ev988
        have hv := xro_v ha1 ha3
        have hW := xrp_fn R992 (show _ = (xup gw 5 (xro (gw 5) (C 25 (hr % 24).toNat) (st 5 0) (st 5 1) (st 5 2 + (if st 5 4 = 1 then st 5 3 else 0)) (xho x4.toInt))) from (congrArg (xup _ 5) (show (v985 : Int32).toInt = _ from hv.2 (by omega))).trans xup_2)
        exact kk hh990 K991 (xra_mk eh990.1 hW)
      · refine xi_cmf (pc' := 99) kc_128_96 rfl (xc_le_f (X := v985.toInt) (Y := v988.toInt) rfl rfl (by omega)) ?_
        refine xi_aload_n (pc' := 100) (x := 1) kc_128_99 rfl rfl ?_
        refine xi_aload_n (pc' := 101) (x := 63) kc_128_100 rfl rfl ?_
        refine xi_iload_n (pc' := 102) (x := 5) kc_128_101 rfl rfl ?_
        refine xi_iload (pc' := 104) (x := v985) kc_128_102 rfl rfl ?_
        refine xi_iload (pc' := 106) (x := v988) kc_128_104 rfl rfl ?_
        obtain ⟨v993, ev993⟩ : ∃ q : Int32, (v985 : Int32) - v988 = q := ⟨_, rfl⟩
        have rv993 := xc_rng v993
        refine xi_isub (pc' := 107) (v := v993) kc_128_106 rfl ev993 ?_
        refine xi_iload (pc' := 109) (x := v986) kc_128_107 rfl rfl ?_
        refine xi_iload (pc' := 111) (x := x4) kc_128_109 rfl rfl ?_
        obtain ⟨v994, ev994⟩ : ∃ q : Int32, v986 - x4 = q := ⟨_, rfl⟩
        have zv994 : v994.toInt = (v986.toInt + (-1) * x4.toInt) := by rw [← ev994]; exact (xz_sub (X := v986.toInt) (Y := x4.toInt) rfl rfl (by omega) (by omega)).trans (by omega)
        refine xi_isub (pc' := 112) (v := v994) kc_128_111 rfl ev994 ?_
        have A995 := ((eh965.2.1 1 (by decide)).trans A3)
        refine xi_virtual (mj := 130) (as := [.ref 63, .int 5, .int v993, .int v994]) (st1 := []) (lv0 := [(0, .ref 1), (1, .ref 63), (2, .int 5), (3, .int v993), (4, .int v994)]) kc_128_112 rfl rfl rfl rfl rfl A995 (Nat.le_of_ble_eq_true rfl) (hJ _ _ _ _ (by decide)) (xm_le ml_130 rfl) rfl ?_
        have zc5 : (5 : Int32).toInt = 5 := by decide
        refine mt_130_0 hJ hov1 hov2 (d := d + 1) (x2 := 5) (x3 := v993) (x4 := v994) K966.1 (by first | omega | decide) (fun hh997 K998 => ?_)
        have A999 := ((eh965.2.1 28 (by decide)).trans A954)
        have K1000 := xk_tr K966 K998 (xsb_ok _ _ (by decide +kernel))
        obtain ⟨u1001, u1002, bu1001, bu1002, A1003⟩ := xq_1 K1000.1
        have C1004 : xcX hh997 C := xcX_k C0 K1000 (by decide +kernel)
        have hfu1001 : u1001.toInt = (C 11 0) := xfi_ld C1004.1 A1003 rfl
        have e1005 : u1 = u1001 := xk_eqi (q := 5) K998 (by decide +kernel) A995 A1003 rfl rfl
        subst e1005
        have A1006 := xk_eqa (q := 0) K998 (by decide +kernel) A999
        obtain ⟨u1007, u1008, bu1007, bu1008, A1009⟩ := xq_63 K1000.1
        have hfu1008 : u1008.toInt = 63 := xfi_ld C1004.2.2.2.2.2.2.2.2.2.2.2.2.2.2.2.2.2.2.2 A1009 rfl
        have e1010 : u957 = u1007 := xk_eqi (q := 2) K998 (by decide +kernel) A968 A1009 rfl rfl
        subst e1010
        have e1011 : u958 = u1008 := xk_eqi (q := 3) K998 (by decide +kernel) A968 A1009 rfl rfl
        subst e1011
        have A1012 := xk_eqa (q := 0) K998 (by decide +kernel) eh965.1
        have A1013 := xk_eqa (q := 0) K998 (by decide +kernel) A971
        show xw J ov (d + 4) 128 (115, [(10, .int v988), (9, .int v986), (6, .int v985), (8, .int v976), (7, .int v973), (5, .ref 26), (0, .ref 1), (1, .ref 63), (2, .int 5), (3, .int x3), (4, .int x4)], [], hh997) _
        refine xi_iload (pc' := 117) (x := v988) kc_128_115 rfl rfl ?_
        refine xi_istore (pc' := 119) (lv' := [(6, .int v988), (10, .int v988), (9, .int v986), (8, .int v976), (7, .int v973), (5, .ref 26), (0, .ref 1), (1, .ref 63), (2, .int 5), (3, .int x3), (4, .int x4)]) kc_128_117 rfl rfl (xm_lt ml_128 rfl) ?_
        refine xi_aload_n (pc' := 120) (x := 63) kc_128_119 rfl rfl ?_
        refine xi_getfield (pc' := 123) (v := .ref 64) kc_128_120 rfl rfl rfl A1009 rfl ?_
        refine xi_iload_n (pc' := 124) (x := 5) kc_128_123 rfl rfl ?_
        refine xi_iload (pc' := 126) (x := v988) kc_128_124 rfl rfl ?_
        obtain ⟨y1014, s1014, hy1014, ry1014⟩ := xj_set (v := v988) hy965 ry965 5 (by first | omega | decide) (by first | omega | decide)
        refine xi_iastore (pc' := 127) (x' := y1014) kc_128_126 rfl A1012 rfl (xi_in (by decide) (by rw [hy965]; decide)) s1014 (fun hh1014 eh1014 => ?_)
        have K1015 := xk_pa K1000 (xk_wa (by decide +kernel)) xD_64 hy1014 ry1014 eh1014
        have R1016 : xrp y1014 6 (xup (xup gw 5 (v963 : Int32).toInt) 5 (v988 : Int32).toInt) := xrp_setc R967 s1014 (by decide) rfl
        refine xi_return kc_128_127 mr_128 ?_
        have hqr := hq 5 (by omega)
        have hwr := hw 5 (by omega)
        have em : Int32.toNatClampNeg v952 = (hr % 24).toNat := xcl3 (by omega) (by omega)
        have hmr : 0 ≤ C 25 (hr % 24).toNat ∧ C 25 (hr % 24).toNat ≤ 999 := hC.2.2.2.2.2 5 (by omega) (hr % 24).toNat (by omega)
        rw [em] at hlv956
        have n1 : Int32.toNatClampNeg 5 = 5 := by decide
        rw [n1] at kk
        have zc99999 : (99999 : Int32).toInt = 99999 := by decide
        have ew : (v969 : Int32).toInt = xcap (gw 5 + C 25 (hr % 24).toNat) := xcap_is (fun z => by omega) (fun z => by omega)
        have hfan := xc_of_fan hq (show 5 < 6 by omega)
        have ec : (v982 : Int32).toInt = st 5 2 + (if st 5 4 = 1 then st 5 3 else 0) := by rw [if_pos (show st 5 4 = 1 by omega)]; omega
        have hcb := xho_b b4.1 b4.2
        have eg : (r987 : Int32).toInt = xho (st 5 1) := by rw [hr987, show (v986 : Int32).toInt = st 5 1 by omega]
        obtain ⟨ha1, ha2, ha3, ha4⟩ := xair ew (show (v973 : Int32).toInt = st 5 0 by omega) hr974 ec eg (xcap_b (by omega)) hqr.1 ⟨by omega, by omega⟩ hfan ⟨by omega, by omega⟩ ev975 ev976 ev977 ev983 ev984 ev985 ev988
        have hv := xro_v ha1 ha3
        have hW := xrp_fn R1016 (show _ = (xup gw 5 (xro (gw 5) (C 25 (hr % 24).toNat) (st 5 0) (st 5 1) (st 5 2 + (if st 5 4 = 1 then st 5 3 else 0)) (xho x4.toInt))) from (congrArg (xup _ 5) (show (v988 : Int32).toInt = _ from hv.1 (by omega))).trans xup_2)
        exact kk hh1014 K1015 (xra_mk eh1014.1 hW)
    · refine xi_cmt (pc' := 25) kc_129_13 rfl (xc_ne_t (X := v979.toInt) (Y := 1) rfl (by decide) (by omega)) ?_
      refine xi_iconst (pc' := 26) (v := 0) kc_129_25 rfl rfl ?_
      obtain ⟨v1017, ev1017⟩ : ∃ q : Int32, v978 + 0 = q := ⟨_, rfl⟩
      have zv1017 : v1017.toInt = v978.toInt := by rw [← ev1017]; exact (xz_add (X := v978.toInt) (Y := 0) rfl (by decide) (by omega) (by omega)).trans (by omega)
      refine xi_iadd (pc' := 27) (v := v1017) kc_129_26 rfl ev1017 ?_
      refine xi_ireturn kc_129_27 mr_129 rfl ?_
      show xw J ov (d + 4) 128 (66, [(8, .int v976), (7, .int v973), (6, .int v969), (5, .ref 26), (0, .ref 1), (1, .ref 63), (2, .int 5), (3, .int x3), (4, .int x4)], [.int v1017, .int v977, .int v969], hh965) _
      obtain ⟨v1018, ev1018⟩ : ∃ q : Int32, (v977 : Int32) * v1017 = q := ⟨_, rfl⟩
      have rv1018 := xc_rng v1018
      refine xi_imul (pc' := 67) (v := v1018) kc_128_66 rfl ev1018 ?_
      refine xi_bipush (pc' := 69) (v := 100) kc_128_67 rfl rfl ?_
      obtain ⟨v1019, ev1019⟩ : ∃ q : Int32, v1018 / 100 = q := ⟨_, rfl⟩
      have dv1019 : 100 * v1019.toInt ≤ v1018.toInt + 99 ∧ v1018.toInt ≤ 100 * v1019.toInt + 99 := by rw [← ev1019]; exact xz_div (X := v1018.toInt) (Y := 100) rfl (by decide) (by decide)
      have bv1019 : -21474837 ≤ v1019.toInt ∧ v1019.toInt ≤ 21474837 := by omega
      refine xi_idiv (pc' := 70) (v := v1019) kc_128_69 rfl ev1019 (by decide) ?_
      obtain ⟨v1020, ev1020⟩ : ∃ q : Int32, (v969 : Int32) - v1019 = q := ⟨_, rfl⟩
      have rv1020 := xc_rng v1020
      refine xi_isub (pc' := 71) (v := v1020) kc_128_70 rfl ev1020 ?_
      refine xi_istore (pc' := 73) (lv' := [(6, .int v1020), (8, .int v976), (7, .int v973), (5, .ref 26), (0, .ref 1), (1, .ref 63), (2, .int 5), (3, .int x3), (4, .int x4)]) kc_128_71 rfl rfl (xm_lt ml_128 rfl) ?_
      refine xi_aload (pc' := 75) (x := 26) kc_128_73 rfl rfl ?_
      refine xi_getfield (pc' := 78) (v := .ref 27) kc_128_75 rfl rfl rfl A970 rfl ?_
      refine xi_iconst (pc' := 79) (v := 1) kc_128_78 rfl rfl ?_
      obtain ⟨v1021, ev1021, bv1021, dv1021⟩ := xj_get hy971 ry971 (i := 1) (by decide) (by decide)
      refine xi_iaload (pc' := 80) (v := v1021) kc_128_79 rfl A971 (by decide) rfl (xi_in (by decide) (by rw [hy971]; decide)) ev1021 ?_
      have hlv1021 : v1021.toInt = (st 5) 1 := xrp_ldc R972 (k := 1) (by decide) (by decide) ev1021
      have brv1021 : 0 ≤ v1021.toInt ∧ v1021.toInt ≤ 99 := by have := hq 5 (by omega); omega
      refine xi_istore (pc' := 82) (lv' := [(9, .int v1021), (6, .int v1020), (8, .int v976), (7, .int v973), (5, .ref 26), (0, .ref 1), (1, .ref 63), (2, .int 5), (3, .int x3), (4, .int x4)]) kc_128_80 rfl rfl (xm_lt ml_128 rfl) ?_
      refine xi_iload (pc' := 84) (x := v973) kc_128_82 rfl rfl ?_
      refine xi_iload (pc' := 86) (x := v1021) kc_128_84 rfl rfl ?_
      refine xi_static (mj := 102) (as := [.int v1021]) (st1 := [.int v973]) (lv0 := [(0, .int v1021)]) kc_128_86 rfl rfl (Nat.le_of_ble_eq_true rfl) rfl rfl (Nat.le_of_ble_eq_true rfl) (hJ _ _ _ _ (by decide)) (xm_le ml_102 rfl) rfl ?_
      refine xw_gx hJ hov1 hov2 (d := d + 1) (x0 := v1021) (by omega) (fun r1022 hr1022 br1022 => ?_)
      show xw J ov (d + 4) 128 (89, [(9, .int v1021), (6, .int v1020), (8, .int v976), (7, .int v973), (5, .ref 26), (0, .ref 1), (1, .ref 63), (2, .int 5), (3, .int x3), (4, .int x4)], [.int r1022, .int v973], hh965) _
      obtain ⟨v1023, ev1023⟩ : ∃ q : Int32, (v973 : Int32) * r1022 = q := ⟨_, rfl⟩
      have rv1023 := xc_rng v1023
      refine xi_imul (pc' := 90) (v := v1023) kc_128_89 rfl ev1023 ?_
      refine xi_istore (pc' := 92) (lv' := [(10, .int v1023), (9, .int v1021), (6, .int v1020), (8, .int v976), (7, .int v973), (5, .ref 26), (0, .ref 1), (1, .ref 63), (2, .int 5), (3, .int x3), (4, .int x4)]) kc_128_90 rfl rfl (xm_lt ml_128 rfl) ?_
      refine xi_iload (pc' := 94) (x := v1020) kc_128_92 rfl rfl ?_
      refine xi_iload (pc' := 96) (x := v1023) kc_128_94 rfl rfl ?_
      by_cases c1024 : v1020.toInt ≤ v1023.toInt
      · refine xi_cmt (pc' := 119) kc_128_96 rfl (xc_le_t (X := v1020.toInt) (Y := v1023.toInt) rfl rfl (by omega)) ?_
        refine xi_aload_n (pc' := 120) (x := 63) kc_128_119 rfl rfl ?_
        refine xi_getfield (pc' := 123) (v := .ref 64) kc_128_120 rfl rfl rfl A968 rfl ?_
        refine xi_iload_n (pc' := 124) (x := 5) kc_128_123 rfl rfl ?_
        refine xi_iload (pc' := 126) (x := v1020) kc_128_124 rfl rfl ?_
        obtain ⟨y1025, s1025, hy1025, ry1025⟩ := xj_set (v := v1020) hy965 ry965 5 (by first | omega | decide) (by first | omega | decide)
        refine xi_iastore (pc' := 127) (x' := y1025) kc_128_126 rfl eh965.1 rfl (xi_in (by decide) (by rw [hy965]; decide)) s1025 (fun hh1025 eh1025 => ?_)
        have K1026 := xk_pa K966 (xk_wa (by decide +kernel)) xD_64 hy1025 ry1025 eh1025
        have R1027 : xrp y1025 6 (xup (xup gw 5 (v963 : Int32).toInt) 5 (v1020 : Int32).toInt) := xrp_setc R967 s1025 (by decide) rfl
        refine xi_return kc_128_127 mr_128 ?_
        have hqr := hq 5 (by omega)
        have hwr := hw 5 (by omega)
        have em : Int32.toNatClampNeg v952 = (hr % 24).toNat := xcl3 (by omega) (by omega)
        have hmr : 0 ≤ C 25 (hr % 24).toNat ∧ C 25 (hr % 24).toNat ≤ 999 := hC.2.2.2.2.2 5 (by omega) (hr % 24).toNat (by omega)
        rw [em] at hlv956
        have n1 : Int32.toNatClampNeg 5 = 5 := by decide
        rw [n1] at kk
        have zc99999 : (99999 : Int32).toInt = 99999 := by decide
        have ew : (v969 : Int32).toInt = xcap (gw 5 + C 25 (hr % 24).toNat) := xcap_is (fun z => by omega) (fun z => by omega)
        have hfan := xc_of_fan hq (show 5 < 6 by omega)
        have ec : (v1017 : Int32).toInt = st 5 2 + (if st 5 4 = 1 then st 5 3 else 0) := by rw [if_neg (show ¬ st 5 4 = 1 by omega)]; omega
        have hcb := xho_b b4.1 b4.2
        have eg : (r1022 : Int32).toInt = xho (st 5 1) := by rw [hr1022, show (v1021 : Int32).toInt = st 5 1 by omega]
        obtain ⟨ha1, ha2, ha3, ha4⟩ := xair ew (show (v973 : Int32).toInt = st 5 0 by omega) hr974 ec eg (xcap_b (by omega)) hqr.1 ⟨by omega, by omega⟩ hfan ⟨by omega, by omega⟩ ev975 ev976 ev977 ev1018 ev1019 ev1020 ev1023
        have hv := xro_v ha1 ha3
        have hW := xrp_fn R1027 (show _ = (xup gw 5 (xro (gw 5) (C 25 (hr % 24).toNat) (st 5 0) (st 5 1) (st 5 2 + (if st 5 4 = 1 then st 5 3 else 0)) (xho x4.toInt))) from (congrArg (xup _ 5) (show (v1020 : Int32).toInt = _ from hv.2 (by omega))).trans xup_2)
        exact kk hh1025 K1026 (xra_mk eh1025.1 hW)
      · refine xi_cmf (pc' := 99) kc_128_96 rfl (xc_le_f (X := v1020.toInt) (Y := v1023.toInt) rfl rfl (by omega)) ?_
        refine xi_aload_n (pc' := 100) (x := 1) kc_128_99 rfl rfl ?_
        refine xi_aload_n (pc' := 101) (x := 63) kc_128_100 rfl rfl ?_
        refine xi_iload_n (pc' := 102) (x := 5) kc_128_101 rfl rfl ?_
        refine xi_iload (pc' := 104) (x := v1020) kc_128_102 rfl rfl ?_
        refine xi_iload (pc' := 106) (x := v1023) kc_128_104 rfl rfl ?_
        obtain ⟨v1028, ev1028⟩ : ∃ q : Int32, (v1020 : Int32) - v1023 = q := ⟨_, rfl⟩
        have rv1028 := xc_rng v1028
        refine xi_isub (pc' := 107) (v := v1028) kc_128_106 rfl ev1028 ?_
        refine xi_iload (pc' := 109) (x := v1021) kc_128_107 rfl rfl ?_
        refine xi_iload (pc' := 111) (x := x4) kc_128_109 rfl rfl ?_
        obtain ⟨v1029, ev1029⟩ : ∃ q : Int32, v1021 - x4 = q := ⟨_, rfl⟩
        have zv1029 : v1029.toInt = (v1021.toInt + (-1) * x4.toInt) := by rw [← ev1029]; exact (xz_sub (X := v1021.toInt) (Y := x4.toInt) rfl rfl (by omega) (by omega)).trans (by omega)
        refine xi_isub (pc' := 112) (v := v1029) kc_128_111 rfl ev1029 ?_
        have A1030 := ((eh965.2.1 1 (by decide)).trans A3)
        refine xi_virtual (mj := 130) (as := [.ref 63, .int 5, .int v1028, .int v1029]) (st1 := []) (lv0 := [(0, .ref 1), (1, .ref 63), (2, .int 5), (3, .int v1028), (4, .int v1029)]) kc_128_112 rfl rfl rfl rfl rfl A1030 (Nat.le_of_ble_eq_true rfl) (hJ _ _ _ _ (by decide)) (xm_le ml_130 rfl) rfl ?_
        have zc5 : (5 : Int32).toInt = 5 := by decide
        refine mt_130_0 hJ hov1 hov2 (d := d + 1) (x2 := 5) (x3 := v1028) (x4 := v1029) K966.1 (by first | omega | decide) (fun hh1032 K1033 => ?_)
        have A1034 := ((eh965.2.1 28 (by decide)).trans A954)
        have K1035 := xk_tr K966 K1033 (xsb_ok _ _ (by decide +kernel))
        obtain ⟨u1036, u1037, bu1036, bu1037, A1038⟩ := xq_1 K1035.1
        have C1039 : xcX hh1032 C := xcX_k C0 K1035 (by decide +kernel)
        have hfu1036 : u1036.toInt = (C 11 0) := xfi_ld C1039.1 A1038 rfl
        have e1040 : u1 = u1036 := xk_eqi (q := 5) K1033 (by decide +kernel) A1030 A1038 rfl rfl
        subst e1040
        have A1041 := xk_eqa (q := 0) K1033 (by decide +kernel) A1034
        obtain ⟨u1042, u1043, bu1042, bu1043, A1044⟩ := xq_63 K1035.1
        have hfu1043 : u1043.toInt = 63 := xfi_ld C1039.2.2.2.2.2.2.2.2.2.2.2.2.2.2.2.2.2.2.2 A1044 rfl
        have e1045 : u957 = u1042 := xk_eqi (q := 2) K1033 (by decide +kernel) A968 A1044 rfl rfl
        subst e1045
        have e1046 : u958 = u1043 := xk_eqi (q := 3) K1033 (by decide +kernel) A968 A1044 rfl rfl
        subst e1046
        have A1047 := xk_eqa (q := 0) K1033 (by decide +kernel) eh965.1
        have A1048 := xk_eqa (q := 0) K1033 (by decide +kernel) A971
        show xw J ov (d + 4) 128 (115, [(10, .int v1023), (9, .int v1021), (6, .int v1020), (8, .int v976), (7, .int v973), (5, .ref 26), (0, .ref 1), (1, .ref 63), (2, .int 5), (3, .int x3), (4, .int x4)], [], hh1032) _
        refine xi_iload (pc' := 117) (x := v1023) kc_128_115 rfl rfl ?_
        refine xi_istore (pc' := 119) (lv' := [(6, .int v1023), (10, .int v1023), (9, .int v1021), (8, .int v976), (7, .int v973), (5, .ref 26), (0, .ref 1), (1, .ref 63), (2, .int 5), (3, .int x3), (4, .int x4)]) kc_128_117 rfl rfl (xm_lt ml_128 rfl) ?_
        refine xi_aload_n (pc' := 120) (x := 63) kc_128_119 rfl rfl ?_
        refine xi_getfield (pc' := 123) (v := .ref 64) kc_128_120 rfl rfl rfl A1044 rfl ?_
        refine xi_iload_n (pc' := 124) (x := 5) kc_128_123 rfl rfl ?_
        refine xi_iload (pc' := 126) (x := v1023) kc_128_124 rfl rfl ?_
        obtain ⟨y1049, s1049, hy1049, ry1049⟩ := xj_set (v := v1023) hy965 ry965 5 (by first | omega | decide) (by first | omega | decide)
        refine xi_iastore (pc' := 127) (x' := y1049) kc_128_126 rfl A1047 rfl (xi_in (by decide) (by rw [hy965]; decide)) s1049 (fun hh1049 eh1049 => ?_)
        have K1050 := xk_pa K1035 (xk_wa (by decide +kernel)) xD_64 hy1049 ry1049 eh1049
        have R1051 : xrp y1049 6 (xup (xup gw 5 (v963 : Int32).toInt) 5 (v1023 : Int32).toInt) := xrp_setc R967 s1049 (by decide) rfl
        refine xi_return kc_128_127 mr_128 ?_
        have hqr := hq 5 (by omega)
        have hwr := hw 5 (by omega)
        have em : Int32.toNatClampNeg v952 = (hr % 24).toNat := xcl3 (by omega) (by omega)
        have hmr : 0 ≤ C 25 (hr % 24).toNat ∧ C 25 (hr % 24).toNat ≤ 999 := hC.2.2.2.2.2 5 (by omega) (hr % 24).toNat (by omega)
        rw [em] at hlv956
        have n1 : Int32.toNatClampNeg 5 = 5 := by decide
        rw [n1] at kk
        have zc99999 : (99999 : Int32).toInt = 99999 := by decide
        have ew : (v969 : Int32).toInt = xcap (gw 5 + C 25 (hr % 24).toNat) := xcap_is (fun z => by omega) (fun z => by omega)
        have hfan := xc_of_fan hq (show 5 < 6 by omega)
        have ec : (v1017 : Int32).toInt = st 5 2 + (if st 5 4 = 1 then st 5 3 else 0) := by rw [if_neg (show ¬ st 5 4 = 1 by omega)]; omega
        have hcb := xho_b b4.1 b4.2
        have eg : (r1022 : Int32).toInt = xho (st 5 1) := by rw [hr1022, show (v1021 : Int32).toInt = st 5 1 by omega]
        obtain ⟨ha1, ha2, ha3, ha4⟩ := xair ew (show (v973 : Int32).toInt = st 5 0 by omega) hr974 ec eg (xcap_b (by omega)) hqr.1 ⟨by omega, by omega⟩ hfan ⟨by omega, by omega⟩ ev975 ev976 ev977 ev1018 ev1019 ev1020 ev1023
        have hv := xro_v ha1 ha3
        have hW := xrp_fn R1051 (show _ = (xup gw 5 (xro (gw 5) (C 25 (hr % 24).toNat) (st 5 0) (st 5 1) (st 5 2 + (if st 5 4 = 1 then st 5 3 else 0)) (xho x4.toInt))) from (congrArg (xup _ 5) (show (v1023 : Int32).toInt = _ from hv.1 (by omega))).trans xup_2)
        exact kk hh1049 K1050 (xra_mk eh1049.1 hW)
  · refine xi_cmf (pc' := 33) kc_127_30 rfl (xc_le_f (X := (v962.toInt + v956.toInt)) (Y := 99999) zv963 (by decide) (by omega)) ?_
    refine xi_ldc (pc' := 35) (v := 99999) kc_127_33 rfl rfl ?_
    refine xi_goto (pc' := 39) kc_127_35 rfl ?_
    obtain ⟨y1052, s1052, hy1052, ry1052⟩ := xj_set (v := 99999) hy960 ry960 5 (by first | omega | decide) (by first | omega | decide)
    refine xi_iastore (pc' := 40) (x' := y1052) kc_127_39 rfl A960 rfl (xi_in (by decide) (by rw [hy960]; decide)) s1052 (fun hh1052 eh1052 => ?_)
    have K1053 := xk_pa K (xk_wa (by decide +kernel)) xD_64 hy1052 ry1052 eh1052
    have R1054 : xrp y1052 6 (xup gw 5 (99999 : Int32).toInt) := xrp_setc R961 s1052 (by decide) rfl
    refine xi_return kc_127_40 mr_127 ?_
    show xw J ov (d + 4) 128 (25, [(5, .ref 26), (0, .ref 1), (1, .ref 63), (2, .int 5), (3, .int x3), (4, .int x4)], [], hh1052) _
    refine xi_aload_n (pc' := 26) (x := 63) kc_128_25 rfl rfl ?_
    have A1055 := ((eh1052.2.1 63 (by decide)).trans A959)
    refine xi_getfield (pc' := 29) (v := .ref 64) kc_128_26 rfl rfl rfl A1055 rfl ?_
    refine xi_iload_n (pc' := 30) (x := 5) kc_128_29 rfl rfl ?_
    obtain ⟨v1056, ev1056, bv1056, dv1056⟩ := xj_get hy1052 ry1052 (i := 5) (by decide) (by decide)
    refine xi_iaload (pc' := 31) (v := v1056) kc_128_30 rfl eh1052.1 (by decide) rfl (xi_in (by decide) (by rw [hy1052]; decide)) ev1056 ?_
    have hlv1056 : v1056.toInt = (99999 : Int32).toInt := (xrp_ldc R1054 (k := 5) (by decide) (by decide) ev1056).trans xup_s
    refine xi_istore (pc' := 33) (lv' := [(6, .int v1056), (5, .ref 26), (0, .ref 1), (1, .ref 63), (2, .int 5), (3, .int x3), (4, .int x4)]) kc_128_31 rfl rfl (xm_lt ml_128 rfl) ?_
    refine xi_aload (pc' := 35) (x := 26) kc_128_33 rfl rfl ?_
    have A1057 := ((eh1052.2.1 26 (by decide)).trans A951)
    refine xi_getfield (pc' := 38) (v := .ref 27) kc_128_35 rfl rfl rfl A1057 rfl ?_
    refine xi_iconst (pc' := 39) (v := 0) kc_128_38 rfl rfl ?_
    obtain ⟨y1058, A1058, hy1058, ry1058⟩ := xk_arr K1053.1 xD_27
    have R1059 : xrp y1058 5 (st 5) := xra_ld (xg6_k I6 K1053 (by decide +kernel)).2.2.2.2.2 A1058
    obtain ⟨v1060, ev1060, bv1060, dv1060⟩ := xj_get hy1058 ry1058 (i := 0) (by decide) (by decide)
    refine xi_iaload (pc' := 40) (v := v1060) kc_128_39 rfl A1058 (by decide) rfl (xi_in (by decide) (by rw [hy1058]; decide)) ev1060 ?_
    have hlv1060 : v1060.toInt = (st 5) 0 := xrp_ldc R1059 (k := 0) (by decide) (by decide) ev1060
    have brv1060 : 0 ≤ v1060.toInt ∧ v1060.toInt ≤ 99 := by have := hq 5 (by omega); omega
    refine xi_istore (pc' := 42) (lv' := [(7, .int v1060), (6, .int v1056), (5, .ref 26), (0, .ref 1), (1, .ref 63), (2, .int 5), (3, .int x3), (4, .int x4)]) kc_128_40 rfl rfl (xm_lt ml_128 rfl) ?_
    refine xi_iload (pc' := 44) (x := v1060) kc_128_42 rfl rfl ?_
    refine xi_iload (pc' := 46) (x := x4) kc_128_44 rfl rfl ?_
    refine xi_static (mj := 102) (as := [.int x4]) (st1 := [.int v1060]) (lv0 := [(0, .int x4)]) kc_128_46 rfl rfl (Nat.le_of_ble_eq_true rfl) rfl rfl (Nat.le_of_ble_eq_true rfl) (hJ _ _ _ _ (by decide)) (xm_le ml_102 rfl) rfl ?_
    refine xw_gx hJ hov1 hov2 (d := d + 1) (x0 := x4) (by omega) (fun r1061 hr1061 br1061 => ?_)
    show xw J ov (d + 4) 128 (49, [(7, .int v1060), (6, .int v1056), (5, .ref 26), (0, .ref 1), (1, .ref 63), (2, .int 5), (3, .int x3), (4, .int x4)], [.int r1061, .int v1060], hh1052) _
    obtain ⟨v1062, ev1062⟩ : ∃ q : Int32, (v1060 : Int32) * r1061 = q := ⟨_, rfl⟩
    have rv1062 := xc_rng v1062
    refine xi_imul (pc' := 50) (v := v1062) kc_128_49 rfl ev1062 ?_
    refine xi_iconst (pc' := 51) (v := 2) kc_128_50 rfl rfl ?_
    obtain ⟨v1063, ev1063⟩ : ∃ q : Int32, v1062 / 2 = q := ⟨_, rfl⟩
    have dv1063 : 2 * v1063.toInt ≤ v1062.toInt + 1 ∧ v1062.toInt ≤ 2 * v1063.toInt + 1 := by rw [← ev1063]; exact xz_div (X := v1062.toInt) (Y := 2) rfl (by decide) (by decide)
    have bv1063 : -1073741825 ≤ v1063.toInt ∧ v1063.toInt ≤ 1073741824 := by omega
    refine xi_idiv (pc' := 52) (v := v1063) kc_128_51 rfl ev1063 (by decide) ?_
    refine xi_istore (pc' := 54) (lv' := [(8, .int v1063), (7, .int v1060), (6, .int v1056), (5, .ref 26), (0, .ref 1), (1, .ref 63), (2, .int 5), (3, .int x3), (4, .int x4)]) kc_128_52 rfl rfl (xm_lt ml_128 rfl) ?_
    refine xi_iload (pc' := 56) (x := v1056) kc_128_54 rfl rfl ?_
    refine xi_iload (pc' := 58) (x := v1056) kc_128_56 rfl rfl ?_
    refine xi_iload (pc' := 60) (x := v1063) kc_128_58 rfl rfl ?_
    obtain ⟨v1064, ev1064⟩ : ∃ q : Int32, (v1056 : Int32) - v1063 = q := ⟨_, rfl⟩
    have rv1064 := xc_rng v1064
    refine xi_isub (pc' := 61) (v := v1064) kc_128_60 rfl ev1064 ?_
    refine xi_aload (pc' := 63) (x := 26) kc_128_61 rfl rfl ?_
    refine xi_virtual (mj := 129) (as := []) (st1 := [.int v1064, .int v1056]) (lv0 := [(0, .ref 26)]) kc_128_63 rfl rfl rfl rfl rfl A1057 (Nat.le_of_ble_eq_true rfl) (hJ _ _ _ _ (by decide)) (xm_le ml_129 rfl) rfl ?_
    refine xi_aload_n (pc' := 1) (x := 26) kc_129_0 rfl rfl ?_
    refine xi_getfield (pc' := 4) (v := .ref 27) kc_129_1 rfl rfl rfl A1057 rfl ?_
    refine xi_iconst (pc' := 5) (v := 2) kc_129_4 rfl rfl ?_
    obtain ⟨v1065, ev1065, bv1065, dv1065⟩ := xj_get hy1058 ry1058 (i := 2) (by decide) (by decide)
    refine xi_iaload (pc' := 6) (v := v1065) kc_129_5 rfl A1058 (by decide) rfl (xi_in (by decide) (by rw [hy1058]; decide)) ev1065 ?_
    have hlv1065 : v1065.toInt = (st 5) 2 := xrp_ldc R1059 (k := 2) (by decide) (by decide) ev1065
    have brv1065 : 0 ≤ v1065.toInt ∧ v1065.toInt ≤ 99 := by have := hq 5 (by omega); omega
    refine xi_aload_n (pc' := 7) (x := 26) kc_129_6 rfl rfl ?_
    refine xi_getfield (pc' := 10) (v := .ref 27) kc_129_7 rfl rfl rfl A1057 rfl ?_
    refine xi_iconst (pc' := 11) (v := 4) kc_129_10 rfl rfl ?_
    obtain ⟨v1066, ev1066, bv1066, dv1066⟩ := xj_get hy1058 ry1058 (i := 4) (by decide) (by decide)
    refine xi_iaload (pc' := 12) (v := v1066) kc_129_11 rfl A1058 (by decide) rfl (xi_in (by decide) (by rw [hy1058]; decide)) ev1066 ?_
    have hlv1066 : v1066.toInt = (st 5) 4 := xrp_ldc R1059 (k := 4) (by decide) (by decide) ev1066
    have brv1066 : 0 ≤ v1066.toInt ∧ v1066.toInt ≤ 99 := by have := hq 5 (by omega); omega
    refine xi_iconst (pc' := 13) (v := 1) kc_129_12 rfl rfl ?_
    by_cases c1067 : v1066.toInt = 1
    · refine xi_cmf (pc' := 16) kc_129_13 rfl (xc_ne_f (X := v1066.toInt) (Y := 1) rfl (by decide) (by omega)) ?_
      refine xi_aload_n (pc' := 17) (x := 26) kc_129_16 rfl rfl ?_
      refine xi_getfield (pc' := 20) (v := .ref 27) kc_129_17 rfl rfl rfl A1057 rfl ?_
      refine xi_iconst (pc' := 21) (v := 3) kc_129_20 rfl rfl ?_
      obtain ⟨v1068, ev1068, bv1068, dv1068⟩ := xj_get hy1058 ry1058 (i := 3) (by decide) (by decide)
      refine xi_iaload (pc' := 22) (v := v1068) kc_129_21 rfl A1058 (by decide) rfl (xi_in (by decide) (by rw [hy1058]; decide)) ev1068 ?_
      have hlv1068 : v1068.toInt = (st 5) 3 := xrp_ldc R1059 (k := 3) (by decide) (by decide) ev1068
      have brv1068 : 0 ≤ v1068.toInt ∧ v1068.toInt ≤ 99 := by have := hq 5 (by omega); omega
      refine xi_goto (pc' := 26) kc_129_22 rfl ?_
      obtain ⟨v1069, ev1069⟩ : ∃ q : Int32, v1065 + v1068 = q := ⟨_, rfl⟩
      have zv1069 : v1069.toInt = (v1065.toInt + v1068.toInt) := by rw [← ev1069]; exact (xz_add (X := v1065.toInt) (Y := v1068.toInt) rfl rfl (by omega) (by omega)).trans (by omega)
      refine xi_iadd (pc' := 27) (v := v1069) kc_129_26 rfl ev1069 ?_
      refine xi_ireturn kc_129_27 mr_129 rfl ?_
      show xw J ov (d + 4) 128 (66, [(8, .int v1063), (7, .int v1060), (6, .int v1056), (5, .ref 26), (0, .ref 1), (1, .ref 63), (2, .int 5), (3, .int x3), (4, .int x4)], [.int v1069, .int v1064, .int v1056], hh1052) _
      obtain ⟨v1070, ev1070⟩ : ∃ q : Int32, (v1064 : Int32) * v1069 = q := ⟨_, rfl⟩
      have rv1070 := xc_rng v1070
      refine xi_imul (pc' := 67) (v := v1070) kc_128_66 rfl ev1070 ?_
      refine xi_bipush (pc' := 69) (v := 100) kc_128_67 rfl rfl ?_
      obtain ⟨v1071, ev1071⟩ : ∃ q : Int32, v1070 / 100 = q := ⟨_, rfl⟩
      have dv1071 : 100 * v1071.toInt ≤ v1070.toInt + 99 ∧ v1070.toInt ≤ 100 * v1071.toInt + 99 := by rw [← ev1071]; exact xz_div (X := v1070.toInt) (Y := 100) rfl (by decide) (by decide)
      have bv1071 : -21474837 ≤ v1071.toInt ∧ v1071.toInt ≤ 21474837 := by omega
      refine xi_idiv (pc' := 70) (v := v1071) kc_128_69 rfl ev1071 (by decide) ?_
      obtain ⟨v1072, ev1072⟩ : ∃ q : Int32, (v1056 : Int32) - v1071 = q := ⟨_, rfl⟩
      have rv1072 := xc_rng v1072
      refine xi_isub (pc' := 71) (v := v1072) kc_128_70 rfl ev1072 ?_
      refine xi_istore (pc' := 73) (lv' := [(6, .int v1072), (8, .int v1063), (7, .int v1060), (5, .ref 26), (0, .ref 1), (1, .ref 63), (2, .int 5), (3, .int x3), (4, .int x4)]) kc_128_71 rfl rfl (xm_lt ml_128 rfl) ?_
      refine xi_aload (pc' := 75) (x := 26) kc_128_73 rfl rfl ?_
      refine xi_getfield (pc' := 78) (v := .ref 27) kc_128_75 rfl rfl rfl A1057 rfl ?_
      refine xi_iconst (pc' := 79) (v := 1) kc_128_78 rfl rfl ?_
      obtain ⟨v1073, ev1073, bv1073, dv1073⟩ := xj_get hy1058 ry1058 (i := 1) (by decide) (by decide)
      refine xi_iaload (pc' := 80) (v := v1073) kc_128_79 rfl A1058 (by decide) rfl (xi_in (by decide) (by rw [hy1058]; decide)) ev1073 ?_
      have hlv1073 : v1073.toInt = (st 5) 1 := xrp_ldc R1059 (k := 1) (by decide) (by decide) ev1073
      have brv1073 : 0 ≤ v1073.toInt ∧ v1073.toInt ≤ 99 := by have := hq 5 (by omega); omega
      refine xi_istore (pc' := 82) (lv' := [(9, .int v1073), (6, .int v1072), (8, .int v1063), (7, .int v1060), (5, .ref 26), (0, .ref 1), (1, .ref 63), (2, .int 5), (3, .int x3), (4, .int x4)]) kc_128_80 rfl rfl (xm_lt ml_128 rfl) ?_
      refine xi_iload (pc' := 84) (x := v1060) kc_128_82 rfl rfl ?_
      refine xi_iload (pc' := 86) (x := v1073) kc_128_84 rfl rfl ?_
      refine xi_static (mj := 102) (as := [.int v1073]) (st1 := [.int v1060]) (lv0 := [(0, .int v1073)]) kc_128_86 rfl rfl (Nat.le_of_ble_eq_true rfl) rfl rfl (Nat.le_of_ble_eq_true rfl) (hJ _ _ _ _ (by decide)) (xm_le ml_102 rfl) rfl ?_
      refine xw_gx hJ hov1 hov2 (d := d + 1) (x0 := v1073) (by omega) (fun r1074 hr1074 br1074 => ?_)
      show xw J ov (d + 4) 128 (89, [(9, .int v1073), (6, .int v1072), (8, .int v1063), (7, .int v1060), (5, .ref 26), (0, .ref 1), (1, .ref 63), (2, .int 5), (3, .int x3), (4, .int x4)], [.int r1074, .int v1060], hh1052) _
      obtain ⟨v1075, ev1075⟩ : ∃ q : Int32, (v1060 : Int32) * r1074 = q := ⟨_, rfl⟩
      have rv1075 := xc_rng v1075
      refine xi_imul (pc' := 90) (v := v1075) kc_128_89 rfl ev1075 ?_
      refine xi_istore (pc' := 92) (lv' := [(10, .int v1075), (9, .int v1073), (6, .int v1072), (8, .int v1063), (7, .int v1060), (5, .ref 26), (0, .ref 1), (1, .ref 63), (2, .int 5), (3, .int x3), (4, .int x4)]) kc_128_90 rfl rfl (xm_lt ml_128 rfl) ?_
      refine xi_iload (pc' := 94) (x := v1072) kc_128_92 rfl rfl ?_
      refine xi_iload (pc' := 96) (x := v1075) kc_128_94 rfl rfl ?_
      by_cases c1076 : v1072.toInt ≤ v1075.toInt
      · refine xi_cmt (pc' := 119) kc_128_96 rfl (xc_le_t (X := v1072.toInt) (Y := v1075.toInt) rfl rfl (by omega)) ?_
        refine xi_aload_n (pc' := 120) (x := 63) kc_128_119 rfl rfl ?_
        refine xi_getfield (pc' := 123) (v := .ref 64) kc_128_120 rfl rfl rfl A1055 rfl ?_
        refine xi_iload_n (pc' := 124) (x := 5) kc_128_123 rfl rfl ?_
        refine xi_iload (pc' := 126) (x := v1072) kc_128_124 rfl rfl ?_
        obtain ⟨y1077, s1077, hy1077, ry1077⟩ := xj_set (v := v1072) hy1052 ry1052 5 (by first | omega | decide) (by first | omega | decide)
        refine xi_iastore (pc' := 127) (x' := y1077) kc_128_126 rfl eh1052.1 rfl (xi_in (by decide) (by rw [hy1052]; decide)) s1077 (fun hh1077 eh1077 => ?_)
        have K1078 := xk_pa K1053 (xk_wa (by decide +kernel)) xD_64 hy1077 ry1077 eh1077
        have R1079 : xrp y1077 6 (xup (xup gw 5 (99999 : Int32).toInt) 5 (v1072 : Int32).toInt) := xrp_setc R1054 s1077 (by decide) rfl
        refine xi_return kc_128_127 mr_128 ?_
        have hqr := hq 5 (by omega)
        have hwr := hw 5 (by omega)
        have em : Int32.toNatClampNeg v952 = (hr % 24).toNat := xcl3 (by omega) (by omega)
        have hmr : 0 ≤ C 25 (hr % 24).toNat ∧ C 25 (hr % 24).toNat ≤ 999 := hC.2.2.2.2.2 5 (by omega) (hr % 24).toNat (by omega)
        rw [em] at hlv956
        have n1 : Int32.toNatClampNeg 5 = 5 := by decide
        rw [n1] at kk
        have zc99999 : (99999 : Int32).toInt = 99999 := by decide
        have ew : (v1056 : Int32).toInt = xcap (gw 5 + C 25 (hr % 24).toNat) := xcap_is (fun z => by omega) (fun z => by omega)
        have hfan := xc_of_fan hq (show 5 < 6 by omega)
        have ec : (v1069 : Int32).toInt = st 5 2 + (if st 5 4 = 1 then st 5 3 else 0) := by rw [if_pos (show st 5 4 = 1 by omega)]; omega
        have hcb := xho_b b4.1 b4.2
        have eg : (r1074 : Int32).toInt = xho (st 5 1) := by rw [hr1074, show (v1073 : Int32).toInt = st 5 1 by omega]
        obtain ⟨ha1, ha2, ha3, ha4⟩ := xair ew (show (v1060 : Int32).toInt = st 5 0 by omega) hr1061 ec eg (xcap_b (by omega)) hqr.1 ⟨by omega, by omega⟩ hfan ⟨by omega, by omega⟩ ev1062 ev1063 ev1064 ev1070 ev1071 ev1072 ev1075
        have hv := xro_v ha1 ha3
        have hW := xrp_fn R1079 (show _ = (xup gw 5 (xro (gw 5) (C 25 (hr % 24).toNat) (st 5 0) (st 5 1) (st 5 2 + (if st 5 4 = 1 then st 5 3 else 0)) (xho x4.toInt))) from (congrArg (xup _ 5) (show (v1072 : Int32).toInt = _ from hv.2 (by omega))).trans xup_2)
        exact kk hh1077 K1078 (xra_mk eh1077.1 hW)
      · refine xi_cmf (pc' := 99) kc_128_96 rfl (xc_le_f (X := v1072.toInt) (Y := v1075.toInt) rfl rfl (by omega)) ?_
        refine xi_aload_n (pc' := 100) (x := 1) kc_128_99 rfl rfl ?_
        refine xi_aload_n (pc' := 101) (x := 63) kc_128_100 rfl rfl ?_
        refine xi_iload_n (pc' := 102) (x := 5) kc_128_101 rfl rfl ?_
        refine xi_iload (pc' := 104) (x := v1072) kc_128_102 rfl rfl ?_
        refine xi_iload (pc' := 106) (x := v1075) kc_128_104 rfl rfl ?_
        obtain ⟨v1080, ev1080⟩ : ∃ q : Int32, (v1072 : Int32) - v1075 = q := ⟨_, rfl⟩
        have rv1080 := xc_rng v1080
        refine xi_isub (pc' := 107) (v := v1080) kc_128_106 rfl ev1080 ?_
        refine xi_iload (pc' := 109) (x := v1073) kc_128_107 rfl rfl ?_
        refine xi_iload (pc' := 111) (x := x4) kc_128_109 rfl rfl ?_
        obtain ⟨v1081, ev1081⟩ : ∃ q : Int32, v1073 - x4 = q := ⟨_, rfl⟩
        have zv1081 : v1081.toInt = (v1073.toInt + (-1) * x4.toInt) := by rw [← ev1081]; exact (xz_sub (X := v1073.toInt) (Y := x4.toInt) rfl rfl (by omega) (by omega)).trans (by omega)
        refine xi_isub (pc' := 112) (v := v1081) kc_128_111 rfl ev1081 ?_
        have A1082 := ((eh1052.2.1 1 (by decide)).trans A3)
        refine xi_virtual (mj := 130) (as := [.ref 63, .int 5, .int v1080, .int v1081]) (st1 := []) (lv0 := [(0, .ref 1), (1, .ref 63), (2, .int 5), (3, .int v1080), (4, .int v1081)]) kc_128_112 rfl rfl rfl rfl rfl A1082 (Nat.le_of_ble_eq_true rfl) (hJ _ _ _ _ (by decide)) (xm_le ml_130 rfl) rfl ?_
        have zc5 : (5 : Int32).toInt = 5 := by decide
        refine mt_130_0 hJ hov1 hov2 (d := d + 1) (x2 := 5) (x3 := v1080) (x4 := v1081) K1053.1 (by first | omega | decide) (fun hh1084 K1085 => ?_)
        have A1086 := ((eh1052.2.1 28 (by decide)).trans A954)
        have K1087 := xk_tr K1053 K1085 (xsb_ok _ _ (by decide +kernel))
        obtain ⟨u1088, u1089, bu1088, bu1089, A1090⟩ := xq_1 K1087.1
        have C1091 : xcX hh1084 C := xcX_k C0 K1087 (by decide +kernel)
        have hfu1088 : u1088.toInt = (C 11 0) := xfi_ld C1091.1 A1090 rfl
        have e1092 : u1 = u1088 := xk_eqi (q := 5) K1085 (by decide +kernel) A1082 A1090 rfl rfl
        subst e1092
        have A1093 := xk_eqa (q := 0) K1085 (by decide +kernel) A1086
        obtain ⟨u1094, u1095, bu1094, bu1095, A1096⟩ := xq_63 K1087.1
        have hfu1095 : u1095.toInt = 63 := xfi_ld C1091.2.2.2.2.2.2.2.2.2.2.2.2.2.2.2.2.2.2.2 A1096 rfl
        have e1097 : u957 = u1094 := xk_eqi (q := 2) K1085 (by decide +kernel) A1055 A1096 rfl rfl
        subst e1097
        have e1098 : u958 = u1095 := xk_eqi (q := 3) K1085 (by decide +kernel) A1055 A1096 rfl rfl
        subst e1098
        have A1099 := xk_eqa (q := 0) K1085 (by decide +kernel) eh1052.1
        have A1100 := xk_eqa (q := 0) K1085 (by decide +kernel) A1058
        show xw J ov (d + 4) 128 (115, [(10, .int v1075), (9, .int v1073), (6, .int v1072), (8, .int v1063), (7, .int v1060), (5, .ref 26), (0, .ref 1), (1, .ref 63), (2, .int 5), (3, .int x3), (4, .int x4)], [], hh1084) _
        refine xi_iload (pc' := 117) (x := v1075) kc_128_115 rfl rfl ?_
        refine xi_istore (pc' := 119) (lv' := [(6, .int v1075), (10, .int v1075), (9, .int v1073), (8, .int v1063), (7, .int v1060), (5, .ref 26), (0, .ref 1), (1, .ref 63), (2, .int 5), (3, .int x3), (4, .int x4)]) kc_128_117 rfl rfl (xm_lt ml_128 rfl) ?_
        refine xi_aload_n (pc' := 120) (x := 63) kc_128_119 rfl rfl ?_
        refine xi_getfield (pc' := 123) (v := .ref 64) kc_128_120 rfl rfl rfl A1096 rfl ?_
        refine xi_iload_n (pc' := 124) (x := 5) kc_128_123 rfl rfl ?_
        refine xi_iload (pc' := 126) (x := v1075) kc_128_124 rfl rfl ?_
        obtain ⟨y1101, s1101, hy1101, ry1101⟩ := xj_set (v := v1075) hy1052 ry1052 5 (by first | omega | decide) (by first | omega | decide)
        refine xi_iastore (pc' := 127) (x' := y1101) kc_128_126 rfl A1099 rfl (xi_in (by decide) (by rw [hy1052]; decide)) s1101 (fun hh1101 eh1101 => ?_)
        have K1102 := xk_pa K1087 (xk_wa (by decide +kernel)) xD_64 hy1101 ry1101 eh1101
        have R1103 : xrp y1101 6 (xup (xup gw 5 (99999 : Int32).toInt) 5 (v1075 : Int32).toInt) := xrp_setc R1054 s1101 (by decide) rfl
        refine xi_return kc_128_127 mr_128 ?_
        have hqr := hq 5 (by omega)
        have hwr := hw 5 (by omega)
        have em : Int32.toNatClampNeg v952 = (hr % 24).toNat := xcl3 (by omega) (by omega)
        have hmr : 0 ≤ C 25 (hr % 24).toNat ∧ C 25 (hr % 24).toNat ≤ 999 := hC.2.2.2.2.2 5 (by omega) (hr % 24).toNat (by omega)
        rw [em] at hlv956
        have n1 : Int32.toNatClampNeg 5 = 5 := by decide
        rw [n1] at kk
        have zc99999 : (99999 : Int32).toInt = 99999 := by decide
        have ew : (v1056 : Int32).toInt = xcap (gw 5 + C 25 (hr % 24).toNat) := xcap_is (fun z => by omega) (fun z => by omega)
        have hfan := xc_of_fan hq (show 5 < 6 by omega)
        have ec : (v1069 : Int32).toInt = st 5 2 + (if st 5 4 = 1 then st 5 3 else 0) := by rw [if_pos (show st 5 4 = 1 by omega)]; omega
        have hcb := xho_b b4.1 b4.2
        have eg : (r1074 : Int32).toInt = xho (st 5 1) := by rw [hr1074, show (v1073 : Int32).toInt = st 5 1 by omega]
        obtain ⟨ha1, ha2, ha3, ha4⟩ := xair ew (show (v1060 : Int32).toInt = st 5 0 by omega) hr1061 ec eg (xcap_b (by omega)) hqr.1 ⟨by omega, by omega⟩ hfan ⟨by omega, by omega⟩ ev1062 ev1063 ev1064 ev1070 ev1071 ev1072 ev1075
        have hv := xro_v ha1 ha3
        have hW := xrp_fn R1103 (show _ = (xup gw 5 (xro (gw 5) (C 25 (hr % 24).toNat) (st 5 0) (st 5 1) (st 5 2 + (if st 5 4 = 1 then st 5 3 else 0)) (xho x4.toInt))) from (congrArg (xup _ 5) (show (v1075 : Int32).toInt = _ from hv.1 (by omega))).trans xup_2)
        exact kk hh1101 K1102 (xra_mk eh1101.1 hW)
    · refine xi_cmt (pc' := 25) kc_129_13 rfl (xc_ne_t (X := v1066.toInt) (Y := 1) rfl (by decide) (by omega)) ?_
      refine xi_iconst (pc' := 26) (v := 0) kc_129_25 rfl rfl ?_
      obtain ⟨v1104, ev1104⟩ : ∃ q : Int32, v1065 + 0 = q := ⟨_, rfl⟩
      have zv1104 : v1104.toInt = v1065.toInt := by rw [← ev1104]; exact (xz_add (X := v1065.toInt) (Y := 0) rfl (by decide) (by omega) (by omega)).trans (by omega)
      refine xi_iadd (pc' := 27) (v := v1104) kc_129_26 rfl ev1104 ?_
      refine xi_ireturn kc_129_27 mr_129 rfl ?_
      show xw J ov (d + 4) 128 (66, [(8, .int v1063), (7, .int v1060), (6, .int v1056), (5, .ref 26), (0, .ref 1), (1, .ref 63), (2, .int 5), (3, .int x3), (4, .int x4)], [.int v1104, .int v1064, .int v1056], hh1052) _
      obtain ⟨v1105, ev1105⟩ : ∃ q : Int32, (v1064 : Int32) * v1104 = q := ⟨_, rfl⟩
      have rv1105 := xc_rng v1105
      refine xi_imul (pc' := 67) (v := v1105) kc_128_66 rfl ev1105 ?_
      refine xi_bipush (pc' := 69) (v := 100) kc_128_67 rfl rfl ?_
      obtain ⟨v1106, ev1106⟩ : ∃ q : Int32, v1105 / 100 = q := ⟨_, rfl⟩
      have dv1106 : 100 * v1106.toInt ≤ v1105.toInt + 99 ∧ v1105.toInt ≤ 100 * v1106.toInt + 99 := by rw [← ev1106]; exact xz_div (X := v1105.toInt) (Y := 100) rfl (by decide) (by decide)
      have bv1106 : -21474837 ≤ v1106.toInt ∧ v1106.toInt ≤ 21474837 := by omega
      refine xi_idiv (pc' := 70) (v := v1106) kc_128_69 rfl ev1106 (by decide) ?_
      obtain ⟨v1107, ev1107⟩ : ∃ q : Int32, (v1056 : Int32) - v1106 = q := ⟨_, rfl⟩
      have rv1107 := xc_rng v1107
      refine xi_isub (pc' := 71) (v := v1107) kc_128_70 rfl ev1107 ?_
      refine xi_istore (pc' := 73) (lv' := [(6, .int v1107), (8, .int v1063), (7, .int v1060), (5, .ref 26), (0, .ref 1), (1, .ref 63), (2, .int 5), (3, .int x3), (4, .int x4)]) kc_128_71 rfl rfl (xm_lt ml_128 rfl) ?_
      refine xi_aload (pc' := 75) (x := 26) kc_128_73 rfl rfl ?_
      refine xi_getfield (pc' := 78) (v := .ref 27) kc_128_75 rfl rfl rfl A1057 rfl ?_
      refine xi_iconst (pc' := 79) (v := 1) kc_128_78 rfl rfl ?_
      obtain ⟨v1108, ev1108, bv1108, dv1108⟩ := xj_get hy1058 ry1058 (i := 1) (by decide) (by decide)
      refine xi_iaload (pc' := 80) (v := v1108) kc_128_79 rfl A1058 (by decide) rfl (xi_in (by decide) (by rw [hy1058]; decide)) ev1108 ?_
      have hlv1108 : v1108.toInt = (st 5) 1 := xrp_ldc R1059 (k := 1) (by decide) (by decide) ev1108
      have brv1108 : 0 ≤ v1108.toInt ∧ v1108.toInt ≤ 99 := by have := hq 5 (by omega); omega
      refine xi_istore (pc' := 82) (lv' := [(9, .int v1108), (6, .int v1107), (8, .int v1063), (7, .int v1060), (5, .ref 26), (0, .ref 1), (1, .ref 63), (2, .int 5), (3, .int x3), (4, .int x4)]) kc_128_80 rfl rfl (xm_lt ml_128 rfl) ?_
      refine xi_iload (pc' := 84) (x := v1060) kc_128_82 rfl rfl ?_
      refine xi_iload (pc' := 86) (x := v1108) kc_128_84 rfl rfl ?_
      refine xi_static (mj := 102) (as := [.int v1108]) (st1 := [.int v1060]) (lv0 := [(0, .int v1108)]) kc_128_86 rfl rfl (Nat.le_of_ble_eq_true rfl) rfl rfl (Nat.le_of_ble_eq_true rfl) (hJ _ _ _ _ (by decide)) (xm_le ml_102 rfl) rfl ?_
      refine xw_gx hJ hov1 hov2 (d := d + 1) (x0 := v1108) (by omega) (fun r1109 hr1109 br1109 => ?_)
      show xw J ov (d + 4) 128 (89, [(9, .int v1108), (6, .int v1107), (8, .int v1063), (7, .int v1060), (5, .ref 26), (0, .ref 1), (1, .ref 63), (2, .int 5), (3, .int x3), (4, .int x4)], [.int r1109, .int v1060], hh1052) _
      obtain ⟨v1110, ev1110⟩ : ∃ q : Int32, (v1060 : Int32) * r1109 = q := ⟨_, rfl⟩
      have rv1110 := xc_rng v1110
      refine xi_imul (pc' := 90) (v := v1110) kc_128_89 rfl ev1110 ?_
      refine xi_istore (pc' := 92) (lv' := [(10, .int v1110), (9, .int v1108), (6, .int v1107), (8, .int v1063), (7, .int v1060), (5, .ref 26), (0, .ref 1), (1, .ref 63), (2, .int 5), (3, .int x3), (4, .int x4)]) kc_128_90 rfl rfl (xm_lt ml_128 rfl) ?_
      refine xi_iload (pc' := 94) (x := v1107) kc_128_92 rfl rfl ?_
      refine xi_iload (pc' := 96) (x := v1110) kc_128_94 rfl rfl ?_
      by_cases c1111 : v1107.toInt ≤ v1110.toInt
      · refine xi_cmt (pc' := 119) kc_128_96 rfl (xc_le_t (X := v1107.toInt) (Y := v1110.toInt) rfl rfl (by omega)) ?_
        refine xi_aload_n (pc' := 120) (x := 63) kc_128_119 rfl rfl ?_
        refine xi_getfield (pc' := 123) (v := .ref 64) kc_128_120 rfl rfl rfl A1055 rfl ?_
        refine xi_iload_n (pc' := 124) (x := 5) kc_128_123 rfl rfl ?_
        refine xi_iload (pc' := 126) (x := v1107) kc_128_124 rfl rfl ?_
        obtain ⟨y1112, s1112, hy1112, ry1112⟩ := xj_set (v := v1107) hy1052 ry1052 5 (by first | omega | decide) (by first | omega | decide)
        refine xi_iastore (pc' := 127) (x' := y1112) kc_128_126 rfl eh1052.1 rfl (xi_in (by decide) (by rw [hy1052]; decide)) s1112 (fun hh1112 eh1112 => ?_)
        have K1113 := xk_pa K1053 (xk_wa (by decide +kernel)) xD_64 hy1112 ry1112 eh1112
        have R1114 : xrp y1112 6 (xup (xup gw 5 (99999 : Int32).toInt) 5 (v1107 : Int32).toInt) := xrp_setc R1054 s1112 (by decide) rfl
        refine xi_return kc_128_127 mr_128 ?_
        have hqr := hq 5 (by omega)
        have hwr := hw 5 (by omega)
        have em : Int32.toNatClampNeg v952 = (hr % 24).toNat := xcl3 (by omega) (by omega)
        have hmr : 0 ≤ C 25 (hr % 24).toNat ∧ C 25 (hr % 24).toNat ≤ 999 := hC.2.2.2.2.2 5 (by omega) (hr % 24).toNat (by omega)
        rw [em] at hlv956
        have n1 : Int32.toNatClampNeg 5 = 5 := by decide
        rw [n1] at kk
        have zc99999 : (99999 : Int32).toInt = 99999 := by decide
        have ew : (v1056 : Int32).toInt = xcap (gw 5 + C 25 (hr % 24).toNat) := xcap_is (fun z => by omega) (fun z => by omega)
        have hfan := xc_of_fan hq (show 5 < 6 by omega)
        have ec : (v1104 : Int32).toInt = st 5 2 + (if st 5 4 = 1 then st 5 3 else 0) := by rw [if_neg (show ¬ st 5 4 = 1 by omega)]; omega
        have hcb := xho_b b4.1 b4.2
        have eg : (r1109 : Int32).toInt = xho (st 5 1) := by rw [hr1109, show (v1108 : Int32).toInt = st 5 1 by omega]
        obtain ⟨ha1, ha2, ha3, ha4⟩ := xair ew (show (v1060 : Int32).toInt = st 5 0 by omega) hr1061 ec eg (xcap_b (by omega)) hqr.1 ⟨by omega, by omega⟩ hfan ⟨by omega, by omega⟩ ev1062 ev1063 ev1064 ev1105 ev1106 ev1107 ev1110
        have hv := xro_v ha1 ha3
        have hW := xrp_fn R1114 (show _ = (xup gw 5 (xro (gw 5) (C 25 (hr % 24).toNat) (st 5 0) (st 5 1) (st 5 2 + (if st 5 4 = 1 then st 5 3 else 0)) (xho x4.toInt))) from (congrArg (xup _ 5) (show (v1107 : Int32).toInt = _ from hv.2 (by omega))).trans xup_2)
        exact kk hh1112 K1113 (xra_mk eh1112.1 hW)
      · refine xi_cmf (pc' := 99) kc_128_96 rfl (xc_le_f (X := v1107.toInt) (Y := v1110.toInt) rfl rfl (by omega)) ?_
        refine xi_aload_n (pc' := 100) (x := 1) kc_128_99 rfl rfl ?_
        refine xi_aload_n (pc' := 101) (x := 63) kc_128_100 rfl rfl ?_
        refine xi_iload_n (pc' := 102) (x := 5) kc_128_101 rfl rfl ?_
        refine xi_iload (pc' := 104) (x := v1107) kc_128_102 rfl rfl ?_
        refine xi_iload (pc' := 106) (x := v1110) kc_128_104 rfl rfl ?_
        obtain ⟨v1115, ev1115⟩ : ∃ q : Int32, (v1107 : Int32) - v1110 = q := ⟨_, rfl⟩
        have rv1115 := xc_rng v1115
        refine xi_isub (pc' := 107) (v := v1115) kc_128_106 rfl ev1115 ?_
        refine xi_iload (pc' := 109) (x := v1108) kc_128_107 rfl rfl ?_
        refine xi_iload (pc' := 111) (x := x4) kc_128_109 rfl rfl ?_
        obtain ⟨v1116, ev1116⟩ : ∃ q : Int32, v1108 - x4 = q := ⟨_, rfl⟩
        have zv1116 : v1116.toInt = (v1108.toInt + (-1) * x4.toInt) := by rw [← ev1116]; exact (xz_sub (X := v1108.toInt) (Y := x4.toInt) rfl rfl (by omega) (by omega)).trans (by omega)
        refine xi_isub (pc' := 112) (v := v1116) kc_128_111 rfl ev1116 ?_
        have A1117 := ((eh1052.2.1 1 (by decide)).trans A3)
        refine xi_virtual (mj := 130) (as := [.ref 63, .int 5, .int v1115, .int v1116]) (st1 := []) (lv0 := [(0, .ref 1), (1, .ref 63), (2, .int 5), (3, .int v1115), (4, .int v1116)]) kc_128_112 rfl rfl rfl rfl rfl A1117 (Nat.le_of_ble_eq_true rfl) (hJ _ _ _ _ (by decide)) (xm_le ml_130 rfl) rfl ?_
        have zc5 : (5 : Int32).toInt = 5 := by decide
        refine mt_130_0 hJ hov1 hov2 (d := d + 1) (x2 := 5) (x3 := v1115) (x4 := v1116) K1053.1 (by first | omega | decide) (fun hh1119 K1120 => ?_)
        have A1121 := ((eh1052.2.1 28 (by decide)).trans A954)
        have K1122 := xk_tr K1053 K1120 (xsb_ok _ _ (by decide +kernel))
        obtain ⟨u1123, u1124, bu1123, bu1124, A1125⟩ := xq_1 K1122.1
        have C1126 : xcX hh1119 C := xcX_k C0 K1122 (by decide +kernel)
        have hfu1123 : u1123.toInt = (C 11 0) := xfi_ld C1126.1 A1125 rfl
        have e1127 : u1 = u1123 := xk_eqi (q := 5) K1120 (by decide +kernel) A1117 A1125 rfl rfl
        subst e1127
        have A1128 := xk_eqa (q := 0) K1120 (by decide +kernel) A1121
        obtain ⟨u1129, u1130, bu1129, bu1130, A1131⟩ := xq_63 K1122.1
        have hfu1130 : u1130.toInt = 63 := xfi_ld C1126.2.2.2.2.2.2.2.2.2.2.2.2.2.2.2.2.2.2.2 A1131 rfl
        have e1132 : u957 = u1129 := xk_eqi (q := 2) K1120 (by decide +kernel) A1055 A1131 rfl rfl
        subst e1132
        have e1133 : u958 = u1130 := xk_eqi (q := 3) K1120 (by decide +kernel) A1055 A1131 rfl rfl
        subst e1133
        have A1134 := xk_eqa (q := 0) K1120 (by decide +kernel) eh1052.1
        have A1135 := xk_eqa (q := 0) K1120 (by decide +kernel) A1058
        show xw J ov (d + 4) 128 (115, [(10, .int v1110), (9, .int v1108), (6, .int v1107), (8, .int v1063), (7, .int v1060), (5, .ref 26), (0, .ref 1), (1, .ref 63), (2, .int 5), (3, .int x3), (4, .int x4)], [], hh1119) _
        refine xi_iload (pc' := 117) (x := v1110) kc_128_115 rfl rfl ?_
        refine xi_istore (pc' := 119) (lv' := [(6, .int v1110), (10, .int v1110), (9, .int v1108), (8, .int v1063), (7, .int v1060), (5, .ref 26), (0, .ref 1), (1, .ref 63), (2, .int 5), (3, .int x3), (4, .int x4)]) kc_128_117 rfl rfl (xm_lt ml_128 rfl) ?_
        refine xi_aload_n (pc' := 120) (x := 63) kc_128_119 rfl rfl ?_
        refine xi_getfield (pc' := 123) (v := .ref 64) kc_128_120 rfl rfl rfl A1131 rfl ?_
        refine xi_iload_n (pc' := 124) (x := 5) kc_128_123 rfl rfl ?_
        refine xi_iload (pc' := 126) (x := v1110) kc_128_124 rfl rfl ?_
        obtain ⟨y1136, s1136, hy1136, ry1136⟩ := xj_set (v := v1110) hy1052 ry1052 5 (by first | omega | decide) (by first | omega | decide)
        refine xi_iastore (pc' := 127) (x' := y1136) kc_128_126 rfl A1134 rfl (xi_in (by decide) (by rw [hy1052]; decide)) s1136 (fun hh1136 eh1136 => ?_)
        have K1137 := xk_pa K1122 (xk_wa (by decide +kernel)) xD_64 hy1136 ry1136 eh1136
        have R1138 : xrp y1136 6 (xup (xup gw 5 (99999 : Int32).toInt) 5 (v1110 : Int32).toInt) := xrp_setc R1054 s1136 (by decide) rfl
        refine xi_return kc_128_127 mr_128 ?_
        have hqr := hq 5 (by omega)
        have hwr := hw 5 (by omega)
        have em : Int32.toNatClampNeg v952 = (hr % 24).toNat := xcl3 (by omega) (by omega)
        have hmr : 0 ≤ C 25 (hr % 24).toNat ∧ C 25 (hr % 24).toNat ≤ 999 := hC.2.2.2.2.2 5 (by omega) (hr % 24).toNat (by omega)
        rw [em] at hlv956
        have n1 : Int32.toNatClampNeg 5 = 5 := by decide
        rw [n1] at kk
        have zc99999 : (99999 : Int32).toInt = 99999 := by decide
        have ew : (v1056 : Int32).toInt = xcap (gw 5 + C 25 (hr % 24).toNat) := xcap_is (fun z => by omega) (fun z => by omega)
        have hfan := xc_of_fan hq (show 5 < 6 by omega)
        have ec : (v1104 : Int32).toInt = st 5 2 + (if st 5 4 = 1 then st 5 3 else 0) := by rw [if_neg (show ¬ st 5 4 = 1 by omega)]; omega
        have hcb := xho_b b4.1 b4.2
        have eg : (r1109 : Int32).toInt = xho (st 5 1) := by rw [hr1109, show (v1108 : Int32).toInt = st 5 1 by omega]
        obtain ⟨ha1, ha2, ha3, ha4⟩ := xair ew (show (v1060 : Int32).toInt = st 5 0 by omega) hr1061 ec eg (xcap_b (by omega)) hqr.1 ⟨by omega, by omega⟩ hfan ⟨by omega, by omega⟩ ev1062 ev1063 ev1064 ev1105 ev1106 ev1107 ev1110
        have hv := xro_v ha1 ha3
        have hW := xrp_fn R1138 (show _ = (xup gw 5 (xro (gw 5) (C 25 (hr % 24).toNat) (st 5 0) (st 5 1) (st 5 2 + (if st 5 4 = 1 then st 5 3 else 0)) (xho x4.toInt))) from (congrArg (xup _ 5) (show (v1110 : Int32).toInt = _ from hv.1 (by omega))).trans xup_2)
        exact kk hh1136 K1137 (xra_mk eh1136.1 hW)
set_option maxHeartbeats 4000000 in
theorem ph_lp {J : xe_J} {ov : List (List Int32)} (hJ : ∀ d mj as h, mj ≠ xe_loff → J d mj as h = none) (hov1 : ov[1]? = some [10, 0, 0, 0, 0, 0]) (hov2 : ov[2]? = some [99, 30, 50, 50, 1, 99999]) {d : Nat} {Q : Option Value → xe_H → Prop} {hb : xe_H} {C st : xFn} {w : Nat → Int} {hr : Int} {x2 x3 : Int32} (C0 : xcX hb C) (hC : xcr C) (I6 : xg6 hb st) (hq : xsq st) (hw : xwr 6 99999 w) (b2 : 0 ≤ x2.toInt ∧ x2.toInt ≤ 599) (eh : x2.toInt = hr) (e3 : x3.toInt = C 10 hr.toNat) (kk : ∀ h' : xe_H, xk xP_5 hb h' → xra h' 64 6 (xwn C hr st w) → Q none h') : ∀ (m : Nat) (x4 : Int32) (h : xe_H), (0 ≤ x4.toInt ∧ x4.toInt ≤ 6) → xk xP_5 hb h → xra h 64 6 (xwm x4.toNatClampNeg (xwn C hr st w) (xwb C hr w (C 11 0).toNat)) → 6 - x4.toInt < (m : Int) → xw J ov (d + 6) 124 (18, [(0, .ref 1), (1, .ref 63), (2, .int x2), (3, .int x3), (4, .int x4)], [], h) Q := by
  intro m
  induction m with
  | zero => intro x4 h b4 K IW hm; exfalso; omega
  | succ m ih =>
    intro x4 h b4 K IW hm
    have qx4 := xj_tn b4.1
    have c10 := hC.2.2.2.2.1 hr.toNat (by omega)
    have c11 := hC.1
    have b3 : -20 ≤ x3.toInt ∧ x3.toInt ≤ 99 := by omega
    obtain ⟨y1, A1, hy1, ry1⟩ := xk_arr K.1 xD_64
    have R2 : xrp y1 6 (xwm x4.toNatClampNeg (xwn C hr st w) (xwb C hr w (C 11 0).toNat)) := xra_ld IW A1
    obtain ⟨u3, u4, bu3, bu4, A5⟩ := xq_63 K.1
    have C6 : xcX h C := xcX_k C0 K (by decide +kernel)
    have hfu4 : u4.toInt = 63 := xfi_ld C6.2.2.2.2.2.2.2.2.2.2.2.2.2.2.2.2.2.2.2 A5 rfl
    have bru4 : 63 ≤ u4.toInt ∧ u4.toInt ≤ 63 := by omega
    have er : u4 = 63 := xc_of (Eq.trans (by omega) (show (63 : Int) = (63 : Int32).toInt by decide))
    subst er
    refine xi_iload (pc' := 20) (x := x4) kc_124_18 rfl rfl ?_
    refine xi_bipush (pc' := 22) (v := 6) kc_124_20 rfl rfl ?_
    by_cases c7 : 6 ≤ x4.toInt
    · refine xi_cmt (pc' := 52) kc_124_22 rfl (xc_ge_t (X := x4.toInt) (Y := 6) rfl (by decide) (by omega)) ?_
      refine xi_aload_n (pc' := 53) (x := 1) kc_124_52 rfl rfl ?_
      refine xi_aload_n (pc' := 54) (x := 63) kc_124_53 rfl rfl ?_
      refine xi_iload_n (pc' := 55) (x := x2) kc_124_54 rfl rfl ?_
      obtain ⟨u8, u9, bu8, bu9, A10⟩ := xq_1 K.1
      have hfu8 : u8.toInt = (C 11 0) := xfi_ld C6.1 A10 rfl
      refine xi_virtual (mj := 132) (as := [.ref 63, .int x2]) (st1 := []) (lv0 := [(0, .ref 1), (1, .ref 63), (2, .int x2)]) kc_124_55 rfl rfl rfl rfl rfl A10 (Nat.le_of_ble_eq_true rfl) (hJ _ _ _ _ (by decide)) (xm_le ml_132 rfl) rfl ?_
      refine mt_132_0 hJ hov1 hov2 (d := d + 3) (x2 := x2) K.1 (by first | omega | decide) (fun hh12 K13 => ?_)
      have K14 := xk_tr K K13 (xsb_ok _ _ (by decide +kernel))
      have A15 := xk_eqa (q := 0) K13 (by decide +kernel) A1
      obtain ⟨u16, u17, bu16, bu17, A18⟩ := xq_63 K14.1
      have C19 : xcX hh12 C := xcX_k C0 K14 (by decide +kernel)
      have hfu17 : u17.toInt = 63 := xfi_ld C19.2.2.2.2.2.2.2.2.2.2.2.2.2.2.2.2.2.2.2 A18 rfl
      have bru17 : 63 ≤ u17.toInt ∧ u17.toInt ≤ 63 := by omega
      have e20 : u3 = u16 := xk_eqi (q := 2) K13 (by decide +kernel) A5 A18 rfl rfl
      subst e20
      have e21 : 63 = u17 := xk_eqi (q := 3) K13 (by decide +kernel) A5 A18 rfl rfl
      subst e21
      obtain ⟨u22, u23, bu22, bu23, A24⟩ := xq_1 K14.1
      have hfu22 : u22.toInt = (C 11 0) := xfi_ld C19.1 A24 rfl
      have e25 : u8 = u22 := xk_eqi (q := 5) K13 (by decide +kernel) A10 A24 rfl rfl
      subst e25
      show xw J ov (d + 6) 124 (58, [(0, .ref 1), (1, .ref 63), (2, .int x2), (3, .int x3), (4, .int x4)], [], hh12) _
      refine xi_aload_n (pc' := 59) (x := 1) kc_124_58 rfl rfl ?_
      refine xi_aload_n (pc' := 60) (x := 63) kc_124_59 rfl rfl ?_
      refine xi_virtual (mj := 134) (as := [.ref 63]) (st1 := []) (lv0 := [(0, .ref 1), (1, .ref 63)]) kc_124_60 rfl rfl rfl rfl rfl A24 (Nat.le_of_ble_eq_true rfl) (hJ _ _ _ _ (by decide)) (xm_le ml_134 rfl) rfl ?_
      refine mt_134_0 hJ hov1 hov2 (d := d + 4)  K14.1 (fun hh27 K28 => ?_)
      have K29 := xk_tr K14 K28 (xsb_ok _ _ (by decide +kernel))
      have A30 := xk_eqa (q := 0) K28 (by decide +kernel) A15
      obtain ⟨u31, u32, bu31, bu32, A33⟩ := xq_63 K29.1
      have C34 : xcX hh27 C := xcX_k C0 K29 (by decide +kernel)
      have hfu32 : u32.toInt = 63 := xfi_ld C34.2.2.2.2.2.2.2.2.2.2.2.2.2.2.2.2.2.2.2 A33 rfl
      have bru32 : 63 ≤ u32.toInt ∧ u32.toInt ≤ 63 := by omega
      have e35 : u3 = u31 := xk_eqi (q := 2) K28 (by decide +kernel) A18 A33 rfl rfl
      subst e35
      have e36 : 63 = u32 := xk_eqi (q := 3) K28 (by decide +kernel) A18 A33 rfl rfl
      subst e36
      obtain ⟨u37, u38, bu37, bu38, A39⟩ := xq_1 K29.1
      have hfu37 : u37.toInt = (C 11 0) := xfi_ld C34.1 A39 rfl
      have e40 : u8 = u37 := xk_eqi (q := 5) K28 (by decide +kernel) A24 A39 rfl rfl
      subst e40
      show xw J ov (d + 6) 124 (63, [(0, .ref 1), (1, .ref 63), (2, .int x2), (3, .int x3), (4, .int x4)], [], hh27) _
      refine xi_return kc_124_63 mr_124 ?_
      have en : x4.toNatClampNeg = 6 := by omega
      have hW := R2
      rw [en] at hW
      exact kk hh27 K29 (xra_mk A30 (xrp_cg hW xwm_e))
    · refine xi_cmf (pc' := 25) kc_124_22 rfl (xc_ge_f (X := x4.toInt) (Y := 6) rfl (by decide) (by omega)) ?_
      refine xi_aload_n (pc' := 26) (x := 63) kc_124_25 rfl rfl ?_
      refine xi_getfield (pc' := 29) (v := .int 63) kc_124_26 rfl rfl rfl A5 rfl ?_
      refine xi_iload (pc' := 31) (x := x4) kc_124_29 rfl rfl ?_
      obtain ⟨v41, ev41⟩ : ∃ q : Int32, (63 : Int32) >>> (x4 &&& 31) = q := ⟨_, rfl⟩
      have rv41 := xc_rng v41
      refine xi_ishr (pc' := 32) (v := v41) kc_124_31 rfl ev41 ?_
      refine xi_iconst (pc' := 33) (v := 1) kc_124_32 rfl rfl ?_
      refine xi_iand (pc' := 34) (v := 1) kc_124_33 rfl (xsh63 (by omega) (by omega) ev41) ?_
      refine xi_iff (pc' := 37) kc_124_34 rfl rfl ?_
      refine xi_aload_n (pc' := 38) (x := 1) kc_124_37 rfl rfl ?_
      refine xi_aload_n (pc' := 39) (x := 63) kc_124_38 rfl rfl ?_
      refine xi_iload (pc' := 41) (x := x4) kc_124_39 rfl rfl ?_
      refine xi_iload_n (pc' := 42) (x := x2) kc_124_41 rfl rfl ?_
      refine xi_iload_n (pc' := 43) (x := x3) kc_124_42 rfl rfl ?_
      obtain ⟨u42, u43, bu42, bu43, A44⟩ := xq_1 K.1
      have hfu42 : u42.toInt = (C 11 0) := xfi_ld C6.1 A44 rfl
      refine xi_virtual (mj := 128) (as := [.ref 63, .int x4, .int x2, .int x3]) (st1 := []) (lv0 := [(0, .ref 1), (1, .ref 63), (2, .int x4), (3, .int x2), (4, .int x3)]) kc_124_43 rfl rfl rfl rfl rfl A44 (Nat.le_of_ble_eq_true rfl) (hJ _ _ _ _ (by decide)) (xm_le ml_128 rfl) rfl ?_
      have hwm : xwr 6 99999 (xwm x4.toNatClampNeg (xwn C hr st w) (xwb C hr w (C 11 0).toNat)) := xwm_r (xwn_r hC hq hw (by omega) (by omega)) (xwb_b hC hw _ (by omega))
      refine xw_ar hJ hov1 hov2 (d := d + 1) (hr := hr) K.1 (xcX_k C0 K (by decide +kernel)) hC (xg6_k I6 K (by decide +kernel)) hq IW hwm (by omega) (by omega) (by omega) b3 (fun hh45 K46 IW47 => ?_)
      have K48 := xk_tr K K46 (xsb_ok _ _ (by decide +kernel))
      obtain ⟨u49, u50, bu49, bu50, A51⟩ := xq_63 K48.1
      have C52 : xcX hh45 C := xcX_k C0 K48 (by decide +kernel)
      have hfu50 : u50.toInt = 63 := xfi_ld C52.2.2.2.2.2.2.2.2.2.2.2.2.2.2.2.2.2.2.2 A51 rfl
      have bru50 : 63 ≤ u50.toInt ∧ u50.toInt ≤ 63 := by omega
      have e53 : u3 = u49 := xk_eqi (q := 2) K46 (by decide +kernel) A5 A51 rfl rfl
      subst e53
      have e54 : 63 = u50 := xk_eqi (q := 3) K46 (by decide +kernel) A5 A51 rfl rfl
      subst e54
      obtain ⟨u55, u56, bu55, bu56, A57⟩ := xq_1 K48.1
      have hfu55 : u55.toInt = (C 11 0) := xfi_ld C52.1 A57 rfl
      have e58 : u42 = u55 := xk_eqi (q := 5) K46 (by decide +kernel) A44 A57 rfl rfl
      subst e58
      show xw J ov (d + 6) 124 (46, [(0, .ref 1), (1, .ref 63), (2, .int x2), (3, .int x3), (4, .int x4)], [], hh45) _
      obtain ⟨v59, ev59⟩ : ∃ q : Int32, x4 + 1 = q := ⟨_, rfl⟩
      have zv59 : v59.toInt = (x4.toInt + 1) := by rw [← ev59]; exact (xz_add (X := x4.toInt) (Y := 1) rfl (by decide) (by omega) (by omega)).trans (by omega)
      refine xi_iinc (pc' := 49) (x := x4) (v := v59) (lv' := [(4, .int v59), (0, .ref 1), (1, .ref 63), (2, .int x2), (3, .int x3)]) kc_124_46 rfl rfl ev59 rfl (xm_lt ml_124 rfl) ?_
      refine xi_goto (pc' := 18) kc_124_49 rfl ?_
      refine xw_lv (b := [(0, .ref 1), (1, .ref 63), (2, .int x2), (3, .int x3), (4, .int v59)]) (lvS_cons (lvS_cons (lvS_cons (lvS_cons (lvS_cons (lvS_nil (show ([4, 0, 1, 2, 3] : List Nat).Nodup by decide)) rfl) rfl) rfl) rfl) rfl) ?_
      have en : v59.toNatClampNeg = x4.toNatClampNeg + 1 := xcl2 b4.1 (by omega)
      have hm2 := hC.2.2.2.2.2 x4.toNatClampNeg (by omega) (hr % 24).toNat (by omega)
      have hE : xro (xwm x4.toNatClampNeg (xwn C hr st w) (xwb C hr w (C 11 0).toNat) x4.toNatClampNeg) (C (20 + x4.toNatClampNeg) (hr % 24).toNat) (st x4.toNatClampNeg 0) (st x4.toNatClampNeg 1) (st x4.toNatClampNeg 2 + (if st x4.toNatClampNeg 4 = 1 then st x4.toNatClampNeg 3 else 0)) (xho x3.toInt) = (xwn C hr st w) x4.toNatClampNeg := by
        rw [xwm_at, e3]
        exact xro_2 hm2.1
      rw [hE] at IW47
      exact ih v59 hh45 (by omega) K48 (by rw [en]; exact xra_cg IW47 (xwm_s rfl)) (by omega)
set_option maxHeartbeats 4000000 in
theorem xw_ph {J : xe_J} {ov : List (List Int32)} (hJ : ∀ d mj as h, mj ≠ xe_loff → J d mj as h = none) (hov1 : ov[1]? = some [10, 0, 0, 0, 0, 0]) (hov2 : ov[2]? = some [99, 30, 50, 50, 1, 99999]) {d : Nat} {Q : Option Value → xe_H → Prop} {h : xe_H} {C st : xFn} {w : Nat → Int} {hr : Int} {x2 : Int32} (T : xt h) (C0 : xcX h C) (hC : xcr C) (I6 : xg6 h st) (hq : xsq st) (IW : xra h 64 6 w) (hw : xwr 6 99999 w) (b2 : 0 ≤ x2.toInt ∧ x2.toInt ≤ 599) (eh : x2.toInt = hr) (kk : ∀ h' : xe_H, xk xP_5 h h' → xra h' 64 6 (xwn C hr st w) → Q none h') : xw J ov (d + 6) 124 (0, [(0, .ref 1), (1, .ref 63), (2, .int x2)], [], h) Q := by
  have K : xk xP_5 h h := xk_re T
  have qx2 := xj_tn b2.1
  refine xi_aload_n (pc' := 1) (x := 1) kc_124_0 rfl rfl ?_
  obtain ⟨u1, u2, bu1, bu2, A3⟩ := xq_1 K.1
  have C4 : xcX h C := xcX_k C0 K (by decide +kernel)
  have hfu1 : u1.toInt = (C 11 0) := xfi_ld C4.1 A3 rfl
  refine xi_getfield (pc' := 4) (v := .ref 5) kc_124_1 rfl rfl rfl A3 rfl ?_
  refine xi_iload_n (pc' := 5) (x := x2) kc_124_4 rfl rfl ?_
  obtain ⟨u5, bu5, A6⟩ := xq_5 K.1
  refine xi_virtual (mj := 99) (as := [.int x2]) (st1 := []) (lv0 := [(0, .ref 5), (1, .int x2)]) kc_124_5 rfl rfl rfl rfl rfl A6 (Nat.le_of_ble_eq_true rfl) (hJ _ _ _ _ (by decide)) (xm_le ml_99 rfl) rfl ?_
  refine xi_iload_n (pc' := 1) (x := x2) kc_99_0 rfl rfl ?_
  refine xi_iff (pc' := 4) kc_99_1 rfl (xc_lt_f (X := x2.toInt) (Y := 0) rfl (by decide) (by omega)) ?_
  refine xi_iload_n (pc' := 5) (x := x2) kc_99_4 rfl rfl ?_
  refine xi_aload_n (pc' := 6) (x := 5) kc_99_5 rfl rfl ?_
  refine xi_getfield (pc' := 9) (v := .ref 7) kc_99_6 rfl rfl rfl A6 rfl ?_
  obtain ⟨y7, A7, hy7, ry7⟩ := xk_arr K.1 xD_7
  have R8 : xrp y7 601 (C 10) := xra_ld C4.2.2.2.2.2.2.2.2.1 A7
  refine xi_arraylength (pc' := 10) (n := 601) (v := 601) kc_99_9 rfl (xl_lenI (by decide) (by decide) A7 hy7) rfl ?_
  refine xi_cmt (pc' := 20) kc_99_10 rfl (xc_lt_t (X := x2.toInt) (Y := 601) rfl (by decide) (by omega)) ?_
  refine xi_aload_n (pc' := 21) (x := 5) kc_99_20 rfl rfl ?_
  refine xi_getfield (pc' := 24) (v := .ref 7) kc_99_21 rfl rfl rfl A6 rfl ?_
  refine xi_iload_n (pc' := 25) (x := x2) kc_99_24 rfl rfl ?_
  obtain ⟨v9, ev9, bv9, dv9⟩ := xj_get hy7 ry7 (i := x2) (by omega) (by omega)
  refine xi_iaload (pc' := 26) (v := v9) kc_99_25 rfl A7 (by decide) rfl (xi_in (by omega) (by rw [hy7]; omega)) ev9 ?_
  have hlv9 : v9.toInt = (C 10) (Int32.toNatClampNeg x2) := xrp_ld R8 (by omega) (by omega) ev9
  have brv9 : (-20) ≤ v9.toInt ∧ v9.toInt ≤ 99 := by have := hC.2.2.2.2.1 x2.toNatClampNeg (by omega); omega
  refine xi_ireturn kc_99_26 mr_99 rfl ?_
  show xw J ov (d + 6) 124 (8, [(0, .ref 1), (1, .ref 63), (2, .int x2)], [.int v9], h) _
  refine xi_istore_n (pc' := 9) (lv' := [(3, .int v9), (0, .ref 1), (1, .ref 63), (2, .int x2)]) kc_124_8 rfl rfl (xm_lt ml_124 rfl) ?_
  refine xi_aload_n (pc' := 10) (x := 1) kc_124_9 rfl rfl ?_
  refine xi_aload_n (pc' := 11) (x := 63) kc_124_10 rfl rfl ?_
  refine xi_iload_n (pc' := 12) (x := x2) kc_124_11 rfl rfl ?_
  refine xi_virtual (mj := 125) (as := [.ref 63, .int x2]) (st1 := []) (lv0 := [(0, .ref 1), (1, .ref 63), (2, .int x2)]) kc_124_12 rfl rfl rfl rfl rfl A3 (Nat.le_of_ble_eq_true rfl) (hJ _ _ _ _ (by decide)) (xm_le ml_125 rfl) rfl ?_
  refine xw_br hJ hov1 hov2 (d := d + 2) (hr := hr) K.1 (xcX_k C0 K (by decide +kernel)) hC b2 eh hw IW (fun hh10 K11 IW12 => ?_)
  have K13 := xk_tr K K11 (xsb_ok _ _ (by decide +kernel))
  obtain ⟨u14, u15, bu14, bu15, A16⟩ := xq_1 K13.1
  have C17 : xcX hh10 C := xcX_k C0 K13 (by decide +kernel)
  have hfu14 : u14.toInt = (C 11 0) := xfi_ld C17.1 A16 rfl
  have e18 : u1 = u14 := xk_eqi (q := 5) K11 (by decide +kernel) A3 A16 rfl rfl
  subst e18
  obtain ⟨u19, bu19, A20⟩ := xq_5 K13.1
  have e21 : u5 = u19 := xk_eqi (q := 0) K11 (by decide +kernel) A6 A20 rfl rfl
  subst e21
  have A22 := xk_eqa (q := 0) K11 (by decide +kernel) A7
  show xw J ov (d + 6) 124 (15, [(3, .int v9), (0, .ref 1), (1, .ref 63), (2, .int x2)], [], hh10) _
  refine xi_iconst (pc' := 16) (v := 0) kc_124_15 rfl rfl ?_
  refine xi_istore (pc' := 18) (lv' := [(4, .int 0), (3, .int v9), (0, .ref 1), (1, .ref 63), (2, .int x2)]) kc_124_16 rfl rfl (xm_lt ml_124 rfl) ?_
  refine xw_lv (b := [(0, .ref 1), (1, .ref 63), (2, .int x2), (3, .int v9), (4, .int 0)]) (lvS_cons (lvS_cons (lvS_cons (lvS_cons (lvS_cons (lvS_nil (show ([4, 3, 0, 1, 2] : List Nat).Nodup by decide)) rfl) rfl) rfl) rfl) rfl) ?_
  have zc0 : (0 : Int32).toInt = 0 := by decide
  have e2 : x2.toNatClampNeg = hr.toNat := xcl3 eh (by omega)
  exact ph_lp hJ hov1 hov2 (hr := hr) C0 hC I6 hq hw b2 eh (by rw [← e2]; omega) kk 7 0 hh10 (by omega) K13 (xra_cg IW12 xwm_0) (by omega)
set_option maxHeartbeats 4000000 in
theorem xw_one {J : xe_J} {ov : List (List Int32)} (hJ : ∀ d mj as h, mj ≠ xe_loff → J d mj as h = none) (hov1 : ov[1]? = some [10, 0, 0, 0, 0, 0]) (hov2 : ov[2]? = some [99, 30, 50, 50, 1, 99999]) {d : Nat} {Q : Option Value → xe_H → Prop} {h : xe_H} {C : xFn} {s : xSt} {hr : Int} (T : xt h) (C0 : xcX h C) (hC : xcr C) (hs : xsr s) (b : 0 ≤ hr ∧ hr ≤ 599) (Fh : xfi h 0 9 hr) (IW : xra h 64 6 s.1) (I6 : xg6 h s.2.1) (IB : xgf h xG_trial 5 s.2.2) (kk : ∀ h' : xe_H, xk xP_7 h h' → xfi h' 0 9 (hr + 1) → xra h' 64 6 (xstep C hr s).1 → xg6 h' (xstep C hr s).2.1 → xgf h' xG_trial 5 (xstep C hr s).2.2 → Q none h') : xw J ov (d + 7) 122 (0, [(0, .ref 0)], [], h) Q := by
  have K : xk xP_7 h h := xk_re T
  have c12 := hC.2.1
  obtain ⟨hq1, hz1⟩ := xtb_r (hr := hr) hC hs.2.1 hs.2.2 (C 12 0).toNat (by omega)
  refine xi_aload_n (pc' := 1) (x := 0) kc_122_0 rfl rfl ?_
  obtain ⟨u1, u2, bu1, bu2, A3⟩ := xq_0 K.1
  have C4 : xcX h C := xcX_k C0 K (by decide +kernel)
  have hfu1 : u1.toInt = (C 12 0) := xfi_ld C4.2.1 A3 rfl
  have hfu2 : u2.toInt = hr := xfi_ld Fh A3 rfl
  refine xi_virtual (mj := 123) (as := []) (st1 := []) (lv0 := [(0, .ref 0)]) kc_122_1 rfl rfl rfl rfl rfl A3 (Nat.le_of_ble_eq_true rfl) (hJ _ _ _ _ (by decide)) (xm_le ml_123 rfl) rfl ?_
  refine xw_bt hJ hov1 hov2 (d := d + 3) (hr := hr) K.1 C4 hC Fh I6 IB (fun hh5 K6 F7 F8 => ?_)
  have F9 := xra_fr IW (K6.2.1 (64, 0) (by decide +kernel))
  have F10 := xfi_fr Fh (K6.2.1 (0, 9) (by decide +kernel))
  have K11 := xk_tr K K6 (xsb_ok _ _ (by decide +kernel))
  obtain ⟨u12, u13, bu12, bu13, A14⟩ := xq_0 K11.1
  have C15 : xcX hh5 C := xcX_k C0 K11 (by decide +kernel)
  have hfu12 : u12.toInt = (C 12 0) := xfi_ld C15.2.1 A14 rfl
  have hfu13 : u13.toInt = hr := xfi_ld F10 A14 rfl
  have e16 : u2 = u13 := xk_eqi (q := 9) K6 (by decide +kernel) A3 A14 rfl rfl
  subst e16
  have e17 : u1 = u12 := xk_eqi (q := 8) K6 (by decide +kernel) A3 A14 rfl rfl
  subst e17
  show xw J ov (d + 7) 122 (4, [(0, .ref 0)], [], hh5) _
  refine xi_aload_n (pc' := 5) (x := 0) kc_122_4 rfl rfl ?_
  refine xi_getfield (pc' := 8) (v := .ref 1) kc_122_5 rfl rfl rfl A14 rfl ?_
  refine xi_aload_n (pc' := 9) (x := 0) kc_122_8 rfl rfl ?_
  refine xi_getfield (pc' := 12) (v := .ref 63) kc_122_9 rfl rfl rfl A14 rfl ?_
  refine xi_aload_n (pc' := 13) (x := 0) kc_122_12 rfl rfl ?_
  refine xi_getfield (pc' := 16) (v := .int u2) kc_122_13 rfl rfl rfl A14 rfl ?_
  obtain ⟨u18, u19, bu18, bu19, A20⟩ := xq_1 K11.1
  have hfu18 : u18.toInt = (C 11 0) := xfi_ld C15.1 A20 rfl
  refine xi_virtual (mj := 124) (as := [.ref 63, .int u2]) (st1 := []) (lv0 := [(0, .ref 1), (1, .ref 63), (2, .int u2)]) kc_122_16 rfl rfl rfl rfl rfl A20 (Nat.le_of_ble_eq_true rfl) (hJ _ _ _ _ (by decide)) (xm_le ml_124 rfl) rfl ?_
  refine xw_ph hJ hov1 hov2 (d := d + 0) (hr := hr) K11.1 C15 hC F7 hq1 F9 hs.1 (by omega) (by omega) (fun hh21 K22 F23 => ?_)
  have F24 := xg6_k F7 K22 (by decide +kernel)
  have F25 := xgf_fr F8 K22.2.1 (by decide +kernel)
  have F26 := xfi_fr F10 (K22.2.1 (0, 9) (by decide +kernel))
  have K27 := xk_tr K11 K22 (xsb_ok _ _ (by decide +kernel))
  obtain ⟨u28, u29, bu28, bu29, A30⟩ := xq_0 K27.1
  have C31 : xcX hh21 C := xcX_k C0 K27 (by decide +kernel)
  have hfu28 : u28.toInt = (C 12 0) := xfi_ld C31.2.1 A30 rfl
  have hfu29 : u29.toInt = hr := xfi_ld F26 A30 rfl
  have e32 : u2 = u29 := xk_eqi (q := 9) K22 (by decide +kernel) A14 A30 rfl rfl
  subst e32
  have e33 : u1 = u28 := xk_eqi (q := 8) K22 (by decide +kernel) A14 A30 rfl rfl
  subst e33
  obtain ⟨u34, u35, bu34, bu35, A36⟩ := xq_1 K27.1
  have hfu34 : u34.toInt = (C 11 0) := xfi_ld C31.1 A36 rfl
  have e37 : u18 = u34 := xk_eqi (q := 5) K22 (by decide +kernel) A20 A36 rfl rfl
  subst e37
  show xw J ov (d + 7) 122 (19, [(0, .ref 0)], [], hh21) _
  refine xi_aload_n (pc' := 20) (x := 0) kc_122_19 rfl rfl ?_
  refine xi_getfield (pc' := 23) (v := .ref 1) kc_122_20 rfl rfl rfl A30 rfl ?_
  refine xi_aload_n (pc' := 24) (x := 0) kc_122_23 rfl rfl ?_
  refine xi_getfield (pc' := 27) (v := .ref 63) kc_122_24 rfl rfl rfl A30 rfl ?_
  refine xi_aload_n (pc' := 28) (x := 0) kc_122_27 rfl rfl ?_
  refine xi_getfield (pc' := 31) (v := .int u2) kc_122_28 rfl rfl rfl A30 rfl ?_
  refine xi_virtual (mj := 135) (as := [.ref 63, .int u2]) (st1 := []) (lv0 := [(0, .ref 1), (1, .ref 63), (2, .int u2)]) kc_122_31 rfl rfl rfl rfl rfl A36 (Nat.le_of_ble_eq_true rfl) (hJ _ _ _ _ (by decide)) (xm_le ml_135 rfl) rfl ?_
  refine mt_135_0 hJ hov1 hov2 (d := d + 5) (x2 := u2) K27.1 (by first | omega | decide) (fun hh39 K40 => ?_)
  have K41 := xk_tr K27 K40 (xsb_ok _ _ (by decide +kernel))
  obtain ⟨u42, u43, bu42, bu43, A44⟩ := xq_0 K41.1
  have C45 : xcX hh39 C := xcX_k C0 K41 (by decide +kernel)
  have hfu42 : u42.toInt = (C 12 0) := xfi_ld C45.2.1 A44 rfl
  have e46 : u2 = u43 := xk_eqi (q := 9) K40 (by decide +kernel) A30 A44 rfl rfl
  subst e46
  have e47 : u1 = u42 := xk_eqi (q := 8) K40 (by decide +kernel) A30 A44 rfl rfl
  subst e47
  obtain ⟨u48, u49, bu48, bu49, A50⟩ := xq_1 K41.1
  have hfu48 : u48.toInt = (C 11 0) := xfi_ld C45.1 A50 rfl
  have e51 : u18 = u48 := xk_eqi (q := 5) K40 (by decide +kernel) A36 A50 rfl rfl
  subst e51
  have F52 := xra_fr F23 (K40.2.1 (64, 0) (by decide +kernel))
  have F53 := xg6_k F24 K40 (by decide +kernel)
  have F54 := xgf_fr F25 K40.2.1 (by decide +kernel)
  have F55 := xfi_fr F26 (K40.2.1 (0, 9) (by decide +kernel))
  show xw J ov (d + 7) 122 (34, [(0, .ref 0)], [], hh39) _
  refine xi_aload_n (pc' := 35) (x := 0) kc_122_34 rfl rfl ?_
  refine xi_dup (pc' := 36) kc_122_35 rfl rfl ?_
  refine xi_getfield (pc' := 39) (v := .int u2) kc_122_36 rfl rfl rfl A44 rfl ?_
  refine xi_iconst (pc' := 40) (v := 1) kc_122_39 rfl rfl ?_
  have t56 : 0 ≤ u2.toInt ∧ u2.toInt ≤ 599 := by omega
  obtain ⟨v57, ev57⟩ : ∃ q : Int32, u2 + 1 = q := ⟨_, rfl⟩
  have zv57 : v57.toInt = (u2.toInt + 1) := by rw [← ev57]; exact (xz_add (X := u2.toInt) (Y := 1) rfl (by decide) (by omega) (by omega)).trans (by omega)
  refine xi_iadd (pc' := 41) (v := v57) kc_122_40 rfl ev57 ?_
  refine xi_putfield (pc' := 44) (fs' := [.ref 1, .ref 63, .ref 66, .ref 75, .ref 80, .ref 85, .ref 93, .ref 94, .int u1, .int v57]) kc_122_41 rfl rfl rfl A44 rfl rfl rfl (Nat.le_of_ble_eq_true rfl) rfl (fun hh59 eh58 => ?_)
  have K60 := xk_pf (k := 9) (v := v57) K41 (xk_wf (by decide +kernel)) xD_0 A44 rfl (by first | omega | decide) (by first | omega | decide) eh58 rfl
  refine xi_aload_n (pc' := 45) (x := 0) kc_122_44 rfl rfl ?_
  refine xi_virtual (mj := 136) (as := []) (st1 := []) (lv0 := [(0, .ref 0)]) kc_122_45 rfl rfl rfl rfl rfl eh58.1 (Nat.le_of_ble_eq_true rfl) (hJ _ _ _ _ (by decide)) (xm_le ml_136 rfl) rfl ?_
  have F64 := xra_fr F52 (xl_c (eh58.2.1 64 (by decide)))
  have F65 := xg6_c F53 (fun c hc => eh58.2.1 c (Ne.symm (xk_nc hc rfl)))
  have F66 := xgf_kp F54 (fun c hc => eh58.2.1 c (Ne.symm (xk_nc hc rfl)))
  have F67 : xfi hh59 0 9 (hr + 1) := xfi_mk eh58.1 rfl (by omega)
  have C68 : xcX hh59 C := xcX_k C0 K60 (by decide +kernel)
  refine xw_et hJ hov1 hov2 (d := d + 3) (hr := hr + 1) K60.1 C68 hC F67 F65 F66 (fun hh61 K62 F63 => ?_)
  have F69 := xra_fr F64 (K62.2.1 (64, 0) (by decide +kernel))
  have F70 := xgf_fr F66 K62.2.1 (by decide +kernel)
  have F71 := xfi_fr F67 (K62.2.1 (0, 9) (by decide +kernel))
  have A72 := ((eh58.2.1 1 (by decide)).trans A50)
  have K73 := xk_tr K60 K62 (xsb_ok _ _ (by decide +kernel))
  obtain ⟨u74, u75, bu74, bu75, A76⟩ := xq_0 K73.1
  have C77 : xcX hh61 C := xcX_k C0 K73 (by decide +kernel)
  have hfu74 : u74.toInt = (C 12 0) := xfi_ld C77.2.1 A76 rfl
  have hfu75 : u75.toInt = (hr + 1) := xfi_ld F71 A76 rfl
  have e78 : v57 = u75 := xk_eqi (q := 9) K62 (by decide +kernel) eh58.1 A76 rfl rfl
  subst e78
  have e79 : u1 = u74 := xk_eqi (q := 8) K62 (by decide +kernel) eh58.1 A76 rfl rfl
  subst e79
  obtain ⟨u80, u81, bu80, bu81, A82⟩ := xq_1 K73.1
  have hfu80 : u80.toInt = (C 11 0) := xfi_ld C77.1 A82 rfl
  have e83 : u18 = u80 := xk_eqi (q := 5) K62 (by decide +kernel) A72 A82 rfl rfl
  subst e83
  show xw J ov (d + 7) 122 (48, [(0, .ref 0)], [], hh61) _
  refine xi_return kc_122_48 mr_122 ?_
  exact kk hh61 K73 F71 F69 F63 F70
set_option maxHeartbeats 4000000 in
theorem hx_lp {J : xe_J} {ov : List (List Int32)} (hJ : ∀ d mj as h, mj ≠ xe_loff → J d mj as h = none) (hov1 : ov[1]? = some [10, 0, 0, 0, 0, 0]) (hov2 : ov[2]? = some [99, 30, 50, 50, 1, 99999]) {d : Nat} {Q : Option Value → xe_H → Prop} {hb : xe_H} {C : xFn} {s : xSt} {hr : Int} {x1 : Int32} (C0 : xcX hb C) (hC : xcr C) (hs : xsr s) (b : 0 ≤ hr ∧ hr + x1.toInt ≤ 600) (b1 : 1 ≤ x1.toInt ∧ x1.toInt ≤ 600) (kk : ∀ (r : Int32) (h' : xe_H), r.toInt = hr + x1.toInt → xk xP_7 hb h' → xfi h' 0 9 (hr + ((x1.toNatClampNeg : Nat) : Int)) → xra h' 64 6 (xrun C hr s x1.toNatClampNeg).1 → xg6 h' (xrun C hr s x1.toNatClampNeg).2.1 → xgf h' xG_trial 5 (xrun C hr s x1.toNatClampNeg).2.2 → Q (some (.int r)) h') : ∀ (m : Nat) (x2 : Int32) (h : xe_H), (0 ≤ x2.toInt ∧ x2.toInt ≤ x1.toInt) → xk xP_7 hb h → xfi h 0 9 (hr + ((x2.toNatClampNeg : Nat) : Int)) → xra h 64 6 (xrun C hr s x2.toNatClampNeg).1 → xg6 h (xrun C hr s x2.toNatClampNeg).2.1 → xgf h xG_trial 5 (xrun C hr s x2.toNatClampNeg).2.2 → x1.toInt - x2.toInt < (m : Int) → xw J ov (d + 8) 121 (40, [(0, .ref 0), (1, .int x1), (2, .int x2)], [], h) Q := by
  intro m
  induction m with
  | zero => intro x2 h b2 K Fh IW I6 IB hm; exfalso; omega
  | succ m ih =>
    intro x2 h b2 K Fh IW I6 IB hm
    have qx2 := xj_tn b2.1
    refine xi_iload_n (pc' := 41) (x := x2) kc_121_40 rfl rfl ?_
    refine xi_iload_n (pc' := 42) (x := x1) kc_121_41 rfl rfl ?_
    by_cases c1 : x1.toInt ≤ x2.toInt
    · refine xi_cmt (pc' := 55) kc_121_42 rfl (xc_ge_t (X := x2.toInt) (Y := x1.toInt) rfl rfl (by omega)) ?_
      refine xi_aload_n (pc' := 56) (x := 0) kc_121_55 rfl rfl ?_
      obtain ⟨u2, u3, bu2, bu3, A4⟩ := xq_0 K.1
      have C5 : xcX h C := xcX_k C0 K (by decide +kernel)
      have hfu2 : u2.toInt = (C 12 0) := xfi_ld C5.2.1 A4 rfl
      have hfu3 : u3.toInt = (hr + ((x2.toNatClampNeg : Nat) : Int)) := xfi_ld Fh A4 rfl
      refine xi_getfield (pc' := 59) (v := .int u3) kc_121_56 rfl rfl rfl A4 rfl ?_
      refine xi_ireturn kc_121_59 mr_121 rfl ?_
      have en : x2.toNatClampNeg = x1.toNatClampNeg := congrArg _ (xc_of (by omega))
      rw [en] at Fh IW I6 IB
      exact kk u3 h (by have := xj_tn (i := x1) (by omega); omega) K Fh IW I6 IB
    · refine xi_cmf (pc' := 45) kc_121_42 rfl (xc_ge_f (X := x2.toInt) (Y := x1.toInt) rfl rfl (by omega)) ?_
      refine xi_aload_n (pc' := 46) (x := 0) kc_121_45 rfl rfl ?_
      obtain ⟨u6, u7, bu6, bu7, A8⟩ := xq_0 K.1
      have C9 : xcX h C := xcX_k C0 K (by decide +kernel)
      have hfu6 : u6.toInt = (C 12 0) := xfi_ld C9.2.1 A8 rfl
      have hfu7 : u7.toInt = (hr + ((x2.toNatClampNeg : Nat) : Int)) := xfi_ld Fh A8 rfl
      refine xi_virtual (mj := 122) (as := []) (st1 := []) (lv0 := [(0, .ref 0)]) kc_121_46 rfl rfl rfl rfl rfl A8 (Nat.le_of_ble_eq_true rfl) (hJ _ _ _ _ (by decide)) (xm_le ml_122 rfl) rfl ?_
      have hsr := xrun_r hC hs b.1 x2.toNatClampNeg (by omega)
      refine xw_one hJ hov1 hov2 (d := d) (hr := hr + ((x2.toNatClampNeg : Nat) : Int)) K.1 C9 hC hsr (by omega) Fh IW I6 IB (fun hh10 K11 F12 F13 F14 F15 => ?_)
      have K16 := xk_tr K K11 (xsb_ok _ _ (by decide +kernel))
      obtain ⟨u17, u18, bu17, bu18, A19⟩ := xq_0 K16.1
      have C20 : xcX hh10 C := xcX_k C0 K16 (by decide +kernel)
      have hfu17 : u17.toInt = (C 12 0) := xfi_ld C20.2.1 A19 rfl
      have hfu18 : u18.toInt = (hr + ((x2.toNatClampNeg : Nat) : Int)) + 1 := xfi_ld F12 A19 rfl
      have e21 : u6 = u17 := xk_eqi (q := 8) K11 (by decide +kernel) A8 A19 rfl rfl
      subst e21
      show xw J ov (d + 8) 121 (49, [(0, .ref 0), (1, .int x1), (2, .int x2)], [], hh10) _
      obtain ⟨v22, ev22⟩ : ∃ q : Int32, x2 + 1 = q := ⟨_, rfl⟩
      have zv22 : v22.toInt = (x2.toInt + 1) := by rw [← ev22]; exact (xz_add (X := x2.toInt) (Y := 1) rfl (by decide) (by omega) (by omega)).trans (by omega)
      refine xi_iinc (pc' := 52) (x := x2) (v := v22) (lv' := [(2, .int v22), (0, .ref 0), (1, .int x1)]) kc_121_49 rfl rfl ev22 rfl (xm_lt ml_121 rfl) ?_
      refine xi_goto (pc' := 40) kc_121_52 rfl ?_
      refine xw_lv (b := [(0, .ref 0), (1, .int x1), (2, .int v22)]) (lvS_cons (lvS_cons (lvS_cons (lvS_nil (show ([2, 0, 1] : List Nat).Nodup by decide)) rfl) rfl) rfl) ?_
      have en : v22.toNatClampNeg = x2.toNatClampNeg + 1 := xcl2 b2.1 (by omega)
      exact ih v22 hh10 (by omega) K16 (by rw [en]; exact xfi_e F12 (by omega)) (by rw [en]; exact F13) (by rw [en]; exact F14) (by rw [en]; exact F15) (by omega)
