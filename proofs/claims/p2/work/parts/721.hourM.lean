theorem xw_gm {J : xe_J} {ov : List (List Int32)} (hJ : ∀ d mj as h, mj ≠ xe_loff → J d mj as h = none) (hov1 : ov[1]? = some [10, 0, 0, 0, 0, 0]) (hov2 : ov[2]? = some [99, 30, 50, 50, 1, 99999]) {d : Nat} {Q : Option Value → xe_H → Prop} {h : xe_H} {x0 : Int32} (b0 : -20 ≤ x0.toInt ∧ x0.toInt ≤ 99) (kk : ∀ r : Int32, r.toInt = xho x0.toInt → (1 ≤ r.toInt ∧ r.toInt ≤ 300) → Q (some (.int r)) h) : xw J ov (d + 2) 22 (0, [(0, .int x0)], [], h) Q := by
  refine xi_iload_n (pc' := 1) (x := x0) kc_22_0 rfl rfl ?_
  by_cases c1 : x0.toInt < 0
  · refine xi_ift (pc' := 17) kc_22_1 rfl (xc_lt_t (X := x0.toInt) (Y := 0) rfl (by decide) (by omega)) ?_
    refine xi_iconst (pc' := 18) (v := 5) kc_22_17 rfl rfl ?_
    refine xi_iload_n (pc' := 19) (x := x0) kc_22_18 rfl rfl ?_
    obtain ⟨v2, ev2⟩ : ∃ q : Int32, -x0 = q := ⟨_, rfl⟩
    have zv2 : v2.toInt = (-1) * x0.toInt := by rw [← ev2]; exact (xz_neg (X := x0.toInt) rfl (by omega)).trans (by omega)
    refine xi_ineg (pc' := 20) (v := v2) kc_22_19 rfl ev2 ?_
    refine xi_iconst (pc' := 21) (v := 5) kc_22_20 rfl rfl ?_
    obtain ⟨v3, ev3⟩ : ∃ q : Int32, v2 / 5 = q := ⟨_, rfl⟩
    have dv3 : v3.toInt = (-1) * x0.toInt / 5 := by rw [← ev3]; exact xz_dive (X := (-1) * x0.toInt) (Y := 5) zv2 (by decide) (by omega) (by decide)
    have bv3 : 0 ≤ v3.toInt ∧ v3.toInt ≤ 4 := by omega
    refine xi_idiv (pc' := 22) (v := v3) kc_22_21 rfl ev3 (by decide) ?_
    obtain ⟨v4, ev4⟩ : ∃ q : Int32, 5 - v3 = q := ⟨_, rfl⟩
    have zv4 : v4.toInt = ((-1) * v3.toInt + 5) := by rw [← ev4]; exact (xz_sub (X := 5) (Y := v3.toInt) (by decide) rfl (by omega) (by omega)).trans (by omega)
    refine xi_isub (pc' := 23) (v := v4) kc_22_22 rfl ev4 ?_
    refine xi_istore_n (pc' := 24) (lv' := [(1, .int v4), (0, .int x0)]) kc_22_23 rfl rfl (xm_lt ml_22 rfl) ?_
    refine xi_iload_n (pc' := 25) (x := v4) kc_22_24 rfl rfl ?_
    refine xi_iconst (pc' := 26) (v := 1) kc_22_25 rfl rfl ?_
    refine xi_cmt (pc' := 33) kc_22_26 rfl (xc_ge_t (X := ((-1) * v3.toInt + 5)) (Y := 1) zv4 (by decide) (by omega)) ?_
    refine xi_iload_n (pc' := 34) (x := v4) kc_22_33 rfl rfl ?_
    refine xi_ireturn kc_22_34 mr_22 rfl ?_
    have hb := xho_b b0.1 b0.2
    have hv : (v4 : Int32).toInt = xho x0.toInt := by
      unfold xho
      rw [if_neg (show ¬ 0 ≤ x0.toInt by omega)]
      split <;> omega
    exact kk v4 hv (by omega)
  · refine xi_iff (pc' := 4) kc_22_1 rfl (xc_lt_f (X := x0.toInt) (Y := 0) rfl (by decide) (by omega)) ?_
    refine xi_iconst (pc' := 5) (v := 5) kc_22_4 rfl rfl ?_
    refine xi_iload_n (pc' := 6) (x := x0) kc_22_5 rfl rfl ?_
    refine xi_iconst (pc' := 7) (v := 2) kc_22_6 rfl rfl ?_
    obtain ⟨v5, ev5⟩ : ∃ q : Int32, x0 / 2 = q := ⟨_, rfl⟩
    have dv5 : v5.toInt = x0.toInt / 2 := by rw [← ev5]; exact xz_dive (X := x0.toInt) (Y := 2) rfl (by decide) (by omega) (by decide)
    have bv5 : 0 ≤ v5.toInt ∧ v5.toInt ≤ 49 := by omega
    refine xi_idiv (pc' := 8) (v := v5) kc_22_7 rfl ev5 (by decide) ?_
    obtain ⟨v6, ev6⟩ : ∃ q : Int32, 5 + v5 = q := ⟨_, rfl⟩
    have zv6 : v6.toInt = (v5.toInt + 5) := by rw [← ev6]; exact (xz_add (X := 5) (Y := v5.toInt) (by decide) rfl (by omega) (by omega)).trans (by omega)
    refine xi_iadd (pc' := 9) (v := v6) kc_22_8 rfl ev6 ?_
    refine xi_iload_n (pc' := 10) (x := x0) kc_22_9 rfl rfl ?_
    refine xi_iload_n (pc' := 11) (x := x0) kc_22_10 rfl rfl ?_
    obtain ⟨v7, ev7⟩ : ∃ q : Int32, x0 * x0 = q := ⟨_, rfl⟩
    have pv7 := xprod (a := x0.toInt) (A := 99) (b := x0.toInt) (B := 99) (by omega) (by omega) (by omega) (by omega)
    have zv7 : v7.toInt = x0.toInt * x0.toInt := by rw [← ev7]; exact xz_mul rfl rfl (by omega) (by omega)
    have bv7 : 0 ≤ v7.toInt ∧ v7.toInt ≤ 9801 := by omega
    refine xi_imul (pc' := 12) (v := v7) kc_22_11 rfl ev7 ?_
    refine xi_bipush (pc' := 14) (v := 40) kc_22_12 rfl rfl ?_
    obtain ⟨v8, ev8⟩ : ∃ q : Int32, v7 / 40 = q := ⟨_, rfl⟩
    have dv8 : v8.toInt = v7.toInt / 40 := by rw [← ev8]; exact xz_dive (X := v7.toInt) (Y := 40) rfl (by decide) (by omega) (by decide)
    have bv8 : 0 ≤ v8.toInt ∧ v8.toInt ≤ 245 := by omega
    refine xi_idiv (pc' := 15) (v := v8) kc_22_14 rfl ev8 (by decide) ?_
    obtain ⟨v9, ev9⟩ : ∃ q : Int32, v6 + v8 = q := ⟨_, rfl⟩
    have zv9 : v9.toInt = (v5.toInt + v8.toInt + 5) := by rw [← ev9]; exact (xz_add (X := (v5.toInt + 5)) (Y := v8.toInt) zv6 rfl (by omega) (by omega)).trans (by omega)
    refine xi_iadd (pc' := 16) (v := v9) kc_22_15 rfl ev9 ?_
    refine xi_ireturn kc_22_16 mr_22 rfl ?_
    have hb := xho_b b0.1 b0.2
    have hv : (v9 : Int32).toInt = xho x0.toInt := by
      unfold xho
      rw [if_pos (show 0 ≤ x0.toInt by omega)]
      omega
    exact kk v9 hv (by omega)
theorem xw_rn {J : xe_J} {ov : List (List Int32)} (hJ : ∀ d mj as h, mj ≠ xe_loff → J d mj as h = none) (hov1 : ov[1]? = some [10, 0, 0, 0, 0, 0]) (hov2 : ov[2]? = some [99, 30, 50, 50, 1, 99999]) {d : Nat} {Q : Option Value → xe_H → Prop} {h : xe_H} {st : xFn} {x1 x2 : Int32} (T : xt h) (I : xr5 h st) (b1 : 0 ≤ x1.toInt ∧ x1.toInt ≤ 5) (b2 : 0 ≤ x2.toInt ∧ x2.toInt ≤ 4) (kk : ∀ r : Int32, r.toInt = st x1.toNatClampNeg x2.toNatClampNeg → Q (some (.int r)) h) : xw J ov (d + 1) 13 (0, [(0, .ref 115), (1, .int x1), (2, .int x2)], [], h) Q := by
  have K : xk [] h h := xk_re T
  refine xi_iload_n (pc' := 1) (x := x2) kc_13_0 rfl rfl ?_
  by_cases c1 : x2.toInt = 0
  · refine xi_tsi (pc' := 36) (z := 0) kc_13_1 (by omega) rfl (by decide) ?_
    refine xi_aload_n (pc' := 37) (x := 115) kc_13_36 rfl rfl ?_
    obtain ⟨u2, u3, u4, u5, u6, u7, u8, u9, u10, u11, u12, u13, u14, bu2, bu3, bu4, bu5, bu6, bu7, bu8, bu9, bu10, bu11, bu12, bu13, bu14, A15⟩ := xq_115 K.1
    refine xi_getfield (pc' := 40) (v := .ref 116) kc_13_37 rfl rfl rfl A15 rfl ?_
    refine xi_iload_n (pc' := 41) (x := x1) kc_13_40 rfl rfl ?_
    obtain ⟨y16, A16, hy16, ry16⟩ := xk_arr K.1 xD_116
    have R17 : xrp y16 6 (fun r => st r 0) := xra_ld I.1 A16
    obtain ⟨v18, ev18, bv18, dv18⟩ := xj_get hy16 ry16 (i := x1) (by omega) (by omega)
    refine xi_iaload (pc' := 42) (v := v18) kc_13_41 rfl A16 (by decide) rfl (xi_in (by omega) (by rw [hy16]; omega)) ev18 ?_
    have hlv18 : v18.toInt = st (Int32.toNatClampNeg x1) 0 := xrp_ld R17 (by omega) (by omega) ev18
    refine xi_ireturn kc_13_42 mr_13 rfl ?_
    have n2 : x2.toNatClampNeg = 0 := by have := xj_tn (i := x2) (by omega); omega
    rw [n2] at kk
    exact kk v18 hlv18
  by_cases c19 : x2.toInt = 1
  · refine xi_tsi (pc' := 43) (z := 1) kc_13_1 (by omega) rfl (by decide) ?_
    refine xi_aload_n (pc' := 44) (x := 115) kc_13_43 rfl rfl ?_
    obtain ⟨u20, u21, u22, u23, u24, u25, u26, u27, u28, u29, u30, u31, u32, bu20, bu21, bu22, bu23, bu24, bu25, bu26, bu27, bu28, bu29, bu30, bu31, bu32, A33⟩ := xq_115 K.1
    refine xi_getfield (pc' := 47) (v := .ref 117) kc_13_44 rfl rfl rfl A33 rfl ?_
    refine xi_iload_n (pc' := 48) (x := x1) kc_13_47 rfl rfl ?_
    obtain ⟨y34, A34, hy34, ry34⟩ := xk_arr K.1 xD_117
    have R35 : xrp y34 6 (fun r => st r 1) := xra_ld I.2.1 A34
    obtain ⟨v36, ev36, bv36, dv36⟩ := xj_get hy34 ry34 (i := x1) (by omega) (by omega)
    refine xi_iaload (pc' := 49) (v := v36) kc_13_48 rfl A34 (by decide) rfl (xi_in (by omega) (by rw [hy34]; omega)) ev36 ?_
    have hlv36 : v36.toInt = st (Int32.toNatClampNeg x1) 1 := xrp_ld R35 (by omega) (by omega) ev36
    refine xi_ireturn kc_13_49 mr_13 rfl ?_
    have n2 : x2.toNatClampNeg = 1 := by have := xj_tn (i := x2) (by omega); omega
    rw [n2] at kk
    exact kk v36 hlv36
  by_cases c37 : x2.toInt = 2
  · refine xi_tsi (pc' := 50) (z := 2) kc_13_1 (by omega) rfl (by decide) ?_
    refine xi_aload_n (pc' := 51) (x := 115) kc_13_50 rfl rfl ?_
    obtain ⟨u38, u39, u40, u41, u42, u43, u44, u45, u46, u47, u48, u49, u50, bu38, bu39, bu40, bu41, bu42, bu43, bu44, bu45, bu46, bu47, bu48, bu49, bu50, A51⟩ := xq_115 K.1
    refine xi_getfield (pc' := 54) (v := .ref 118) kc_13_51 rfl rfl rfl A51 rfl ?_
    refine xi_iload_n (pc' := 55) (x := x1) kc_13_54 rfl rfl ?_
    obtain ⟨y52, A52, hy52, ry52⟩ := xk_arr K.1 xD_118
    have R53 : xrp y52 6 (fun r => st r 2) := xra_ld I.2.2.1 A52
    obtain ⟨v54, ev54, bv54, dv54⟩ := xj_get hy52 ry52 (i := x1) (by omega) (by omega)
    refine xi_iaload (pc' := 56) (v := v54) kc_13_55 rfl A52 (by decide) rfl (xi_in (by omega) (by rw [hy52]; omega)) ev54 ?_
    have hlv54 : v54.toInt = st (Int32.toNatClampNeg x1) 2 := xrp_ld R53 (by omega) (by omega) ev54
    refine xi_ireturn kc_13_56 mr_13 rfl ?_
    have n2 : x2.toNatClampNeg = 2 := by have := xj_tn (i := x2) (by omega); omega
    rw [n2] at kk
    exact kk v54 hlv54
  by_cases c55 : x2.toInt = 3
  · refine xi_tsi (pc' := 57) (z := 3) kc_13_1 (by omega) rfl (by decide) ?_
    refine xi_aload_n (pc' := 58) (x := 115) kc_13_57 rfl rfl ?_
    obtain ⟨u56, u57, u58, u59, u60, u61, u62, u63, u64, u65, u66, u67, u68, bu56, bu57, bu58, bu59, bu60, bu61, bu62, bu63, bu64, bu65, bu66, bu67, bu68, A69⟩ := xq_115 K.1
    refine xi_getfield (pc' := 61) (v := .ref 119) kc_13_58 rfl rfl rfl A69 rfl ?_
    refine xi_iload_n (pc' := 62) (x := x1) kc_13_61 rfl rfl ?_
    obtain ⟨y70, A70, hy70, ry70⟩ := xk_arr K.1 xD_119
    have R71 : xrp y70 6 (fun r => st r 3) := xra_ld I.2.2.2.1 A70
    obtain ⟨v72, ev72, bv72, dv72⟩ := xj_get hy70 ry70 (i := x1) (by omega) (by omega)
    refine xi_iaload (pc' := 63) (v := v72) kc_13_62 rfl A70 (by decide) rfl (xi_in (by omega) (by rw [hy70]; omega)) ev72 ?_
    have hlv72 : v72.toInt = st (Int32.toNatClampNeg x1) 3 := xrp_ld R71 (by omega) (by omega) ev72
    refine xi_ireturn kc_13_63 mr_13 rfl ?_
    have n2 : x2.toNatClampNeg = 3 := by have := xj_tn (i := x2) (by omega); omega
    rw [n2] at kk
    exact kk v72 hlv72
  refine xi_tsi (pc' := 64) (z := 4) kc_13_1 (by omega) rfl (by decide) ?_
  refine xi_aload_n (pc' := 65) (x := 115) kc_13_64 rfl rfl ?_
  obtain ⟨u73, u74, u75, u76, u77, u78, u79, u80, u81, u82, u83, u84, u85, bu73, bu74, bu75, bu76, bu77, bu78, bu79, bu80, bu81, bu82, bu83, bu84, bu85, A86⟩ := xq_115 K.1
  refine xi_getfield (pc' := 68) (v := .ref 120) kc_13_65 rfl rfl rfl A86 rfl ?_
  refine xi_iload_n (pc' := 69) (x := x1) kc_13_68 rfl rfl ?_
  obtain ⟨y87, A87, hy87, ry87⟩ := xk_arr K.1 xD_120
  have R88 : xrp y87 6 (fun r => st r 4) := xra_ld I.2.2.2.2 A87
  obtain ⟨v89, ev89, bv89, dv89⟩ := xj_get hy87 ry87 (i := x1) (by omega) (by omega)
  refine xi_iaload (pc' := 70) (v := v89) kc_13_69 rfl A87 (by decide) rfl (xi_in (by omega) (by rw [hy87]; omega)) ev89 ?_
  have hlv89 : v89.toInt = st (Int32.toNatClampNeg x1) 4 := xrp_ld R88 (by omega) (by omega) ev89
  refine xi_ireturn kc_13_70 mr_13 rfl ?_
  have n2 : x2.toNatClampNeg = 4 := by have := xj_tn (i := x2) (by omega); omega
  rw [n2] at kk
  exact kk v89 hlv89
set_option maxHeartbeats 4000000 in
theorem xw_te0 {J : xe_J} {ov : List (List Int32)} (hJ : ∀ d mj as h, mj ≠ xe_loff → J d mj as h = none) (hov1 : ov[1]? = some [10, 0, 0, 0, 0, 0]) (hov2 : ov[2]? = some [99, 30, 50, 50, 1, 99999]) {d : Nat} {Q : Option Value → xe_H → Prop} {h : xe_H} {st : xFn} {w : Nat → Int} {x1 x3 : Int32} (T : xt h) (I : xr5 h st) (IW : xra h 121 6 w) (b1 : 0 ≤ x1.toInt ∧ x1.toInt ≤ 5) (b3 : 10 ≤ x3.toInt ∧ x3.toInt ≤ 99) (kk : ∀ h' : xe_H, xk xP_20 h h' → xr5 h' (xu2 st x1.toNatClampNeg 0 x3.toInt) → xra h' 121 6 w → Q none h') : xw J ov (d + 1) 14 (0, [(0, .ref 115), (1, .int x1), (2, .int 0), (3, .int x3)], [], h) Q := by
  have K : xk xP_20 h h := xk_re T
  obtain ⟨y1, A1, hy1, ry1⟩ := xk_arr K.1 xD_116
  have R2 : xrp y1 6 (fun r => st r 0) := xra_ld I.1 A1
  obtain ⟨y3, A3, hy3, ry3⟩ := xk_arr K.1 xD_117
  have R4 : xrp y3 6 (fun r => st r 1) := xra_ld I.2.1 A3
  obtain ⟨y5, A5, hy5, ry5⟩ := xk_arr K.1 xD_118
  have R6 : xrp y5 6 (fun r => st r 2) := xra_ld I.2.2.1 A5
  obtain ⟨y7, A7, hy7, ry7⟩ := xk_arr K.1 xD_119
  have R8 : xrp y7 6 (fun r => st r 3) := xra_ld I.2.2.2.1 A7
  obtain ⟨y9, A9, hy9, ry9⟩ := xk_arr K.1 xD_120
  have R10 : xrp y9 6 (fun r => st r 4) := xra_ld I.2.2.2.2 A9
  obtain ⟨y11, A11, hy11, ry11⟩ := xk_arr K.1 xD_121
  have R12 : xrp y11 6 w := xra_ld IW A11
  refine xi_aload_n (pc' := 1) (x := 115) kc_14_0 rfl rfl ?_
  obtain ⟨u13, u14, u15, u16, u17, u18, u19, u20, u21, u22, u23, u24, u25, bu13, bu14, bu15, bu16, bu17, bu18, bu19, bu20, bu21, bu22, bu23, bu24, bu25, A26⟩ := xq_115 K.1
  refine xi_getfield (pc' := 4) (v := .ref 116) kc_14_1 rfl rfl rfl A26 rfl ?_
  refine xi_iload_n (pc' := 5) (x := x1) kc_14_4 rfl rfl ?_
  refine xi_iload_n (pc' := 6) (x := 0) kc_14_5 rfl rfl ?_
  refine xi_iff (pc' := 9) kc_14_6 rfl rfl ?_
  refine xi_iload_n (pc' := 10) (x := x3) kc_14_9 rfl rfl ?_
  refine xi_goto (pc' := 19) kc_14_10 rfl ?_
  obtain ⟨y27, s27, hy27, ry27⟩ := xj_set (v := x3) hy1 ry1 x1 (by first | omega | decide) (by first | omega | decide)
  refine xi_iastore (pc' := 20) (x' := y27) kc_14_19 rfl A1 rfl (xi_in (by omega) (by rw [hy1]; omega)) s27 (fun hh27 eh27 => ?_)
  have K28 := xk_pa K (xk_wa (by decide +kernel)) xD_116 hy27 ry27 eh27
  have R29 : xrp y27 6 (xup (fun r => st r 0) (Int32.toNatClampNeg x1) (x3 : Int32).toInt) := xrp_set R2 s27
  refine xi_aload_n (pc' := 21) (x := 115) kc_14_20 rfl rfl ?_
  have A30 := ((eh27.2.1 115 (by decide)).trans A26)
  refine xi_getfield (pc' := 24) (v := .ref 117) kc_14_21 rfl rfl rfl A30 rfl ?_
  refine xi_iload_n (pc' := 25) (x := x1) kc_14_24 rfl rfl ?_
  refine xi_iload_n (pc' := 26) (x := 0) kc_14_25 rfl rfl ?_
  refine xi_iconst (pc' := 27) (v := 1) kc_14_26 rfl rfl ?_
  refine xi_cmt (pc' := 34) kc_14_27 rfl rfl ?_
  refine xi_aload_n (pc' := 35) (x := 115) kc_14_34 rfl rfl ?_
  refine xi_getfield (pc' := 38) (v := .ref 117) kc_14_35 rfl rfl rfl A30 rfl ?_
  refine xi_iload_n (pc' := 39) (x := x1) kc_14_38 rfl rfl ?_
  obtain ⟨v31, ev31, bv31, dv31⟩ := xj_get hy3 ry3 (i := x1) (by omega) (by omega)
  have A32 := ((eh27.2.1 117 (by decide)).trans A3)
  refine xi_iaload (pc' := 40) (v := v31) kc_14_39 rfl A32 (by decide) rfl (xi_in (by omega) (by rw [hy3]; omega)) ev31 ?_
  have hlv31 : v31.toInt = st (Int32.toNatClampNeg x1) 1 := xrp_ld R4 (by omega) (by omega) ev31
  obtain ⟨y33, s33, hy33, ry33⟩ := xj_set (v := v31) hy3 ry3 x1 (by first | omega | decide) (by first | omega | decide)
  refine xi_iastore (pc' := 41) (x' := y33) kc_14_40 rfl A32 rfl (xi_in (by omega) (by rw [hy3]; omega)) s33 (fun hh33 eh33 => ?_)
  have K34 := xk_pa K28 (xk_wa (by decide +kernel)) xD_117 hy33 ry33 eh33
  have R35 : xrp y33 6 (xup (fun r => st r 1) (Int32.toNatClampNeg x1) (v31 : Int32).toInt) := xrp_set R4 s33
  refine xi_aload_n (pc' := 42) (x := 115) kc_14_41 rfl rfl ?_
  have A36 := ((eh33.2.1 115 (by decide)).trans A30)
  refine xi_getfield (pc' := 45) (v := .ref 118) kc_14_42 rfl rfl rfl A36 rfl ?_
  refine xi_iload_n (pc' := 46) (x := x1) kc_14_45 rfl rfl ?_
  refine xi_iload_n (pc' := 47) (x := 0) kc_14_46 rfl rfl ?_
  refine xi_iconst (pc' := 48) (v := 2) kc_14_47 rfl rfl ?_
  refine xi_cmt (pc' := 55) kc_14_48 rfl rfl ?_
  refine xi_aload_n (pc' := 56) (x := 115) kc_14_55 rfl rfl ?_
  refine xi_getfield (pc' := 59) (v := .ref 118) kc_14_56 rfl rfl rfl A36 rfl ?_
  refine xi_iload_n (pc' := 60) (x := x1) kc_14_59 rfl rfl ?_
  obtain ⟨v37, ev37, bv37, dv37⟩ := xj_get hy5 ry5 (i := x1) (by omega) (by omega)
  have A38 := ((eh33.2.1 118 (by decide)).trans ((eh27.2.1 118 (by decide)).trans A5))
  refine xi_iaload (pc' := 61) (v := v37) kc_14_60 rfl A38 (by decide) rfl (xi_in (by omega) (by rw [hy5]; omega)) ev37 ?_
  have hlv37 : v37.toInt = st (Int32.toNatClampNeg x1) 2 := xrp_ld R6 (by omega) (by omega) ev37
  obtain ⟨y39, s39, hy39, ry39⟩ := xj_set (v := v37) hy5 ry5 x1 (by first | omega | decide) (by first | omega | decide)
  refine xi_iastore (pc' := 62) (x' := y39) kc_14_61 rfl A38 rfl (xi_in (by omega) (by rw [hy5]; omega)) s39 (fun hh39 eh39 => ?_)
  have K40 := xk_pa K34 (xk_wa (by decide +kernel)) xD_118 hy39 ry39 eh39
  have R41 : xrp y39 6 (xup (fun r => st r 2) (Int32.toNatClampNeg x1) (v37 : Int32).toInt) := xrp_set R6 s39
  refine xi_aload_n (pc' := 63) (x := 115) kc_14_62 rfl rfl ?_
  have A42 := ((eh39.2.1 115 (by decide)).trans A36)
  refine xi_getfield (pc' := 66) (v := .ref 119) kc_14_63 rfl rfl rfl A42 rfl ?_
  refine xi_iload_n (pc' := 67) (x := x1) kc_14_66 rfl rfl ?_
  refine xi_iload_n (pc' := 68) (x := 0) kc_14_67 rfl rfl ?_
  refine xi_iconst (pc' := 69) (v := 3) kc_14_68 rfl rfl ?_
  refine xi_cmt (pc' := 76) kc_14_69 rfl rfl ?_
  refine xi_aload_n (pc' := 77) (x := 115) kc_14_76 rfl rfl ?_
  refine xi_getfield (pc' := 80) (v := .ref 119) kc_14_77 rfl rfl rfl A42 rfl ?_
  refine xi_iload_n (pc' := 81) (x := x1) kc_14_80 rfl rfl ?_
  obtain ⟨v43, ev43, bv43, dv43⟩ := xj_get hy7 ry7 (i := x1) (by omega) (by omega)
  have A44 := ((eh39.2.1 119 (by decide)).trans ((eh33.2.1 119 (by decide)).trans ((eh27.2.1 119 (by decide)).trans A7)))
  refine xi_iaload (pc' := 82) (v := v43) kc_14_81 rfl A44 (by decide) rfl (xi_in (by omega) (by rw [hy7]; omega)) ev43 ?_
  have hlv43 : v43.toInt = st (Int32.toNatClampNeg x1) 3 := xrp_ld R8 (by omega) (by omega) ev43
  obtain ⟨y45, s45, hy45, ry45⟩ := xj_set (v := v43) hy7 ry7 x1 (by first | omega | decide) (by first | omega | decide)
  refine xi_iastore (pc' := 83) (x' := y45) kc_14_82 rfl A44 rfl (xi_in (by omega) (by rw [hy7]; omega)) s45 (fun hh45 eh45 => ?_)
  have K46 := xk_pa K40 (xk_wa (by decide +kernel)) xD_119 hy45 ry45 eh45
  have R47 : xrp y45 6 (xup (fun r => st r 3) (Int32.toNatClampNeg x1) (v43 : Int32).toInt) := xrp_set R8 s45
  refine xi_aload_n (pc' := 84) (x := 115) kc_14_83 rfl rfl ?_
  have A48 := ((eh45.2.1 115 (by decide)).trans A42)
  refine xi_getfield (pc' := 87) (v := .ref 120) kc_14_84 rfl rfl rfl A48 rfl ?_
  refine xi_iload_n (pc' := 88) (x := x1) kc_14_87 rfl rfl ?_
  refine xi_iload_n (pc' := 89) (x := 0) kc_14_88 rfl rfl ?_
  refine xi_iconst (pc' := 90) (v := 4) kc_14_89 rfl rfl ?_
  refine xi_cmt (pc' := 97) kc_14_90 rfl rfl ?_
  refine xi_aload_n (pc' := 98) (x := 115) kc_14_97 rfl rfl ?_
  refine xi_getfield (pc' := 101) (v := .ref 120) kc_14_98 rfl rfl rfl A48 rfl ?_
  refine xi_iload_n (pc' := 102) (x := x1) kc_14_101 rfl rfl ?_
  obtain ⟨v49, ev49, bv49, dv49⟩ := xj_get hy9 ry9 (i := x1) (by omega) (by omega)
  have A50 := ((eh45.2.1 120 (by decide)).trans ((eh39.2.1 120 (by decide)).trans ((eh33.2.1 120 (by decide)).trans ((eh27.2.1 120 (by decide)).trans A9))))
  refine xi_iaload (pc' := 103) (v := v49) kc_14_102 rfl A50 (by decide) rfl (xi_in (by omega) (by rw [hy9]; omega)) ev49 ?_
  have hlv49 : v49.toInt = st (Int32.toNatClampNeg x1) 4 := xrp_ld R10 (by omega) (by omega) ev49
  obtain ⟨y51, s51, hy51, ry51⟩ := xj_set (v := v49) hy9 ry9 x1 (by first | omega | decide) (by first | omega | decide)
  refine xi_iastore (pc' := 104) (x' := y51) kc_14_103 rfl A50 rfl (xi_in (by omega) (by rw [hy9]; omega)) s51 (fun hh51 eh51 => ?_)
  have K52 := xk_pa K46 (xk_wa (by decide +kernel)) xD_120 hy51 ry51 eh51
  have R53 : xrp y51 6 (xup (fun r => st r 4) (Int32.toNatClampNeg x1) (v49 : Int32).toInt) := xrp_set R10 s51
  refine xi_aload_n (pc' := 105) (x := 115) kc_14_104 rfl rfl ?_
  have A54 := ((eh51.2.1 115 (by decide)).trans A48)
  refine xi_getfield (pc' := 108) (v := .ref 121) kc_14_105 rfl rfl rfl A54 rfl ?_
  refine xi_iload_n (pc' := 109) (x := x1) kc_14_108 rfl rfl ?_
  refine xi_iload_n (pc' := 110) (x := 0) kc_14_109 rfl rfl ?_
  refine xi_iconst (pc' := 111) (v := 5) kc_14_110 rfl rfl ?_
  refine xi_cmt (pc' := 118) kc_14_111 rfl rfl ?_
  refine xi_aload_n (pc' := 119) (x := 115) kc_14_118 rfl rfl ?_
  refine xi_getfield (pc' := 122) (v := .ref 121) kc_14_119 rfl rfl rfl A54 rfl ?_
  refine xi_iload_n (pc' := 123) (x := x1) kc_14_122 rfl rfl ?_
  obtain ⟨v55, ev55, bv55, dv55⟩ := xj_get hy11 ry11 (i := x1) (by omega) (by omega)
  have A56 := ((eh51.2.1 121 (by decide)).trans ((eh45.2.1 121 (by decide)).trans ((eh39.2.1 121 (by decide)).trans ((eh33.2.1 121 (by decide)).trans ((eh27.2.1 121 (by decide)).trans A11)))))
  refine xi_iaload (pc' := 124) (v := v55) kc_14_123 rfl A56 (by decide) rfl (xi_in (by omega) (by rw [hy11]; omega)) ev55 ?_
  have hlv55 : v55.toInt = w (Int32.toNatClampNeg x1) := xrp_ld R12 (by omega) (by omega) ev55
  obtain ⟨y57, s57, hy57, ry57⟩ := xj_set (v := v55) hy11 ry11 x1 (by first | omega | decide) (by first | omega | decide)
  refine xi_iastore (pc' := 125) (x' := y57) kc_14_124 rfl A56 rfl (xi_in (by omega) (by rw [hy11]; omega)) s57 (fun hh57 eh57 => ?_)
  have K58 := xk_pa K52 (xk_wa (by decide +kernel)) xD_121 hy57 ry57 eh57
  have R59 : xrp y57 6 (xup w (Int32.toNatClampNeg x1) (v55 : Int32).toInt) := xrp_set R12 s57
  refine xi_aload_n (pc' := 126) (x := 115) kc_14_125 rfl rfl ?_
  refine xi_iconst (pc' := 127) (v := 0) kc_14_126 rfl rfl ?_
  have A60 := ((eh57.2.1 115 (by decide)).trans A54)
  refine xi_putfield (pc' := 130) (fs' := [.int u13, .int u14, .ref 116, .ref 117, .ref 118, .ref 119, .ref 120, .ref 121, .ref 122, .ref 123, .ref 124, .ref 125, .ref 126, .ref 127, .ref 128, .ref 129, .int u15, .ref 130, .int u16, .ref 131, .ref 132, .ref 133, .ref 134, .int u17, .ref 135, .ref 136, .ref 137, .ref 138, .ref 139, .ref 140, .ref 141, .ref 142, .int u18, .int u19, .int u20, .ref 143, .ref 144, .ref 145, .ref 146, .ref 147, .ref 148, .int 0, .ref 149, .ref 150, .ref 151, .int u22, .ref 152, .ref 153, .ref 154, .ref 155, .ref 156, .ref 157, .ref 158, .ref 159, .int u23, .ref 160, .int u24, .ref 161, .ref 162, .ref 163, .ref 164, .int u25, .ref 165, .ref 166]) kc_14_127 rfl rfl rfl A60 rfl rfl rfl (Nat.le_of_ble_eq_true rfl) rfl (fun hh62 eh61 => ?_)
  have K63 := xk_pf (k := 41) (v := 0) K58 (xk_wf (by decide +kernel)) xD_115 A60 rfl (by first | omega | decide) (by first | omega | decide) eh61 rfl
  refine xi_return kc_14_130 mr_14 ?_
  have A64 := ((eh61.2.1 116 (by decide)).trans ((eh57.2.1 116 (by decide)).trans ((eh51.2.1 116 (by decide)).trans ((eh45.2.1 116 (by decide)).trans ((eh39.2.1 116 (by decide)).trans ((eh33.2.1 116 (by decide)).trans eh27.1))))))
  have A65 := ((eh61.2.1 117 (by decide)).trans ((eh57.2.1 117 (by decide)).trans ((eh51.2.1 117 (by decide)).trans ((eh45.2.1 117 (by decide)).trans ((eh39.2.1 117 (by decide)).trans eh33.1)))))
  have A66 := ((eh61.2.1 118 (by decide)).trans ((eh57.2.1 118 (by decide)).trans ((eh51.2.1 118 (by decide)).trans ((eh45.2.1 118 (by decide)).trans eh39.1))))
  have A67 := ((eh61.2.1 119 (by decide)).trans ((eh57.2.1 119 (by decide)).trans ((eh51.2.1 119 (by decide)).trans eh45.1)))
  have A68 := ((eh61.2.1 120 (by decide)).trans ((eh57.2.1 120 (by decide)).trans eh51.1))
  have A69 := ((eh61.2.1 121 (by decide)).trans eh57.1)
  exact kk hh62 K63 ⟨(xra_mk A64 (xrp_fn R29 xu2_col.symm)), (xra_mk A65 (xrp_fn R35 ((xup_id (f := fun r => st r 1) (k := x1.toNatClampNeg) hlv31.symm).trans (xu2_co (f := st) (a := x1.toNatClampNeg) (b := 0) (j := 1) (v := x3.toInt) (by decide)).symm))), (xra_mk A66 (xrp_fn R41 ((xup_id (f := fun r => st r 2) (k := x1.toNatClampNeg) hlv37.symm).trans (xu2_co (f := st) (a := x1.toNatClampNeg) (b := 0) (j := 2) (v := x3.toInt) (by decide)).symm))), (xra_mk A67 (xrp_fn R47 ((xup_id (f := fun r => st r 3) (k := x1.toNatClampNeg) hlv43.symm).trans (xu2_co (f := st) (a := x1.toNatClampNeg) (b := 0) (j := 3) (v := x3.toInt) (by decide)).symm))), (xra_mk A68 (xrp_fn R53 ((xup_id (f := fun r => st r 4) (k := x1.toNatClampNeg) hlv49.symm).trans (xu2_co (f := st) (a := x1.toNatClampNeg) (b := 0) (j := 4) (v := x3.toInt) (by decide)).symm)))⟩ (xra_mk A69 (xrp_fn R59 (xup_id (f := w) (k := x1.toNatClampNeg) hlv55.symm)))
set_option maxHeartbeats 4000000 in
theorem xw_te1 {J : xe_J} {ov : List (List Int32)} (hJ : ∀ d mj as h, mj ≠ xe_loff → J d mj as h = none) (hov1 : ov[1]? = some [10, 0, 0, 0, 0, 0]) (hov2 : ov[2]? = some [99, 30, 50, 50, 1, 99999]) {d : Nat} {Q : Option Value → xe_H → Prop} {h : xe_H} {st : xFn} {w : Nat → Int} {x1 x3 : Int32} (T : xt h) (I : xr5 h st) (IW : xra h 121 6 w) (b1 : 0 ≤ x1.toInt ∧ x1.toInt ≤ 5) (b3 : 0 ≤ x3.toInt ∧ x3.toInt ≤ 30) (kk : ∀ h' : xe_H, xk xP_20 h h' → xr5 h' (xu2 st x1.toNatClampNeg 1 x3.toInt) → xra h' 121 6 w → Q none h') : xw J ov (d + 1) 14 (0, [(0, .ref 115), (1, .int x1), (2, .int 1), (3, .int x3)], [], h) Q := by
  have K : xk xP_20 h h := xk_re T
  obtain ⟨y1, A1, hy1, ry1⟩ := xk_arr K.1 xD_116
  have R2 : xrp y1 6 (fun r => st r 0) := xra_ld I.1 A1
  obtain ⟨y3, A3, hy3, ry3⟩ := xk_arr K.1 xD_117
  have R4 : xrp y3 6 (fun r => st r 1) := xra_ld I.2.1 A3
  obtain ⟨y5, A5, hy5, ry5⟩ := xk_arr K.1 xD_118
  have R6 : xrp y5 6 (fun r => st r 2) := xra_ld I.2.2.1 A5
  obtain ⟨y7, A7, hy7, ry7⟩ := xk_arr K.1 xD_119
  have R8 : xrp y7 6 (fun r => st r 3) := xra_ld I.2.2.2.1 A7
  obtain ⟨y9, A9, hy9, ry9⟩ := xk_arr K.1 xD_120
  have R10 : xrp y9 6 (fun r => st r 4) := xra_ld I.2.2.2.2 A9
  obtain ⟨y11, A11, hy11, ry11⟩ := xk_arr K.1 xD_121
  have R12 : xrp y11 6 w := xra_ld IW A11
  refine xi_aload_n (pc' := 1) (x := 115) kc_14_0 rfl rfl ?_
  obtain ⟨u13, u14, u15, u16, u17, u18, u19, u20, u21, u22, u23, u24, u25, bu13, bu14, bu15, bu16, bu17, bu18, bu19, bu20, bu21, bu22, bu23, bu24, bu25, A26⟩ := xq_115 K.1
  refine xi_getfield (pc' := 4) (v := .ref 116) kc_14_1 rfl rfl rfl A26 rfl ?_
  refine xi_iload_n (pc' := 5) (x := x1) kc_14_4 rfl rfl ?_
  refine xi_iload_n (pc' := 6) (x := 1) kc_14_5 rfl rfl ?_
  refine xi_ift (pc' := 13) kc_14_6 rfl rfl ?_
  refine xi_aload_n (pc' := 14) (x := 115) kc_14_13 rfl rfl ?_
  refine xi_getfield (pc' := 17) (v := .ref 116) kc_14_14 rfl rfl rfl A26 rfl ?_
  refine xi_iload_n (pc' := 18) (x := x1) kc_14_17 rfl rfl ?_
  obtain ⟨v27, ev27, bv27, dv27⟩ := xj_get hy1 ry1 (i := x1) (by omega) (by omega)
  refine xi_iaload (pc' := 19) (v := v27) kc_14_18 rfl A1 (by decide) rfl (xi_in (by omega) (by rw [hy1]; omega)) ev27 ?_
  have hlv27 : v27.toInt = st (Int32.toNatClampNeg x1) 0 := xrp_ld R2 (by omega) (by omega) ev27
  obtain ⟨y28, s28, hy28, ry28⟩ := xj_set (v := v27) hy1 ry1 x1 (by first | omega | decide) (by first | omega | decide)
  refine xi_iastore (pc' := 20) (x' := y28) kc_14_19 rfl A1 rfl (xi_in (by omega) (by rw [hy1]; omega)) s28 (fun hh28 eh28 => ?_)
  have K29 := xk_pa K (xk_wa (by decide +kernel)) xD_116 hy28 ry28 eh28
  have R30 : xrp y28 6 (xup (fun r => st r 0) (Int32.toNatClampNeg x1) (v27 : Int32).toInt) := xrp_set R2 s28
  refine xi_aload_n (pc' := 21) (x := 115) kc_14_20 rfl rfl ?_
  have A31 := ((eh28.2.1 115 (by decide)).trans A26)
  refine xi_getfield (pc' := 24) (v := .ref 117) kc_14_21 rfl rfl rfl A31 rfl ?_
  refine xi_iload_n (pc' := 25) (x := x1) kc_14_24 rfl rfl ?_
  refine xi_iload_n (pc' := 26) (x := 1) kc_14_25 rfl rfl ?_
  refine xi_iconst (pc' := 27) (v := 1) kc_14_26 rfl rfl ?_
  refine xi_cmf (pc' := 30) kc_14_27 rfl rfl ?_
  refine xi_iload_n (pc' := 31) (x := x3) kc_14_30 rfl rfl ?_
  refine xi_goto (pc' := 40) kc_14_31 rfl ?_
  have A32 := ((eh28.2.1 117 (by decide)).trans A3)
  obtain ⟨y33, s33, hy33, ry33⟩ := xj_set (v := x3) hy3 ry3 x1 (by first | omega | decide) (by first | omega | decide)
  refine xi_iastore (pc' := 41) (x' := y33) kc_14_40 rfl A32 rfl (xi_in (by omega) (by rw [hy3]; omega)) s33 (fun hh33 eh33 => ?_)
  have K34 := xk_pa K29 (xk_wa (by decide +kernel)) xD_117 hy33 ry33 eh33
  have R35 : xrp y33 6 (xup (fun r => st r 1) (Int32.toNatClampNeg x1) (x3 : Int32).toInt) := xrp_set R4 s33
  refine xi_aload_n (pc' := 42) (x := 115) kc_14_41 rfl rfl ?_
  have A36 := ((eh33.2.1 115 (by decide)).trans A31)
  refine xi_getfield (pc' := 45) (v := .ref 118) kc_14_42 rfl rfl rfl A36 rfl ?_
  refine xi_iload_n (pc' := 46) (x := x1) kc_14_45 rfl rfl ?_
  refine xi_iload_n (pc' := 47) (x := 1) kc_14_46 rfl rfl ?_
  refine xi_iconst (pc' := 48) (v := 2) kc_14_47 rfl rfl ?_
  refine xi_cmt (pc' := 55) kc_14_48 rfl rfl ?_
  refine xi_aload_n (pc' := 56) (x := 115) kc_14_55 rfl rfl ?_
  refine xi_getfield (pc' := 59) (v := .ref 118) kc_14_56 rfl rfl rfl A36 rfl ?_
  refine xi_iload_n (pc' := 60) (x := x1) kc_14_59 rfl rfl ?_
  obtain ⟨v37, ev37, bv37, dv37⟩ := xj_get hy5 ry5 (i := x1) (by omega) (by omega)
  have A38 := ((eh33.2.1 118 (by decide)).trans ((eh28.2.1 118 (by decide)).trans A5))
  refine xi_iaload (pc' := 61) (v := v37) kc_14_60 rfl A38 (by decide) rfl (xi_in (by omega) (by rw [hy5]; omega)) ev37 ?_
  have hlv37 : v37.toInt = st (Int32.toNatClampNeg x1) 2 := xrp_ld R6 (by omega) (by omega) ev37
  obtain ⟨y39, s39, hy39, ry39⟩ := xj_set (v := v37) hy5 ry5 x1 (by first | omega | decide) (by first | omega | decide)
  refine xi_iastore (pc' := 62) (x' := y39) kc_14_61 rfl A38 rfl (xi_in (by omega) (by rw [hy5]; omega)) s39 (fun hh39 eh39 => ?_)
  have K40 := xk_pa K34 (xk_wa (by decide +kernel)) xD_118 hy39 ry39 eh39
  have R41 : xrp y39 6 (xup (fun r => st r 2) (Int32.toNatClampNeg x1) (v37 : Int32).toInt) := xrp_set R6 s39
  refine xi_aload_n (pc' := 63) (x := 115) kc_14_62 rfl rfl ?_
  have A42 := ((eh39.2.1 115 (by decide)).trans A36)
  refine xi_getfield (pc' := 66) (v := .ref 119) kc_14_63 rfl rfl rfl A42 rfl ?_
  refine xi_iload_n (pc' := 67) (x := x1) kc_14_66 rfl rfl ?_
  refine xi_iload_n (pc' := 68) (x := 1) kc_14_67 rfl rfl ?_
  refine xi_iconst (pc' := 69) (v := 3) kc_14_68 rfl rfl ?_
  refine xi_cmt (pc' := 76) kc_14_69 rfl rfl ?_
  refine xi_aload_n (pc' := 77) (x := 115) kc_14_76 rfl rfl ?_
  refine xi_getfield (pc' := 80) (v := .ref 119) kc_14_77 rfl rfl rfl A42 rfl ?_
  refine xi_iload_n (pc' := 81) (x := x1) kc_14_80 rfl rfl ?_
  obtain ⟨v43, ev43, bv43, dv43⟩ := xj_get hy7 ry7 (i := x1) (by omega) (by omega)
  have A44 := ((eh39.2.1 119 (by decide)).trans ((eh33.2.1 119 (by decide)).trans ((eh28.2.1 119 (by decide)).trans A7)))
  refine xi_iaload (pc' := 82) (v := v43) kc_14_81 rfl A44 (by decide) rfl (xi_in (by omega) (by rw [hy7]; omega)) ev43 ?_
  have hlv43 : v43.toInt = st (Int32.toNatClampNeg x1) 3 := xrp_ld R8 (by omega) (by omega) ev43
  obtain ⟨y45, s45, hy45, ry45⟩ := xj_set (v := v43) hy7 ry7 x1 (by first | omega | decide) (by first | omega | decide)
  refine xi_iastore (pc' := 83) (x' := y45) kc_14_82 rfl A44 rfl (xi_in (by omega) (by rw [hy7]; omega)) s45 (fun hh45 eh45 => ?_)
  have K46 := xk_pa K40 (xk_wa (by decide +kernel)) xD_119 hy45 ry45 eh45
  have R47 : xrp y45 6 (xup (fun r => st r 3) (Int32.toNatClampNeg x1) (v43 : Int32).toInt) := xrp_set R8 s45
  refine xi_aload_n (pc' := 84) (x := 115) kc_14_83 rfl rfl ?_
  have A48 := ((eh45.2.1 115 (by decide)).trans A42)
  refine xi_getfield (pc' := 87) (v := .ref 120) kc_14_84 rfl rfl rfl A48 rfl ?_
  refine xi_iload_n (pc' := 88) (x := x1) kc_14_87 rfl rfl ?_
  refine xi_iload_n (pc' := 89) (x := 1) kc_14_88 rfl rfl ?_
  refine xi_iconst (pc' := 90) (v := 4) kc_14_89 rfl rfl ?_
  refine xi_cmt (pc' := 97) kc_14_90 rfl rfl ?_
  refine xi_aload_n (pc' := 98) (x := 115) kc_14_97 rfl rfl ?_
  refine xi_getfield (pc' := 101) (v := .ref 120) kc_14_98 rfl rfl rfl A48 rfl ?_
  refine xi_iload_n (pc' := 102) (x := x1) kc_14_101 rfl rfl ?_
  obtain ⟨v49, ev49, bv49, dv49⟩ := xj_get hy9 ry9 (i := x1) (by omega) (by omega)
  have A50 := ((eh45.2.1 120 (by decide)).trans ((eh39.2.1 120 (by decide)).trans ((eh33.2.1 120 (by decide)).trans ((eh28.2.1 120 (by decide)).trans A9))))
  refine xi_iaload (pc' := 103) (v := v49) kc_14_102 rfl A50 (by decide) rfl (xi_in (by omega) (by rw [hy9]; omega)) ev49 ?_
  have hlv49 : v49.toInt = st (Int32.toNatClampNeg x1) 4 := xrp_ld R10 (by omega) (by omega) ev49
  obtain ⟨y51, s51, hy51, ry51⟩ := xj_set (v := v49) hy9 ry9 x1 (by first | omega | decide) (by first | omega | decide)
  refine xi_iastore (pc' := 104) (x' := y51) kc_14_103 rfl A50 rfl (xi_in (by omega) (by rw [hy9]; omega)) s51 (fun hh51 eh51 => ?_)
  have K52 := xk_pa K46 (xk_wa (by decide +kernel)) xD_120 hy51 ry51 eh51
  have R53 : xrp y51 6 (xup (fun r => st r 4) (Int32.toNatClampNeg x1) (v49 : Int32).toInt) := xrp_set R10 s51
  refine xi_aload_n (pc' := 105) (x := 115) kc_14_104 rfl rfl ?_
  have A54 := ((eh51.2.1 115 (by decide)).trans A48)
  refine xi_getfield (pc' := 108) (v := .ref 121) kc_14_105 rfl rfl rfl A54 rfl ?_
  refine xi_iload_n (pc' := 109) (x := x1) kc_14_108 rfl rfl ?_
  refine xi_iload_n (pc' := 110) (x := 1) kc_14_109 rfl rfl ?_
  refine xi_iconst (pc' := 111) (v := 5) kc_14_110 rfl rfl ?_
  refine xi_cmt (pc' := 118) kc_14_111 rfl rfl ?_
  refine xi_aload_n (pc' := 119) (x := 115) kc_14_118 rfl rfl ?_
  refine xi_getfield (pc' := 122) (v := .ref 121) kc_14_119 rfl rfl rfl A54 rfl ?_
  refine xi_iload_n (pc' := 123) (x := x1) kc_14_122 rfl rfl ?_
  obtain ⟨v55, ev55, bv55, dv55⟩ := xj_get hy11 ry11 (i := x1) (by omega) (by omega)
  have A56 := ((eh51.2.1 121 (by decide)).trans ((eh45.2.1 121 (by decide)).trans ((eh39.2.1 121 (by decide)).trans ((eh33.2.1 121 (by decide)).trans ((eh28.2.1 121 (by decide)).trans A11)))))
  refine xi_iaload (pc' := 124) (v := v55) kc_14_123 rfl A56 (by decide) rfl (xi_in (by omega) (by rw [hy11]; omega)) ev55 ?_
  have hlv55 : v55.toInt = w (Int32.toNatClampNeg x1) := xrp_ld R12 (by omega) (by omega) ev55
  obtain ⟨y57, s57, hy57, ry57⟩ := xj_set (v := v55) hy11 ry11 x1 (by first | omega | decide) (by first | omega | decide)
  refine xi_iastore (pc' := 125) (x' := y57) kc_14_124 rfl A56 rfl (xi_in (by omega) (by rw [hy11]; omega)) s57 (fun hh57 eh57 => ?_)
  have K58 := xk_pa K52 (xk_wa (by decide +kernel)) xD_121 hy57 ry57 eh57
  have R59 : xrp y57 6 (xup w (Int32.toNatClampNeg x1) (v55 : Int32).toInt) := xrp_set R12 s57
  refine xi_aload_n (pc' := 126) (x := 115) kc_14_125 rfl rfl ?_
  refine xi_iconst (pc' := 127) (v := 0) kc_14_126 rfl rfl ?_
  have A60 := ((eh57.2.1 115 (by decide)).trans A54)
  refine xi_putfield (pc' := 130) (fs' := [.int u13, .int u14, .ref 116, .ref 117, .ref 118, .ref 119, .ref 120, .ref 121, .ref 122, .ref 123, .ref 124, .ref 125, .ref 126, .ref 127, .ref 128, .ref 129, .int u15, .ref 130, .int u16, .ref 131, .ref 132, .ref 133, .ref 134, .int u17, .ref 135, .ref 136, .ref 137, .ref 138, .ref 139, .ref 140, .ref 141, .ref 142, .int u18, .int u19, .int u20, .ref 143, .ref 144, .ref 145, .ref 146, .ref 147, .ref 148, .int 0, .ref 149, .ref 150, .ref 151, .int u22, .ref 152, .ref 153, .ref 154, .ref 155, .ref 156, .ref 157, .ref 158, .ref 159, .int u23, .ref 160, .int u24, .ref 161, .ref 162, .ref 163, .ref 164, .int u25, .ref 165, .ref 166]) kc_14_127 rfl rfl rfl A60 rfl rfl rfl (Nat.le_of_ble_eq_true rfl) rfl (fun hh62 eh61 => ?_)
  have K63 := xk_pf (k := 41) (v := 0) K58 (xk_wf (by decide +kernel)) xD_115 A60 rfl (by first | omega | decide) (by first | omega | decide) eh61 rfl
  refine xi_return kc_14_130 mr_14 ?_
  have A64 := ((eh61.2.1 116 (by decide)).trans ((eh57.2.1 116 (by decide)).trans ((eh51.2.1 116 (by decide)).trans ((eh45.2.1 116 (by decide)).trans ((eh39.2.1 116 (by decide)).trans ((eh33.2.1 116 (by decide)).trans eh28.1))))))
  have A65 := ((eh61.2.1 117 (by decide)).trans ((eh57.2.1 117 (by decide)).trans ((eh51.2.1 117 (by decide)).trans ((eh45.2.1 117 (by decide)).trans ((eh39.2.1 117 (by decide)).trans eh33.1)))))
  have A66 := ((eh61.2.1 118 (by decide)).trans ((eh57.2.1 118 (by decide)).trans ((eh51.2.1 118 (by decide)).trans ((eh45.2.1 118 (by decide)).trans eh39.1))))
  have A67 := ((eh61.2.1 119 (by decide)).trans ((eh57.2.1 119 (by decide)).trans ((eh51.2.1 119 (by decide)).trans eh45.1)))
  have A68 := ((eh61.2.1 120 (by decide)).trans ((eh57.2.1 120 (by decide)).trans eh51.1))
  have A69 := ((eh61.2.1 121 (by decide)).trans eh57.1)
  exact kk hh62 K63 ⟨(xra_mk A64 (xrp_fn R30 ((xup_id (f := fun r => st r 0) (k := x1.toNatClampNeg) hlv27.symm).trans (xu2_co (f := st) (a := x1.toNatClampNeg) (b := 1) (j := 0) (v := x3.toInt) (by decide)).symm))), (xra_mk A65 (xrp_fn R35 xu2_col.symm)), (xra_mk A66 (xrp_fn R41 ((xup_id (f := fun r => st r 2) (k := x1.toNatClampNeg) hlv37.symm).trans (xu2_co (f := st) (a := x1.toNatClampNeg) (b := 1) (j := 2) (v := x3.toInt) (by decide)).symm))), (xra_mk A67 (xrp_fn R47 ((xup_id (f := fun r => st r 3) (k := x1.toNatClampNeg) hlv43.symm).trans (xu2_co (f := st) (a := x1.toNatClampNeg) (b := 1) (j := 3) (v := x3.toInt) (by decide)).symm))), (xra_mk A68 (xrp_fn R53 ((xup_id (f := fun r => st r 4) (k := x1.toNatClampNeg) hlv49.symm).trans (xu2_co (f := st) (a := x1.toNatClampNeg) (b := 1) (j := 4) (v := x3.toInt) (by decide)).symm)))⟩ (xra_mk A69 (xrp_fn R59 (xup_id (f := w) (k := x1.toNatClampNeg) hlv55.symm)))
set_option maxHeartbeats 4000000 in
theorem xw_te2 {J : xe_J} {ov : List (List Int32)} (hJ : ∀ d mj as h, mj ≠ xe_loff → J d mj as h = none) (hov1 : ov[1]? = some [10, 0, 0, 0, 0, 0]) (hov2 : ov[2]? = some [99, 30, 50, 50, 1, 99999]) {d : Nat} {Q : Option Value → xe_H → Prop} {h : xe_H} {st : xFn} {w : Nat → Int} {x1 x3 : Int32} (T : xt h) (I : xr5 h st) (IW : xra h 121 6 w) (b1 : 0 ≤ x1.toInt ∧ x1.toInt ≤ 5) (b3 : 0 ≤ x3.toInt ∧ x3.toInt ≤ 50) (kk : ∀ h' : xe_H, xk xP_20 h h' → xr5 h' (xu2 st x1.toNatClampNeg 2 x3.toInt) → xra h' 121 6 w → Q none h') : xw J ov (d + 1) 14 (0, [(0, .ref 115), (1, .int x1), (2, .int 2), (3, .int x3)], [], h) Q := by
  have K : xk xP_20 h h := xk_re T
  obtain ⟨y1, A1, hy1, ry1⟩ := xk_arr K.1 xD_116
  have R2 : xrp y1 6 (fun r => st r 0) := xra_ld I.1 A1
  obtain ⟨y3, A3, hy3, ry3⟩ := xk_arr K.1 xD_117
  have R4 : xrp y3 6 (fun r => st r 1) := xra_ld I.2.1 A3
  obtain ⟨y5, A5, hy5, ry5⟩ := xk_arr K.1 xD_118
  have R6 : xrp y5 6 (fun r => st r 2) := xra_ld I.2.2.1 A5
  obtain ⟨y7, A7, hy7, ry7⟩ := xk_arr K.1 xD_119
  have R8 : xrp y7 6 (fun r => st r 3) := xra_ld I.2.2.2.1 A7
  obtain ⟨y9, A9, hy9, ry9⟩ := xk_arr K.1 xD_120
  have R10 : xrp y9 6 (fun r => st r 4) := xra_ld I.2.2.2.2 A9
  obtain ⟨y11, A11, hy11, ry11⟩ := xk_arr K.1 xD_121
  have R12 : xrp y11 6 w := xra_ld IW A11
  refine xi_aload_n (pc' := 1) (x := 115) kc_14_0 rfl rfl ?_
  obtain ⟨u13, u14, u15, u16, u17, u18, u19, u20, u21, u22, u23, u24, u25, bu13, bu14, bu15, bu16, bu17, bu18, bu19, bu20, bu21, bu22, bu23, bu24, bu25, A26⟩ := xq_115 K.1
  refine xi_getfield (pc' := 4) (v := .ref 116) kc_14_1 rfl rfl rfl A26 rfl ?_
  refine xi_iload_n (pc' := 5) (x := x1) kc_14_4 rfl rfl ?_
  refine xi_iload_n (pc' := 6) (x := 2) kc_14_5 rfl rfl ?_
  refine xi_ift (pc' := 13) kc_14_6 rfl rfl ?_
  refine xi_aload_n (pc' := 14) (x := 115) kc_14_13 rfl rfl ?_
  refine xi_getfield (pc' := 17) (v := .ref 116) kc_14_14 rfl rfl rfl A26 rfl ?_
  refine xi_iload_n (pc' := 18) (x := x1) kc_14_17 rfl rfl ?_
  obtain ⟨v27, ev27, bv27, dv27⟩ := xj_get hy1 ry1 (i := x1) (by omega) (by omega)
  refine xi_iaload (pc' := 19) (v := v27) kc_14_18 rfl A1 (by decide) rfl (xi_in (by omega) (by rw [hy1]; omega)) ev27 ?_
  have hlv27 : v27.toInt = st (Int32.toNatClampNeg x1) 0 := xrp_ld R2 (by omega) (by omega) ev27
  obtain ⟨y28, s28, hy28, ry28⟩ := xj_set (v := v27) hy1 ry1 x1 (by first | omega | decide) (by first | omega | decide)
  refine xi_iastore (pc' := 20) (x' := y28) kc_14_19 rfl A1 rfl (xi_in (by omega) (by rw [hy1]; omega)) s28 (fun hh28 eh28 => ?_)
  have K29 := xk_pa K (xk_wa (by decide +kernel)) xD_116 hy28 ry28 eh28
  have R30 : xrp y28 6 (xup (fun r => st r 0) (Int32.toNatClampNeg x1) (v27 : Int32).toInt) := xrp_set R2 s28
  refine xi_aload_n (pc' := 21) (x := 115) kc_14_20 rfl rfl ?_
  have A31 := ((eh28.2.1 115 (by decide)).trans A26)
  refine xi_getfield (pc' := 24) (v := .ref 117) kc_14_21 rfl rfl rfl A31 rfl ?_
  refine xi_iload_n (pc' := 25) (x := x1) kc_14_24 rfl rfl ?_
  refine xi_iload_n (pc' := 26) (x := 2) kc_14_25 rfl rfl ?_
  refine xi_iconst (pc' := 27) (v := 1) kc_14_26 rfl rfl ?_
  refine xi_cmt (pc' := 34) kc_14_27 rfl rfl ?_
  refine xi_aload_n (pc' := 35) (x := 115) kc_14_34 rfl rfl ?_
  refine xi_getfield (pc' := 38) (v := .ref 117) kc_14_35 rfl rfl rfl A31 rfl ?_
  refine xi_iload_n (pc' := 39) (x := x1) kc_14_38 rfl rfl ?_
  obtain ⟨v32, ev32, bv32, dv32⟩ := xj_get hy3 ry3 (i := x1) (by omega) (by omega)
  have A33 := ((eh28.2.1 117 (by decide)).trans A3)
  refine xi_iaload (pc' := 40) (v := v32) kc_14_39 rfl A33 (by decide) rfl (xi_in (by omega) (by rw [hy3]; omega)) ev32 ?_
  have hlv32 : v32.toInt = st (Int32.toNatClampNeg x1) 1 := xrp_ld R4 (by omega) (by omega) ev32
  obtain ⟨y34, s34, hy34, ry34⟩ := xj_set (v := v32) hy3 ry3 x1 (by first | omega | decide) (by first | omega | decide)
  refine xi_iastore (pc' := 41) (x' := y34) kc_14_40 rfl A33 rfl (xi_in (by omega) (by rw [hy3]; omega)) s34 (fun hh34 eh34 => ?_)
  have K35 := xk_pa K29 (xk_wa (by decide +kernel)) xD_117 hy34 ry34 eh34
  have R36 : xrp y34 6 (xup (fun r => st r 1) (Int32.toNatClampNeg x1) (v32 : Int32).toInt) := xrp_set R4 s34
  refine xi_aload_n (pc' := 42) (x := 115) kc_14_41 rfl rfl ?_
  have A37 := ((eh34.2.1 115 (by decide)).trans A31)
  refine xi_getfield (pc' := 45) (v := .ref 118) kc_14_42 rfl rfl rfl A37 rfl ?_
  refine xi_iload_n (pc' := 46) (x := x1) kc_14_45 rfl rfl ?_
  refine xi_iload_n (pc' := 47) (x := 2) kc_14_46 rfl rfl ?_
  refine xi_iconst (pc' := 48) (v := 2) kc_14_47 rfl rfl ?_
  refine xi_cmf (pc' := 51) kc_14_48 rfl rfl ?_
  refine xi_iload_n (pc' := 52) (x := x3) kc_14_51 rfl rfl ?_
  refine xi_goto (pc' := 61) kc_14_52 rfl ?_
  have A38 := ((eh34.2.1 118 (by decide)).trans ((eh28.2.1 118 (by decide)).trans A5))
  obtain ⟨y39, s39, hy39, ry39⟩ := xj_set (v := x3) hy5 ry5 x1 (by first | omega | decide) (by first | omega | decide)
  refine xi_iastore (pc' := 62) (x' := y39) kc_14_61 rfl A38 rfl (xi_in (by omega) (by rw [hy5]; omega)) s39 (fun hh39 eh39 => ?_)
  have K40 := xk_pa K35 (xk_wa (by decide +kernel)) xD_118 hy39 ry39 eh39
  have R41 : xrp y39 6 (xup (fun r => st r 2) (Int32.toNatClampNeg x1) (x3 : Int32).toInt) := xrp_set R6 s39
  refine xi_aload_n (pc' := 63) (x := 115) kc_14_62 rfl rfl ?_
  have A42 := ((eh39.2.1 115 (by decide)).trans A37)
  refine xi_getfield (pc' := 66) (v := .ref 119) kc_14_63 rfl rfl rfl A42 rfl ?_
  refine xi_iload_n (pc' := 67) (x := x1) kc_14_66 rfl rfl ?_
  refine xi_iload_n (pc' := 68) (x := 2) kc_14_67 rfl rfl ?_
  refine xi_iconst (pc' := 69) (v := 3) kc_14_68 rfl rfl ?_
  refine xi_cmt (pc' := 76) kc_14_69 rfl rfl ?_
  refine xi_aload_n (pc' := 77) (x := 115) kc_14_76 rfl rfl ?_
  refine xi_getfield (pc' := 80) (v := .ref 119) kc_14_77 rfl rfl rfl A42 rfl ?_
  refine xi_iload_n (pc' := 81) (x := x1) kc_14_80 rfl rfl ?_
  obtain ⟨v43, ev43, bv43, dv43⟩ := xj_get hy7 ry7 (i := x1) (by omega) (by omega)
  have A44 := ((eh39.2.1 119 (by decide)).trans ((eh34.2.1 119 (by decide)).trans ((eh28.2.1 119 (by decide)).trans A7)))
  refine xi_iaload (pc' := 82) (v := v43) kc_14_81 rfl A44 (by decide) rfl (xi_in (by omega) (by rw [hy7]; omega)) ev43 ?_
  have hlv43 : v43.toInt = st (Int32.toNatClampNeg x1) 3 := xrp_ld R8 (by omega) (by omega) ev43
  obtain ⟨y45, s45, hy45, ry45⟩ := xj_set (v := v43) hy7 ry7 x1 (by first | omega | decide) (by first | omega | decide)
  refine xi_iastore (pc' := 83) (x' := y45) kc_14_82 rfl A44 rfl (xi_in (by omega) (by rw [hy7]; omega)) s45 (fun hh45 eh45 => ?_)
  have K46 := xk_pa K40 (xk_wa (by decide +kernel)) xD_119 hy45 ry45 eh45
  have R47 : xrp y45 6 (xup (fun r => st r 3) (Int32.toNatClampNeg x1) (v43 : Int32).toInt) := xrp_set R8 s45
  refine xi_aload_n (pc' := 84) (x := 115) kc_14_83 rfl rfl ?_
  have A48 := ((eh45.2.1 115 (by decide)).trans A42)
  refine xi_getfield (pc' := 87) (v := .ref 120) kc_14_84 rfl rfl rfl A48 rfl ?_
  refine xi_iload_n (pc' := 88) (x := x1) kc_14_87 rfl rfl ?_
  refine xi_iload_n (pc' := 89) (x := 2) kc_14_88 rfl rfl ?_
  refine xi_iconst (pc' := 90) (v := 4) kc_14_89 rfl rfl ?_
  refine xi_cmt (pc' := 97) kc_14_90 rfl rfl ?_
  refine xi_aload_n (pc' := 98) (x := 115) kc_14_97 rfl rfl ?_
  refine xi_getfield (pc' := 101) (v := .ref 120) kc_14_98 rfl rfl rfl A48 rfl ?_
  refine xi_iload_n (pc' := 102) (x := x1) kc_14_101 rfl rfl ?_
  obtain ⟨v49, ev49, bv49, dv49⟩ := xj_get hy9 ry9 (i := x1) (by omega) (by omega)
  have A50 := ((eh45.2.1 120 (by decide)).trans ((eh39.2.1 120 (by decide)).trans ((eh34.2.1 120 (by decide)).trans ((eh28.2.1 120 (by decide)).trans A9))))
  refine xi_iaload (pc' := 103) (v := v49) kc_14_102 rfl A50 (by decide) rfl (xi_in (by omega) (by rw [hy9]; omega)) ev49 ?_
  have hlv49 : v49.toInt = st (Int32.toNatClampNeg x1) 4 := xrp_ld R10 (by omega) (by omega) ev49
  obtain ⟨y51, s51, hy51, ry51⟩ := xj_set (v := v49) hy9 ry9 x1 (by first | omega | decide) (by first | omega | decide)
  refine xi_iastore (pc' := 104) (x' := y51) kc_14_103 rfl A50 rfl (xi_in (by omega) (by rw [hy9]; omega)) s51 (fun hh51 eh51 => ?_)
  have K52 := xk_pa K46 (xk_wa (by decide +kernel)) xD_120 hy51 ry51 eh51
  have R53 : xrp y51 6 (xup (fun r => st r 4) (Int32.toNatClampNeg x1) (v49 : Int32).toInt) := xrp_set R10 s51
  refine xi_aload_n (pc' := 105) (x := 115) kc_14_104 rfl rfl ?_
  have A54 := ((eh51.2.1 115 (by decide)).trans A48)
  refine xi_getfield (pc' := 108) (v := .ref 121) kc_14_105 rfl rfl rfl A54 rfl ?_
  refine xi_iload_n (pc' := 109) (x := x1) kc_14_108 rfl rfl ?_
  refine xi_iload_n (pc' := 110) (x := 2) kc_14_109 rfl rfl ?_
  refine xi_iconst (pc' := 111) (v := 5) kc_14_110 rfl rfl ?_
  refine xi_cmt (pc' := 118) kc_14_111 rfl rfl ?_
  refine xi_aload_n (pc' := 119) (x := 115) kc_14_118 rfl rfl ?_
  refine xi_getfield (pc' := 122) (v := .ref 121) kc_14_119 rfl rfl rfl A54 rfl ?_
  refine xi_iload_n (pc' := 123) (x := x1) kc_14_122 rfl rfl ?_
  obtain ⟨v55, ev55, bv55, dv55⟩ := xj_get hy11 ry11 (i := x1) (by omega) (by omega)
  have A56 := ((eh51.2.1 121 (by decide)).trans ((eh45.2.1 121 (by decide)).trans ((eh39.2.1 121 (by decide)).trans ((eh34.2.1 121 (by decide)).trans ((eh28.2.1 121 (by decide)).trans A11)))))
  refine xi_iaload (pc' := 124) (v := v55) kc_14_123 rfl A56 (by decide) rfl (xi_in (by omega) (by rw [hy11]; omega)) ev55 ?_
  have hlv55 : v55.toInt = w (Int32.toNatClampNeg x1) := xrp_ld R12 (by omega) (by omega) ev55
  obtain ⟨y57, s57, hy57, ry57⟩ := xj_set (v := v55) hy11 ry11 x1 (by first | omega | decide) (by first | omega | decide)
  refine xi_iastore (pc' := 125) (x' := y57) kc_14_124 rfl A56 rfl (xi_in (by omega) (by rw [hy11]; omega)) s57 (fun hh57 eh57 => ?_)
  have K58 := xk_pa K52 (xk_wa (by decide +kernel)) xD_121 hy57 ry57 eh57
  have R59 : xrp y57 6 (xup w (Int32.toNatClampNeg x1) (v55 : Int32).toInt) := xrp_set R12 s57
  refine xi_aload_n (pc' := 126) (x := 115) kc_14_125 rfl rfl ?_
  refine xi_iconst (pc' := 127) (v := 0) kc_14_126 rfl rfl ?_
  have A60 := ((eh57.2.1 115 (by decide)).trans A54)
  refine xi_putfield (pc' := 130) (fs' := [.int u13, .int u14, .ref 116, .ref 117, .ref 118, .ref 119, .ref 120, .ref 121, .ref 122, .ref 123, .ref 124, .ref 125, .ref 126, .ref 127, .ref 128, .ref 129, .int u15, .ref 130, .int u16, .ref 131, .ref 132, .ref 133, .ref 134, .int u17, .ref 135, .ref 136, .ref 137, .ref 138, .ref 139, .ref 140, .ref 141, .ref 142, .int u18, .int u19, .int u20, .ref 143, .ref 144, .ref 145, .ref 146, .ref 147, .ref 148, .int 0, .ref 149, .ref 150, .ref 151, .int u22, .ref 152, .ref 153, .ref 154, .ref 155, .ref 156, .ref 157, .ref 158, .ref 159, .int u23, .ref 160, .int u24, .ref 161, .ref 162, .ref 163, .ref 164, .int u25, .ref 165, .ref 166]) kc_14_127 rfl rfl rfl A60 rfl rfl rfl (Nat.le_of_ble_eq_true rfl) rfl (fun hh62 eh61 => ?_)
  have K63 := xk_pf (k := 41) (v := 0) K58 (xk_wf (by decide +kernel)) xD_115 A60 rfl (by first | omega | decide) (by first | omega | decide) eh61 rfl
  refine xi_return kc_14_130 mr_14 ?_
  have A64 := ((eh61.2.1 116 (by decide)).trans ((eh57.2.1 116 (by decide)).trans ((eh51.2.1 116 (by decide)).trans ((eh45.2.1 116 (by decide)).trans ((eh39.2.1 116 (by decide)).trans ((eh34.2.1 116 (by decide)).trans eh28.1))))))
  have A65 := ((eh61.2.1 117 (by decide)).trans ((eh57.2.1 117 (by decide)).trans ((eh51.2.1 117 (by decide)).trans ((eh45.2.1 117 (by decide)).trans ((eh39.2.1 117 (by decide)).trans eh34.1)))))
  have A66 := ((eh61.2.1 118 (by decide)).trans ((eh57.2.1 118 (by decide)).trans ((eh51.2.1 118 (by decide)).trans ((eh45.2.1 118 (by decide)).trans eh39.1))))
  have A67 := ((eh61.2.1 119 (by decide)).trans ((eh57.2.1 119 (by decide)).trans ((eh51.2.1 119 (by decide)).trans eh45.1)))
  have A68 := ((eh61.2.1 120 (by decide)).trans ((eh57.2.1 120 (by decide)).trans eh51.1))
  have A69 := ((eh61.2.1 121 (by decide)).trans eh57.1)
  exact kk hh62 K63 ⟨(xra_mk A64 (xrp_fn R30 ((xup_id (f := fun r => st r 0) (k := x1.toNatClampNeg) hlv27.symm).trans (xu2_co (f := st) (a := x1.toNatClampNeg) (b := 2) (j := 0) (v := x3.toInt) (by decide)).symm))), (xra_mk A65 (xrp_fn R36 ((xup_id (f := fun r => st r 1) (k := x1.toNatClampNeg) hlv32.symm).trans (xu2_co (f := st) (a := x1.toNatClampNeg) (b := 2) (j := 1) (v := x3.toInt) (by decide)).symm))), (xra_mk A66 (xrp_fn R41 xu2_col.symm)), (xra_mk A67 (xrp_fn R47 ((xup_id (f := fun r => st r 3) (k := x1.toNatClampNeg) hlv43.symm).trans (xu2_co (f := st) (a := x1.toNatClampNeg) (b := 2) (j := 3) (v := x3.toInt) (by decide)).symm))), (xra_mk A68 (xrp_fn R53 ((xup_id (f := fun r => st r 4) (k := x1.toNatClampNeg) hlv49.symm).trans (xu2_co (f := st) (a := x1.toNatClampNeg) (b := 2) (j := 4) (v := x3.toInt) (by decide)).symm)))⟩ (xra_mk A69 (xrp_fn R59 (xup_id (f := w) (k := x1.toNatClampNeg) hlv55.symm)))
set_option maxHeartbeats 4000000 in
theorem xw_te3 {J : xe_J} {ov : List (List Int32)} (hJ : ∀ d mj as h, mj ≠ xe_loff → J d mj as h = none) (hov1 : ov[1]? = some [10, 0, 0, 0, 0, 0]) (hov2 : ov[2]? = some [99, 30, 50, 50, 1, 99999]) {d : Nat} {Q : Option Value → xe_H → Prop} {h : xe_H} {st : xFn} {w : Nat → Int} {x1 x3 : Int32} (T : xt h) (I : xr5 h st) (IW : xra h 121 6 w) (b1 : 0 ≤ x1.toInt ∧ x1.toInt ≤ 5) (b3 : 0 ≤ x3.toInt ∧ x3.toInt ≤ 50) (kk : ∀ h' : xe_H, xk xP_20 h h' → xr5 h' (xu2 st x1.toNatClampNeg 3 x3.toInt) → xra h' 121 6 w → Q none h') : xw J ov (d + 1) 14 (0, [(0, .ref 115), (1, .int x1), (2, .int 3), (3, .int x3)], [], h) Q := by
  have K : xk xP_20 h h := xk_re T
  obtain ⟨y1, A1, hy1, ry1⟩ := xk_arr K.1 xD_116
  have R2 : xrp y1 6 (fun r => st r 0) := xra_ld I.1 A1
  obtain ⟨y3, A3, hy3, ry3⟩ := xk_arr K.1 xD_117
  have R4 : xrp y3 6 (fun r => st r 1) := xra_ld I.2.1 A3
  obtain ⟨y5, A5, hy5, ry5⟩ := xk_arr K.1 xD_118
  have R6 : xrp y5 6 (fun r => st r 2) := xra_ld I.2.2.1 A5
  obtain ⟨y7, A7, hy7, ry7⟩ := xk_arr K.1 xD_119
  have R8 : xrp y7 6 (fun r => st r 3) := xra_ld I.2.2.2.1 A7
  obtain ⟨y9, A9, hy9, ry9⟩ := xk_arr K.1 xD_120
  have R10 : xrp y9 6 (fun r => st r 4) := xra_ld I.2.2.2.2 A9
  obtain ⟨y11, A11, hy11, ry11⟩ := xk_arr K.1 xD_121
  have R12 : xrp y11 6 w := xra_ld IW A11
  refine xi_aload_n (pc' := 1) (x := 115) kc_14_0 rfl rfl ?_
  obtain ⟨u13, u14, u15, u16, u17, u18, u19, u20, u21, u22, u23, u24, u25, bu13, bu14, bu15, bu16, bu17, bu18, bu19, bu20, bu21, bu22, bu23, bu24, bu25, A26⟩ := xq_115 K.1
  refine xi_getfield (pc' := 4) (v := .ref 116) kc_14_1 rfl rfl rfl A26 rfl ?_
  refine xi_iload_n (pc' := 5) (x := x1) kc_14_4 rfl rfl ?_
  refine xi_iload_n (pc' := 6) (x := 3) kc_14_5 rfl rfl ?_
  refine xi_ift (pc' := 13) kc_14_6 rfl rfl ?_
  refine xi_aload_n (pc' := 14) (x := 115) kc_14_13 rfl rfl ?_
  refine xi_getfield (pc' := 17) (v := .ref 116) kc_14_14 rfl rfl rfl A26 rfl ?_
  refine xi_iload_n (pc' := 18) (x := x1) kc_14_17 rfl rfl ?_
  obtain ⟨v27, ev27, bv27, dv27⟩ := xj_get hy1 ry1 (i := x1) (by omega) (by omega)
  refine xi_iaload (pc' := 19) (v := v27) kc_14_18 rfl A1 (by decide) rfl (xi_in (by omega) (by rw [hy1]; omega)) ev27 ?_
  have hlv27 : v27.toInt = st (Int32.toNatClampNeg x1) 0 := xrp_ld R2 (by omega) (by omega) ev27
  obtain ⟨y28, s28, hy28, ry28⟩ := xj_set (v := v27) hy1 ry1 x1 (by first | omega | decide) (by first | omega | decide)
  refine xi_iastore (pc' := 20) (x' := y28) kc_14_19 rfl A1 rfl (xi_in (by omega) (by rw [hy1]; omega)) s28 (fun hh28 eh28 => ?_)
  have K29 := xk_pa K (xk_wa (by decide +kernel)) xD_116 hy28 ry28 eh28
  have R30 : xrp y28 6 (xup (fun r => st r 0) (Int32.toNatClampNeg x1) (v27 : Int32).toInt) := xrp_set R2 s28
  refine xi_aload_n (pc' := 21) (x := 115) kc_14_20 rfl rfl ?_
  have A31 := ((eh28.2.1 115 (by decide)).trans A26)
  refine xi_getfield (pc' := 24) (v := .ref 117) kc_14_21 rfl rfl rfl A31 rfl ?_
  refine xi_iload_n (pc' := 25) (x := x1) kc_14_24 rfl rfl ?_
  refine xi_iload_n (pc' := 26) (x := 3) kc_14_25 rfl rfl ?_
  refine xi_iconst (pc' := 27) (v := 1) kc_14_26 rfl rfl ?_
  refine xi_cmt (pc' := 34) kc_14_27 rfl rfl ?_
  refine xi_aload_n (pc' := 35) (x := 115) kc_14_34 rfl rfl ?_
  refine xi_getfield (pc' := 38) (v := .ref 117) kc_14_35 rfl rfl rfl A31 rfl ?_
  refine xi_iload_n (pc' := 39) (x := x1) kc_14_38 rfl rfl ?_
  obtain ⟨v32, ev32, bv32, dv32⟩ := xj_get hy3 ry3 (i := x1) (by omega) (by omega)
  have A33 := ((eh28.2.1 117 (by decide)).trans A3)
  refine xi_iaload (pc' := 40) (v := v32) kc_14_39 rfl A33 (by decide) rfl (xi_in (by omega) (by rw [hy3]; omega)) ev32 ?_
  have hlv32 : v32.toInt = st (Int32.toNatClampNeg x1) 1 := xrp_ld R4 (by omega) (by omega) ev32
  obtain ⟨y34, s34, hy34, ry34⟩ := xj_set (v := v32) hy3 ry3 x1 (by first | omega | decide) (by first | omega | decide)
  refine xi_iastore (pc' := 41) (x' := y34) kc_14_40 rfl A33 rfl (xi_in (by omega) (by rw [hy3]; omega)) s34 (fun hh34 eh34 => ?_)
  have K35 := xk_pa K29 (xk_wa (by decide +kernel)) xD_117 hy34 ry34 eh34
  have R36 : xrp y34 6 (xup (fun r => st r 1) (Int32.toNatClampNeg x1) (v32 : Int32).toInt) := xrp_set R4 s34
  refine xi_aload_n (pc' := 42) (x := 115) kc_14_41 rfl rfl ?_
  have A37 := ((eh34.2.1 115 (by decide)).trans A31)
  refine xi_getfield (pc' := 45) (v := .ref 118) kc_14_42 rfl rfl rfl A37 rfl ?_
  refine xi_iload_n (pc' := 46) (x := x1) kc_14_45 rfl rfl ?_
  refine xi_iload_n (pc' := 47) (x := 3) kc_14_46 rfl rfl ?_
  refine xi_iconst (pc' := 48) (v := 2) kc_14_47 rfl rfl ?_
  refine xi_cmt (pc' := 55) kc_14_48 rfl rfl ?_
  refine xi_aload_n (pc' := 56) (x := 115) kc_14_55 rfl rfl ?_
  refine xi_getfield (pc' := 59) (v := .ref 118) kc_14_56 rfl rfl rfl A37 rfl ?_
  refine xi_iload_n (pc' := 60) (x := x1) kc_14_59 rfl rfl ?_
  obtain ⟨v38, ev38, bv38, dv38⟩ := xj_get hy5 ry5 (i := x1) (by omega) (by omega)
  have A39 := ((eh34.2.1 118 (by decide)).trans ((eh28.2.1 118 (by decide)).trans A5))
  refine xi_iaload (pc' := 61) (v := v38) kc_14_60 rfl A39 (by decide) rfl (xi_in (by omega) (by rw [hy5]; omega)) ev38 ?_
  have hlv38 : v38.toInt = st (Int32.toNatClampNeg x1) 2 := xrp_ld R6 (by omega) (by omega) ev38
  obtain ⟨y40, s40, hy40, ry40⟩ := xj_set (v := v38) hy5 ry5 x1 (by first | omega | decide) (by first | omega | decide)
  refine xi_iastore (pc' := 62) (x' := y40) kc_14_61 rfl A39 rfl (xi_in (by omega) (by rw [hy5]; omega)) s40 (fun hh40 eh40 => ?_)
  have K41 := xk_pa K35 (xk_wa (by decide +kernel)) xD_118 hy40 ry40 eh40
  have R42 : xrp y40 6 (xup (fun r => st r 2) (Int32.toNatClampNeg x1) (v38 : Int32).toInt) := xrp_set R6 s40
  refine xi_aload_n (pc' := 63) (x := 115) kc_14_62 rfl rfl ?_
  have A43 := ((eh40.2.1 115 (by decide)).trans A37)
  refine xi_getfield (pc' := 66) (v := .ref 119) kc_14_63 rfl rfl rfl A43 rfl ?_
  refine xi_iload_n (pc' := 67) (x := x1) kc_14_66 rfl rfl ?_
  refine xi_iload_n (pc' := 68) (x := 3) kc_14_67 rfl rfl ?_
  refine xi_iconst (pc' := 69) (v := 3) kc_14_68 rfl rfl ?_
  refine xi_cmf (pc' := 72) kc_14_69 rfl rfl ?_
  refine xi_iload_n (pc' := 73) (x := x3) kc_14_72 rfl rfl ?_
  refine xi_goto (pc' := 82) kc_14_73 rfl ?_
  have A44 := ((eh40.2.1 119 (by decide)).trans ((eh34.2.1 119 (by decide)).trans ((eh28.2.1 119 (by decide)).trans A7)))
  obtain ⟨y45, s45, hy45, ry45⟩ := xj_set (v := x3) hy7 ry7 x1 (by first | omega | decide) (by first | omega | decide)
  refine xi_iastore (pc' := 83) (x' := y45) kc_14_82 rfl A44 rfl (xi_in (by omega) (by rw [hy7]; omega)) s45 (fun hh45 eh45 => ?_)
  have K46 := xk_pa K41 (xk_wa (by decide +kernel)) xD_119 hy45 ry45 eh45
  have R47 : xrp y45 6 (xup (fun r => st r 3) (Int32.toNatClampNeg x1) (x3 : Int32).toInt) := xrp_set R8 s45
  refine xi_aload_n (pc' := 84) (x := 115) kc_14_83 rfl rfl ?_
  have A48 := ((eh45.2.1 115 (by decide)).trans A43)
  refine xi_getfield (pc' := 87) (v := .ref 120) kc_14_84 rfl rfl rfl A48 rfl ?_
  refine xi_iload_n (pc' := 88) (x := x1) kc_14_87 rfl rfl ?_
  refine xi_iload_n (pc' := 89) (x := 3) kc_14_88 rfl rfl ?_
  refine xi_iconst (pc' := 90) (v := 4) kc_14_89 rfl rfl ?_
  refine xi_cmt (pc' := 97) kc_14_90 rfl rfl ?_
  refine xi_aload_n (pc' := 98) (x := 115) kc_14_97 rfl rfl ?_
  refine xi_getfield (pc' := 101) (v := .ref 120) kc_14_98 rfl rfl rfl A48 rfl ?_
  refine xi_iload_n (pc' := 102) (x := x1) kc_14_101 rfl rfl ?_
  obtain ⟨v49, ev49, bv49, dv49⟩ := xj_get hy9 ry9 (i := x1) (by omega) (by omega)
  have A50 := ((eh45.2.1 120 (by decide)).trans ((eh40.2.1 120 (by decide)).trans ((eh34.2.1 120 (by decide)).trans ((eh28.2.1 120 (by decide)).trans A9))))
  refine xi_iaload (pc' := 103) (v := v49) kc_14_102 rfl A50 (by decide) rfl (xi_in (by omega) (by rw [hy9]; omega)) ev49 ?_
  have hlv49 : v49.toInt = st (Int32.toNatClampNeg x1) 4 := xrp_ld R10 (by omega) (by omega) ev49
  obtain ⟨y51, s51, hy51, ry51⟩ := xj_set (v := v49) hy9 ry9 x1 (by first | omega | decide) (by first | omega | decide)
  refine xi_iastore (pc' := 104) (x' := y51) kc_14_103 rfl A50 rfl (xi_in (by omega) (by rw [hy9]; omega)) s51 (fun hh51 eh51 => ?_)
  have K52 := xk_pa K46 (xk_wa (by decide +kernel)) xD_120 hy51 ry51 eh51
  have R53 : xrp y51 6 (xup (fun r => st r 4) (Int32.toNatClampNeg x1) (v49 : Int32).toInt) := xrp_set R10 s51
  refine xi_aload_n (pc' := 105) (x := 115) kc_14_104 rfl rfl ?_
  have A54 := ((eh51.2.1 115 (by decide)).trans A48)
  refine xi_getfield (pc' := 108) (v := .ref 121) kc_14_105 rfl rfl rfl A54 rfl ?_
  refine xi_iload_n (pc' := 109) (x := x1) kc_14_108 rfl rfl ?_
  refine xi_iload_n (pc' := 110) (x := 3) kc_14_109 rfl rfl ?_
  refine xi_iconst (pc' := 111) (v := 5) kc_14_110 rfl rfl ?_
  refine xi_cmt (pc' := 118) kc_14_111 rfl rfl ?_
  refine xi_aload_n (pc' := 119) (x := 115) kc_14_118 rfl rfl ?_
  refine xi_getfield (pc' := 122) (v := .ref 121) kc_14_119 rfl rfl rfl A54 rfl ?_
  refine xi_iload_n (pc' := 123) (x := x1) kc_14_122 rfl rfl ?_
  obtain ⟨v55, ev55, bv55, dv55⟩ := xj_get hy11 ry11 (i := x1) (by omega) (by omega)
  have A56 := ((eh51.2.1 121 (by decide)).trans ((eh45.2.1 121 (by decide)).trans ((eh40.2.1 121 (by decide)).trans ((eh34.2.1 121 (by decide)).trans ((eh28.2.1 121 (by decide)).trans A11)))))
  refine xi_iaload (pc' := 124) (v := v55) kc_14_123 rfl A56 (by decide) rfl (xi_in (by omega) (by rw [hy11]; omega)) ev55 ?_
  have hlv55 : v55.toInt = w (Int32.toNatClampNeg x1) := xrp_ld R12 (by omega) (by omega) ev55
  obtain ⟨y57, s57, hy57, ry57⟩ := xj_set (v := v55) hy11 ry11 x1 (by first | omega | decide) (by first | omega | decide)
  refine xi_iastore (pc' := 125) (x' := y57) kc_14_124 rfl A56 rfl (xi_in (by omega) (by rw [hy11]; omega)) s57 (fun hh57 eh57 => ?_)
  have K58 := xk_pa K52 (xk_wa (by decide +kernel)) xD_121 hy57 ry57 eh57
  have R59 : xrp y57 6 (xup w (Int32.toNatClampNeg x1) (v55 : Int32).toInt) := xrp_set R12 s57
  refine xi_aload_n (pc' := 126) (x := 115) kc_14_125 rfl rfl ?_
  refine xi_iconst (pc' := 127) (v := 0) kc_14_126 rfl rfl ?_
  have A60 := ((eh57.2.1 115 (by decide)).trans A54)
  refine xi_putfield (pc' := 130) (fs' := [.int u13, .int u14, .ref 116, .ref 117, .ref 118, .ref 119, .ref 120, .ref 121, .ref 122, .ref 123, .ref 124, .ref 125, .ref 126, .ref 127, .ref 128, .ref 129, .int u15, .ref 130, .int u16, .ref 131, .ref 132, .ref 133, .ref 134, .int u17, .ref 135, .ref 136, .ref 137, .ref 138, .ref 139, .ref 140, .ref 141, .ref 142, .int u18, .int u19, .int u20, .ref 143, .ref 144, .ref 145, .ref 146, .ref 147, .ref 148, .int 0, .ref 149, .ref 150, .ref 151, .int u22, .ref 152, .ref 153, .ref 154, .ref 155, .ref 156, .ref 157, .ref 158, .ref 159, .int u23, .ref 160, .int u24, .ref 161, .ref 162, .ref 163, .ref 164, .int u25, .ref 165, .ref 166]) kc_14_127 rfl rfl rfl A60 rfl rfl rfl (Nat.le_of_ble_eq_true rfl) rfl (fun hh62 eh61 => ?_)
  have K63 := xk_pf (k := 41) (v := 0) K58 (xk_wf (by decide +kernel)) xD_115 A60 rfl (by first | omega | decide) (by first | omega | decide) eh61 rfl
  refine xi_return kc_14_130 mr_14 ?_
  have A64 := ((eh61.2.1 116 (by decide)).trans ((eh57.2.1 116 (by decide)).trans ((eh51.2.1 116 (by decide)).trans ((eh45.2.1 116 (by decide)).trans ((eh40.2.1 116 (by decide)).trans ((eh34.2.1 116 (by decide)).trans eh28.1))))))
  have A65 := ((eh61.2.1 117 (by decide)).trans ((eh57.2.1 117 (by decide)).trans ((eh51.2.1 117 (by decide)).trans ((eh45.2.1 117 (by decide)).trans ((eh40.2.1 117 (by decide)).trans eh34.1)))))
  have A66 := ((eh61.2.1 118 (by decide)).trans ((eh57.2.1 118 (by decide)).trans ((eh51.2.1 118 (by decide)).trans ((eh45.2.1 118 (by decide)).trans eh40.1))))
  have A67 := ((eh61.2.1 119 (by decide)).trans ((eh57.2.1 119 (by decide)).trans ((eh51.2.1 119 (by decide)).trans eh45.1)))
  have A68 := ((eh61.2.1 120 (by decide)).trans ((eh57.2.1 120 (by decide)).trans eh51.1))
  have A69 := ((eh61.2.1 121 (by decide)).trans eh57.1)
  exact kk hh62 K63 ⟨(xra_mk A64 (xrp_fn R30 ((xup_id (f := fun r => st r 0) (k := x1.toNatClampNeg) hlv27.symm).trans (xu2_co (f := st) (a := x1.toNatClampNeg) (b := 3) (j := 0) (v := x3.toInt) (by decide)).symm))), (xra_mk A65 (xrp_fn R36 ((xup_id (f := fun r => st r 1) (k := x1.toNatClampNeg) hlv32.symm).trans (xu2_co (f := st) (a := x1.toNatClampNeg) (b := 3) (j := 1) (v := x3.toInt) (by decide)).symm))), (xra_mk A66 (xrp_fn R42 ((xup_id (f := fun r => st r 2) (k := x1.toNatClampNeg) hlv38.symm).trans (xu2_co (f := st) (a := x1.toNatClampNeg) (b := 3) (j := 2) (v := x3.toInt) (by decide)).symm))), (xra_mk A67 (xrp_fn R47 xu2_col.symm)), (xra_mk A68 (xrp_fn R53 ((xup_id (f := fun r => st r 4) (k := x1.toNatClampNeg) hlv49.symm).trans (xu2_co (f := st) (a := x1.toNatClampNeg) (b := 3) (j := 4) (v := x3.toInt) (by decide)).symm)))⟩ (xra_mk A69 (xrp_fn R59 (xup_id (f := w) (k := x1.toNatClampNeg) hlv55.symm)))
set_option maxHeartbeats 4000000 in
theorem xw_te4 {J : xe_J} {ov : List (List Int32)} (hJ : ∀ d mj as h, mj ≠ xe_loff → J d mj as h = none) (hov1 : ov[1]? = some [10, 0, 0, 0, 0, 0]) (hov2 : ov[2]? = some [99, 30, 50, 50, 1, 99999]) {d : Nat} {Q : Option Value → xe_H → Prop} {h : xe_H} {st : xFn} {w : Nat → Int} {x1 x3 : Int32} (T : xt h) (I : xr5 h st) (IW : xra h 121 6 w) (b1 : 0 ≤ x1.toInt ∧ x1.toInt ≤ 5) (b3 : 0 ≤ x3.toInt ∧ x3.toInt ≤ 50) (kk : ∀ h' : xe_H, xk xP_20 h h' → xr5 h' (xu2 st x1.toNatClampNeg 4 x3.toInt) → xra h' 121 6 w → Q none h') : xw J ov (d + 1) 14 (0, [(0, .ref 115), (1, .int x1), (2, .int 4), (3, .int x3)], [], h) Q := by
  have K : xk xP_20 h h := xk_re T
  obtain ⟨y1, A1, hy1, ry1⟩ := xk_arr K.1 xD_116
  have R2 : xrp y1 6 (fun r => st r 0) := xra_ld I.1 A1
  obtain ⟨y3, A3, hy3, ry3⟩ := xk_arr K.1 xD_117
  have R4 : xrp y3 6 (fun r => st r 1) := xra_ld I.2.1 A3
  obtain ⟨y5, A5, hy5, ry5⟩ := xk_arr K.1 xD_118
  have R6 : xrp y5 6 (fun r => st r 2) := xra_ld I.2.2.1 A5
  obtain ⟨y7, A7, hy7, ry7⟩ := xk_arr K.1 xD_119
  have R8 : xrp y7 6 (fun r => st r 3) := xra_ld I.2.2.2.1 A7
  obtain ⟨y9, A9, hy9, ry9⟩ := xk_arr K.1 xD_120
  have R10 : xrp y9 6 (fun r => st r 4) := xra_ld I.2.2.2.2 A9
  obtain ⟨y11, A11, hy11, ry11⟩ := xk_arr K.1 xD_121
  have R12 : xrp y11 6 w := xra_ld IW A11
  refine xi_aload_n (pc' := 1) (x := 115) kc_14_0 rfl rfl ?_
  obtain ⟨u13, u14, u15, u16, u17, u18, u19, u20, u21, u22, u23, u24, u25, bu13, bu14, bu15, bu16, bu17, bu18, bu19, bu20, bu21, bu22, bu23, bu24, bu25, A26⟩ := xq_115 K.1
  refine xi_getfield (pc' := 4) (v := .ref 116) kc_14_1 rfl rfl rfl A26 rfl ?_
  refine xi_iload_n (pc' := 5) (x := x1) kc_14_4 rfl rfl ?_
  refine xi_iload_n (pc' := 6) (x := 4) kc_14_5 rfl rfl ?_
  refine xi_ift (pc' := 13) kc_14_6 rfl rfl ?_
  refine xi_aload_n (pc' := 14) (x := 115) kc_14_13 rfl rfl ?_
  refine xi_getfield (pc' := 17) (v := .ref 116) kc_14_14 rfl rfl rfl A26 rfl ?_
  refine xi_iload_n (pc' := 18) (x := x1) kc_14_17 rfl rfl ?_
  obtain ⟨v27, ev27, bv27, dv27⟩ := xj_get hy1 ry1 (i := x1) (by omega) (by omega)
  refine xi_iaload (pc' := 19) (v := v27) kc_14_18 rfl A1 (by decide) rfl (xi_in (by omega) (by rw [hy1]; omega)) ev27 ?_
  have hlv27 : v27.toInt = st (Int32.toNatClampNeg x1) 0 := xrp_ld R2 (by omega) (by omega) ev27
  obtain ⟨y28, s28, hy28, ry28⟩ := xj_set (v := v27) hy1 ry1 x1 (by first | omega | decide) (by first | omega | decide)
  refine xi_iastore (pc' := 20) (x' := y28) kc_14_19 rfl A1 rfl (xi_in (by omega) (by rw [hy1]; omega)) s28 (fun hh28 eh28 => ?_)
  have K29 := xk_pa K (xk_wa (by decide +kernel)) xD_116 hy28 ry28 eh28
  have R30 : xrp y28 6 (xup (fun r => st r 0) (Int32.toNatClampNeg x1) (v27 : Int32).toInt) := xrp_set R2 s28
  refine xi_aload_n (pc' := 21) (x := 115) kc_14_20 rfl rfl ?_
  have A31 := ((eh28.2.1 115 (by decide)).trans A26)
  refine xi_getfield (pc' := 24) (v := .ref 117) kc_14_21 rfl rfl rfl A31 rfl ?_
  refine xi_iload_n (pc' := 25) (x := x1) kc_14_24 rfl rfl ?_
  refine xi_iload_n (pc' := 26) (x := 4) kc_14_25 rfl rfl ?_
  refine xi_iconst (pc' := 27) (v := 1) kc_14_26 rfl rfl ?_
  refine xi_cmt (pc' := 34) kc_14_27 rfl rfl ?_
  refine xi_aload_n (pc' := 35) (x := 115) kc_14_34 rfl rfl ?_
  refine xi_getfield (pc' := 38) (v := .ref 117) kc_14_35 rfl rfl rfl A31 rfl ?_
  refine xi_iload_n (pc' := 39) (x := x1) kc_14_38 rfl rfl ?_
  obtain ⟨v32, ev32, bv32, dv32⟩ := xj_get hy3 ry3 (i := x1) (by omega) (by omega)
  have A33 := ((eh28.2.1 117 (by decide)).trans A3)
  refine xi_iaload (pc' := 40) (v := v32) kc_14_39 rfl A33 (by decide) rfl (xi_in (by omega) (by rw [hy3]; omega)) ev32 ?_
  have hlv32 : v32.toInt = st (Int32.toNatClampNeg x1) 1 := xrp_ld R4 (by omega) (by omega) ev32
  obtain ⟨y34, s34, hy34, ry34⟩ := xj_set (v := v32) hy3 ry3 x1 (by first | omega | decide) (by first | omega | decide)
  refine xi_iastore (pc' := 41) (x' := y34) kc_14_40 rfl A33 rfl (xi_in (by omega) (by rw [hy3]; omega)) s34 (fun hh34 eh34 => ?_)
  have K35 := xk_pa K29 (xk_wa (by decide +kernel)) xD_117 hy34 ry34 eh34
  have R36 : xrp y34 6 (xup (fun r => st r 1) (Int32.toNatClampNeg x1) (v32 : Int32).toInt) := xrp_set R4 s34
  refine xi_aload_n (pc' := 42) (x := 115) kc_14_41 rfl rfl ?_
  have A37 := ((eh34.2.1 115 (by decide)).trans A31)
  refine xi_getfield (pc' := 45) (v := .ref 118) kc_14_42 rfl rfl rfl A37 rfl ?_
  refine xi_iload_n (pc' := 46) (x := x1) kc_14_45 rfl rfl ?_
  refine xi_iload_n (pc' := 47) (x := 4) kc_14_46 rfl rfl ?_
  refine xi_iconst (pc' := 48) (v := 2) kc_14_47 rfl rfl ?_
  refine xi_cmt (pc' := 55) kc_14_48 rfl rfl ?_
  refine xi_aload_n (pc' := 56) (x := 115) kc_14_55 rfl rfl ?_
  refine xi_getfield (pc' := 59) (v := .ref 118) kc_14_56 rfl rfl rfl A37 rfl ?_
  refine xi_iload_n (pc' := 60) (x := x1) kc_14_59 rfl rfl ?_
  obtain ⟨v38, ev38, bv38, dv38⟩ := xj_get hy5 ry5 (i := x1) (by omega) (by omega)
  have A39 := ((eh34.2.1 118 (by decide)).trans ((eh28.2.1 118 (by decide)).trans A5))
  refine xi_iaload (pc' := 61) (v := v38) kc_14_60 rfl A39 (by decide) rfl (xi_in (by omega) (by rw [hy5]; omega)) ev38 ?_
  have hlv38 : v38.toInt = st (Int32.toNatClampNeg x1) 2 := xrp_ld R6 (by omega) (by omega) ev38
  obtain ⟨y40, s40, hy40, ry40⟩ := xj_set (v := v38) hy5 ry5 x1 (by first | omega | decide) (by first | omega | decide)
  refine xi_iastore (pc' := 62) (x' := y40) kc_14_61 rfl A39 rfl (xi_in (by omega) (by rw [hy5]; omega)) s40 (fun hh40 eh40 => ?_)
  have K41 := xk_pa K35 (xk_wa (by decide +kernel)) xD_118 hy40 ry40 eh40
  have R42 : xrp y40 6 (xup (fun r => st r 2) (Int32.toNatClampNeg x1) (v38 : Int32).toInt) := xrp_set R6 s40
  refine xi_aload_n (pc' := 63) (x := 115) kc_14_62 rfl rfl ?_
  have A43 := ((eh40.2.1 115 (by decide)).trans A37)
  refine xi_getfield (pc' := 66) (v := .ref 119) kc_14_63 rfl rfl rfl A43 rfl ?_
  refine xi_iload_n (pc' := 67) (x := x1) kc_14_66 rfl rfl ?_
  refine xi_iload_n (pc' := 68) (x := 4) kc_14_67 rfl rfl ?_
  refine xi_iconst (pc' := 69) (v := 3) kc_14_68 rfl rfl ?_
  refine xi_cmt (pc' := 76) kc_14_69 rfl rfl ?_
  refine xi_aload_n (pc' := 77) (x := 115) kc_14_76 rfl rfl ?_
  refine xi_getfield (pc' := 80) (v := .ref 119) kc_14_77 rfl rfl rfl A43 rfl ?_
  refine xi_iload_n (pc' := 81) (x := x1) kc_14_80 rfl rfl ?_
  obtain ⟨v44, ev44, bv44, dv44⟩ := xj_get hy7 ry7 (i := x1) (by omega) (by omega)
  have A45 := ((eh40.2.1 119 (by decide)).trans ((eh34.2.1 119 (by decide)).trans ((eh28.2.1 119 (by decide)).trans A7)))
  refine xi_iaload (pc' := 82) (v := v44) kc_14_81 rfl A45 (by decide) rfl (xi_in (by omega) (by rw [hy7]; omega)) ev44 ?_
  have hlv44 : v44.toInt = st (Int32.toNatClampNeg x1) 3 := xrp_ld R8 (by omega) (by omega) ev44
  obtain ⟨y46, s46, hy46, ry46⟩ := xj_set (v := v44) hy7 ry7 x1 (by first | omega | decide) (by first | omega | decide)
  refine xi_iastore (pc' := 83) (x' := y46) kc_14_82 rfl A45 rfl (xi_in (by omega) (by rw [hy7]; omega)) s46 (fun hh46 eh46 => ?_)
  have K47 := xk_pa K41 (xk_wa (by decide +kernel)) xD_119 hy46 ry46 eh46
  have R48 : xrp y46 6 (xup (fun r => st r 3) (Int32.toNatClampNeg x1) (v44 : Int32).toInt) := xrp_set R8 s46
  refine xi_aload_n (pc' := 84) (x := 115) kc_14_83 rfl rfl ?_
  have A49 := ((eh46.2.1 115 (by decide)).trans A43)
  refine xi_getfield (pc' := 87) (v := .ref 120) kc_14_84 rfl rfl rfl A49 rfl ?_
  refine xi_iload_n (pc' := 88) (x := x1) kc_14_87 rfl rfl ?_
  refine xi_iload_n (pc' := 89) (x := 4) kc_14_88 rfl rfl ?_
  refine xi_iconst (pc' := 90) (v := 4) kc_14_89 rfl rfl ?_
  refine xi_cmf (pc' := 93) kc_14_90 rfl rfl ?_
  refine xi_iload_n (pc' := 94) (x := x3) kc_14_93 rfl rfl ?_
  refine xi_goto (pc' := 103) kc_14_94 rfl ?_
  have A50 := ((eh46.2.1 120 (by decide)).trans ((eh40.2.1 120 (by decide)).trans ((eh34.2.1 120 (by decide)).trans ((eh28.2.1 120 (by decide)).trans A9))))
  obtain ⟨y51, s51, hy51, ry51⟩ := xj_set (v := x3) hy9 ry9 x1 (by first | omega | decide) (by first | omega | decide)
  refine xi_iastore (pc' := 104) (x' := y51) kc_14_103 rfl A50 rfl (xi_in (by omega) (by rw [hy9]; omega)) s51 (fun hh51 eh51 => ?_)
  have K52 := xk_pa K47 (xk_wa (by decide +kernel)) xD_120 hy51 ry51 eh51
  have R53 : xrp y51 6 (xup (fun r => st r 4) (Int32.toNatClampNeg x1) (x3 : Int32).toInt) := xrp_set R10 s51
  refine xi_aload_n (pc' := 105) (x := 115) kc_14_104 rfl rfl ?_
  have A54 := ((eh51.2.1 115 (by decide)).trans A49)
  refine xi_getfield (pc' := 108) (v := .ref 121) kc_14_105 rfl rfl rfl A54 rfl ?_
  refine xi_iload_n (pc' := 109) (x := x1) kc_14_108 rfl rfl ?_
  refine xi_iload_n (pc' := 110) (x := 4) kc_14_109 rfl rfl ?_
  refine xi_iconst (pc' := 111) (v := 5) kc_14_110 rfl rfl ?_
  refine xi_cmt (pc' := 118) kc_14_111 rfl rfl ?_
  refine xi_aload_n (pc' := 119) (x := 115) kc_14_118 rfl rfl ?_
  refine xi_getfield (pc' := 122) (v := .ref 121) kc_14_119 rfl rfl rfl A54 rfl ?_
  refine xi_iload_n (pc' := 123) (x := x1) kc_14_122 rfl rfl ?_
  obtain ⟨v55, ev55, bv55, dv55⟩ := xj_get hy11 ry11 (i := x1) (by omega) (by omega)
  have A56 := ((eh51.2.1 121 (by decide)).trans ((eh46.2.1 121 (by decide)).trans ((eh40.2.1 121 (by decide)).trans ((eh34.2.1 121 (by decide)).trans ((eh28.2.1 121 (by decide)).trans A11)))))
  refine xi_iaload (pc' := 124) (v := v55) kc_14_123 rfl A56 (by decide) rfl (xi_in (by omega) (by rw [hy11]; omega)) ev55 ?_
  have hlv55 : v55.toInt = w (Int32.toNatClampNeg x1) := xrp_ld R12 (by omega) (by omega) ev55
  obtain ⟨y57, s57, hy57, ry57⟩ := xj_set (v := v55) hy11 ry11 x1 (by first | omega | decide) (by first | omega | decide)
  refine xi_iastore (pc' := 125) (x' := y57) kc_14_124 rfl A56 rfl (xi_in (by omega) (by rw [hy11]; omega)) s57 (fun hh57 eh57 => ?_)
  have K58 := xk_pa K52 (xk_wa (by decide +kernel)) xD_121 hy57 ry57 eh57
  have R59 : xrp y57 6 (xup w (Int32.toNatClampNeg x1) (v55 : Int32).toInt) := xrp_set R12 s57
  refine xi_aload_n (pc' := 126) (x := 115) kc_14_125 rfl rfl ?_
  refine xi_iconst (pc' := 127) (v := 0) kc_14_126 rfl rfl ?_
  have A60 := ((eh57.2.1 115 (by decide)).trans A54)
  refine xi_putfield (pc' := 130) (fs' := [.int u13, .int u14, .ref 116, .ref 117, .ref 118, .ref 119, .ref 120, .ref 121, .ref 122, .ref 123, .ref 124, .ref 125, .ref 126, .ref 127, .ref 128, .ref 129, .int u15, .ref 130, .int u16, .ref 131, .ref 132, .ref 133, .ref 134, .int u17, .ref 135, .ref 136, .ref 137, .ref 138, .ref 139, .ref 140, .ref 141, .ref 142, .int u18, .int u19, .int u20, .ref 143, .ref 144, .ref 145, .ref 146, .ref 147, .ref 148, .int 0, .ref 149, .ref 150, .ref 151, .int u22, .ref 152, .ref 153, .ref 154, .ref 155, .ref 156, .ref 157, .ref 158, .ref 159, .int u23, .ref 160, .int u24, .ref 161, .ref 162, .ref 163, .ref 164, .int u25, .ref 165, .ref 166]) kc_14_127 rfl rfl rfl A60 rfl rfl rfl (Nat.le_of_ble_eq_true rfl) rfl (fun hh62 eh61 => ?_)
  have K63 := xk_pf (k := 41) (v := 0) K58 (xk_wf (by decide +kernel)) xD_115 A60 rfl (by first | omega | decide) (by first | omega | decide) eh61 rfl
  refine xi_return kc_14_130 mr_14 ?_
  have A64 := ((eh61.2.1 116 (by decide)).trans ((eh57.2.1 116 (by decide)).trans ((eh51.2.1 116 (by decide)).trans ((eh46.2.1 116 (by decide)).trans ((eh40.2.1 116 (by decide)).trans ((eh34.2.1 116 (by decide)).trans eh28.1))))))
  have A65 := ((eh61.2.1 117 (by decide)).trans ((eh57.2.1 117 (by decide)).trans ((eh51.2.1 117 (by decide)).trans ((eh46.2.1 117 (by decide)).trans ((eh40.2.1 117 (by decide)).trans eh34.1)))))
  have A66 := ((eh61.2.1 118 (by decide)).trans ((eh57.2.1 118 (by decide)).trans ((eh51.2.1 118 (by decide)).trans ((eh46.2.1 118 (by decide)).trans eh40.1))))
  have A67 := ((eh61.2.1 119 (by decide)).trans ((eh57.2.1 119 (by decide)).trans ((eh51.2.1 119 (by decide)).trans eh46.1)))
  have A68 := ((eh61.2.1 120 (by decide)).trans ((eh57.2.1 120 (by decide)).trans eh51.1))
  have A69 := ((eh61.2.1 121 (by decide)).trans eh57.1)
  exact kk hh62 K63 ⟨(xra_mk A64 (xrp_fn R30 ((xup_id (f := fun r => st r 0) (k := x1.toNatClampNeg) hlv27.symm).trans (xu2_co (f := st) (a := x1.toNatClampNeg) (b := 4) (j := 0) (v := x3.toInt) (by decide)).symm))), (xra_mk A65 (xrp_fn R36 ((xup_id (f := fun r => st r 1) (k := x1.toNatClampNeg) hlv32.symm).trans (xu2_co (f := st) (a := x1.toNatClampNeg) (b := 4) (j := 1) (v := x3.toInt) (by decide)).symm))), (xra_mk A66 (xrp_fn R42 ((xup_id (f := fun r => st r 2) (k := x1.toNatClampNeg) hlv38.symm).trans (xu2_co (f := st) (a := x1.toNatClampNeg) (b := 4) (j := 2) (v := x3.toInt) (by decide)).symm))), (xra_mk A67 (xrp_fn R48 ((xup_id (f := fun r => st r 3) (k := x1.toNatClampNeg) hlv44.symm).trans (xu2_co (f := st) (a := x1.toNatClampNeg) (b := 4) (j := 3) (v := x3.toInt) (by decide)).symm))), (xra_mk A68 (xrp_fn R53 xu2_col.symm))⟩ (xra_mk A69 (xrp_fn R59 (xup_id (f := w) (k := x1.toNatClampNeg) hlv55.symm)))
set_option maxHeartbeats 4000000 in
theorem xw_te5 {J : xe_J} {ov : List (List Int32)} (hJ : ∀ d mj as h, mj ≠ xe_loff → J d mj as h = none) (hov1 : ov[1]? = some [10, 0, 0, 0, 0, 0]) (hov2 : ov[2]? = some [99, 30, 50, 50, 1, 99999]) {d : Nat} {Q : Option Value → xe_H → Prop} {h : xe_H} {st : xFn} {w : Nat → Int} {x1 x3 : Int32} (T : xt h) (I : xr5 h st) (IW : xra h 121 6 w) (b1 : 0 ≤ x1.toInt ∧ x1.toInt ≤ 5) (b3 : 0 ≤ x3.toInt ∧ x3.toInt ≤ 99999) (kk : ∀ h' : xe_H, xk xP_20 h h' → xr5 h' st → xra h' 121 6 (xup w x1.toNatClampNeg x3.toInt) → Q none h') : xw J ov (d + 1) 14 (0, [(0, .ref 115), (1, .int x1), (2, .int 5), (3, .int x3)], [], h) Q := by
  have K : xk xP_20 h h := xk_re T
  obtain ⟨y1, A1, hy1, ry1⟩ := xk_arr K.1 xD_116
  have R2 : xrp y1 6 (fun r => st r 0) := xra_ld I.1 A1
  obtain ⟨y3, A3, hy3, ry3⟩ := xk_arr K.1 xD_117
  have R4 : xrp y3 6 (fun r => st r 1) := xra_ld I.2.1 A3
  obtain ⟨y5, A5, hy5, ry5⟩ := xk_arr K.1 xD_118
  have R6 : xrp y5 6 (fun r => st r 2) := xra_ld I.2.2.1 A5
  obtain ⟨y7, A7, hy7, ry7⟩ := xk_arr K.1 xD_119
  have R8 : xrp y7 6 (fun r => st r 3) := xra_ld I.2.2.2.1 A7
  obtain ⟨y9, A9, hy9, ry9⟩ := xk_arr K.1 xD_120
  have R10 : xrp y9 6 (fun r => st r 4) := xra_ld I.2.2.2.2 A9
  obtain ⟨y11, A11, hy11, ry11⟩ := xk_arr K.1 xD_121
  have R12 : xrp y11 6 w := xra_ld IW A11
  refine xi_aload_n (pc' := 1) (x := 115) kc_14_0 rfl rfl ?_
  obtain ⟨u13, u14, u15, u16, u17, u18, u19, u20, u21, u22, u23, u24, u25, bu13, bu14, bu15, bu16, bu17, bu18, bu19, bu20, bu21, bu22, bu23, bu24, bu25, A26⟩ := xq_115 K.1
  refine xi_getfield (pc' := 4) (v := .ref 116) kc_14_1 rfl rfl rfl A26 rfl ?_
  refine xi_iload_n (pc' := 5) (x := x1) kc_14_4 rfl rfl ?_
  refine xi_iload_n (pc' := 6) (x := 5) kc_14_5 rfl rfl ?_
  refine xi_ift (pc' := 13) kc_14_6 rfl rfl ?_
  refine xi_aload_n (pc' := 14) (x := 115) kc_14_13 rfl rfl ?_
  refine xi_getfield (pc' := 17) (v := .ref 116) kc_14_14 rfl rfl rfl A26 rfl ?_
  refine xi_iload_n (pc' := 18) (x := x1) kc_14_17 rfl rfl ?_
  obtain ⟨v27, ev27, bv27, dv27⟩ := xj_get hy1 ry1 (i := x1) (by omega) (by omega)
  refine xi_iaload (pc' := 19) (v := v27) kc_14_18 rfl A1 (by decide) rfl (xi_in (by omega) (by rw [hy1]; omega)) ev27 ?_
  have hlv27 : v27.toInt = st (Int32.toNatClampNeg x1) 0 := xrp_ld R2 (by omega) (by omega) ev27
  obtain ⟨y28, s28, hy28, ry28⟩ := xj_set (v := v27) hy1 ry1 x1 (by first | omega | decide) (by first | omega | decide)
  refine xi_iastore (pc' := 20) (x' := y28) kc_14_19 rfl A1 rfl (xi_in (by omega) (by rw [hy1]; omega)) s28 (fun hh28 eh28 => ?_)
  have K29 := xk_pa K (xk_wa (by decide +kernel)) xD_116 hy28 ry28 eh28
  have R30 : xrp y28 6 (xup (fun r => st r 0) (Int32.toNatClampNeg x1) (v27 : Int32).toInt) := xrp_set R2 s28
  refine xi_aload_n (pc' := 21) (x := 115) kc_14_20 rfl rfl ?_
  have A31 := ((eh28.2.1 115 (by decide)).trans A26)
  refine xi_getfield (pc' := 24) (v := .ref 117) kc_14_21 rfl rfl rfl A31 rfl ?_
  refine xi_iload_n (pc' := 25) (x := x1) kc_14_24 rfl rfl ?_
  refine xi_iload_n (pc' := 26) (x := 5) kc_14_25 rfl rfl ?_
  refine xi_iconst (pc' := 27) (v := 1) kc_14_26 rfl rfl ?_
  refine xi_cmt (pc' := 34) kc_14_27 rfl rfl ?_
  refine xi_aload_n (pc' := 35) (x := 115) kc_14_34 rfl rfl ?_
  refine xi_getfield (pc' := 38) (v := .ref 117) kc_14_35 rfl rfl rfl A31 rfl ?_
  refine xi_iload_n (pc' := 39) (x := x1) kc_14_38 rfl rfl ?_
  obtain ⟨v32, ev32, bv32, dv32⟩ := xj_get hy3 ry3 (i := x1) (by omega) (by omega)
  have A33 := ((eh28.2.1 117 (by decide)).trans A3)
  refine xi_iaload (pc' := 40) (v := v32) kc_14_39 rfl A33 (by decide) rfl (xi_in (by omega) (by rw [hy3]; omega)) ev32 ?_
  have hlv32 : v32.toInt = st (Int32.toNatClampNeg x1) 1 := xrp_ld R4 (by omega) (by omega) ev32
  obtain ⟨y34, s34, hy34, ry34⟩ := xj_set (v := v32) hy3 ry3 x1 (by first | omega | decide) (by first | omega | decide)
  refine xi_iastore (pc' := 41) (x' := y34) kc_14_40 rfl A33 rfl (xi_in (by omega) (by rw [hy3]; omega)) s34 (fun hh34 eh34 => ?_)
  have K35 := xk_pa K29 (xk_wa (by decide +kernel)) xD_117 hy34 ry34 eh34
  have R36 : xrp y34 6 (xup (fun r => st r 1) (Int32.toNatClampNeg x1) (v32 : Int32).toInt) := xrp_set R4 s34
  refine xi_aload_n (pc' := 42) (x := 115) kc_14_41 rfl rfl ?_
  have A37 := ((eh34.2.1 115 (by decide)).trans A31)
  refine xi_getfield (pc' := 45) (v := .ref 118) kc_14_42 rfl rfl rfl A37 rfl ?_
  refine xi_iload_n (pc' := 46) (x := x1) kc_14_45 rfl rfl ?_
  refine xi_iload_n (pc' := 47) (x := 5) kc_14_46 rfl rfl ?_
  refine xi_iconst (pc' := 48) (v := 2) kc_14_47 rfl rfl ?_
  refine xi_cmt (pc' := 55) kc_14_48 rfl rfl ?_
  refine xi_aload_n (pc' := 56) (x := 115) kc_14_55 rfl rfl ?_
  refine xi_getfield (pc' := 59) (v := .ref 118) kc_14_56 rfl rfl rfl A37 rfl ?_
  refine xi_iload_n (pc' := 60) (x := x1) kc_14_59 rfl rfl ?_
  obtain ⟨v38, ev38, bv38, dv38⟩ := xj_get hy5 ry5 (i := x1) (by omega) (by omega)
  have A39 := ((eh34.2.1 118 (by decide)).trans ((eh28.2.1 118 (by decide)).trans A5))
  refine xi_iaload (pc' := 61) (v := v38) kc_14_60 rfl A39 (by decide) rfl (xi_in (by omega) (by rw [hy5]; omega)) ev38 ?_
  have hlv38 : v38.toInt = st (Int32.toNatClampNeg x1) 2 := xrp_ld R6 (by omega) (by omega) ev38
  obtain ⟨y40, s40, hy40, ry40⟩ := xj_set (v := v38) hy5 ry5 x1 (by first | omega | decide) (by first | omega | decide)
  refine xi_iastore (pc' := 62) (x' := y40) kc_14_61 rfl A39 rfl (xi_in (by omega) (by rw [hy5]; omega)) s40 (fun hh40 eh40 => ?_)
  have K41 := xk_pa K35 (xk_wa (by decide +kernel)) xD_118 hy40 ry40 eh40
  have R42 : xrp y40 6 (xup (fun r => st r 2) (Int32.toNatClampNeg x1) (v38 : Int32).toInt) := xrp_set R6 s40
  refine xi_aload_n (pc' := 63) (x := 115) kc_14_62 rfl rfl ?_
  have A43 := ((eh40.2.1 115 (by decide)).trans A37)
  refine xi_getfield (pc' := 66) (v := .ref 119) kc_14_63 rfl rfl rfl A43 rfl ?_
  refine xi_iload_n (pc' := 67) (x := x1) kc_14_66 rfl rfl ?_
  refine xi_iload_n (pc' := 68) (x := 5) kc_14_67 rfl rfl ?_
  refine xi_iconst (pc' := 69) (v := 3) kc_14_68 rfl rfl ?_
  refine xi_cmt (pc' := 76) kc_14_69 rfl rfl ?_
  refine xi_aload_n (pc' := 77) (x := 115) kc_14_76 rfl rfl ?_
  refine xi_getfield (pc' := 80) (v := .ref 119) kc_14_77 rfl rfl rfl A43 rfl ?_
  refine xi_iload_n (pc' := 81) (x := x1) kc_14_80 rfl rfl ?_
  obtain ⟨v44, ev44, bv44, dv44⟩ := xj_get hy7 ry7 (i := x1) (by omega) (by omega)
  have A45 := ((eh40.2.1 119 (by decide)).trans ((eh34.2.1 119 (by decide)).trans ((eh28.2.1 119 (by decide)).trans A7)))
  refine xi_iaload (pc' := 82) (v := v44) kc_14_81 rfl A45 (by decide) rfl (xi_in (by omega) (by rw [hy7]; omega)) ev44 ?_
  have hlv44 : v44.toInt = st (Int32.toNatClampNeg x1) 3 := xrp_ld R8 (by omega) (by omega) ev44
  obtain ⟨y46, s46, hy46, ry46⟩ := xj_set (v := v44) hy7 ry7 x1 (by first | omega | decide) (by first | omega | decide)
  refine xi_iastore (pc' := 83) (x' := y46) kc_14_82 rfl A45 rfl (xi_in (by omega) (by rw [hy7]; omega)) s46 (fun hh46 eh46 => ?_)
  have K47 := xk_pa K41 (xk_wa (by decide +kernel)) xD_119 hy46 ry46 eh46
  have R48 : xrp y46 6 (xup (fun r => st r 3) (Int32.toNatClampNeg x1) (v44 : Int32).toInt) := xrp_set R8 s46
  refine xi_aload_n (pc' := 84) (x := 115) kc_14_83 rfl rfl ?_
  have A49 := ((eh46.2.1 115 (by decide)).trans A43)
  refine xi_getfield (pc' := 87) (v := .ref 120) kc_14_84 rfl rfl rfl A49 rfl ?_
  refine xi_iload_n (pc' := 88) (x := x1) kc_14_87 rfl rfl ?_
  refine xi_iload_n (pc' := 89) (x := 5) kc_14_88 rfl rfl ?_
  refine xi_iconst (pc' := 90) (v := 4) kc_14_89 rfl rfl ?_
  refine xi_cmt (pc' := 97) kc_14_90 rfl rfl ?_
  refine xi_aload_n (pc' := 98) (x := 115) kc_14_97 rfl rfl ?_
  refine xi_getfield (pc' := 101) (v := .ref 120) kc_14_98 rfl rfl rfl A49 rfl ?_
  refine xi_iload_n (pc' := 102) (x := x1) kc_14_101 rfl rfl ?_
  obtain ⟨v50, ev50, bv50, dv50⟩ := xj_get hy9 ry9 (i := x1) (by omega) (by omega)
  have A51 := ((eh46.2.1 120 (by decide)).trans ((eh40.2.1 120 (by decide)).trans ((eh34.2.1 120 (by decide)).trans ((eh28.2.1 120 (by decide)).trans A9))))
  refine xi_iaload (pc' := 103) (v := v50) kc_14_102 rfl A51 (by decide) rfl (xi_in (by omega) (by rw [hy9]; omega)) ev50 ?_
  have hlv50 : v50.toInt = st (Int32.toNatClampNeg x1) 4 := xrp_ld R10 (by omega) (by omega) ev50
  obtain ⟨y52, s52, hy52, ry52⟩ := xj_set (v := v50) hy9 ry9 x1 (by first | omega | decide) (by first | omega | decide)
  refine xi_iastore (pc' := 104) (x' := y52) kc_14_103 rfl A51 rfl (xi_in (by omega) (by rw [hy9]; omega)) s52 (fun hh52 eh52 => ?_)
  have K53 := xk_pa K47 (xk_wa (by decide +kernel)) xD_120 hy52 ry52 eh52
  have R54 : xrp y52 6 (xup (fun r => st r 4) (Int32.toNatClampNeg x1) (v50 : Int32).toInt) := xrp_set R10 s52
  refine xi_aload_n (pc' := 105) (x := 115) kc_14_104 rfl rfl ?_
  have A55 := ((eh52.2.1 115 (by decide)).trans A49)
  refine xi_getfield (pc' := 108) (v := .ref 121) kc_14_105 rfl rfl rfl A55 rfl ?_
  refine xi_iload_n (pc' := 109) (x := x1) kc_14_108 rfl rfl ?_
  refine xi_iload_n (pc' := 110) (x := 5) kc_14_109 rfl rfl ?_
  refine xi_iconst (pc' := 111) (v := 5) kc_14_110 rfl rfl ?_
  refine xi_cmf (pc' := 114) kc_14_111 rfl rfl ?_
  refine xi_iload_n (pc' := 115) (x := x3) kc_14_114 rfl rfl ?_
  refine xi_goto (pc' := 124) kc_14_115 rfl ?_
  have A56 := ((eh52.2.1 121 (by decide)).trans ((eh46.2.1 121 (by decide)).trans ((eh40.2.1 121 (by decide)).trans ((eh34.2.1 121 (by decide)).trans ((eh28.2.1 121 (by decide)).trans A11)))))
  obtain ⟨y57, s57, hy57, ry57⟩ := xj_set (v := x3) hy11 ry11 x1 (by first | omega | decide) (by first | omega | decide)
  refine xi_iastore (pc' := 125) (x' := y57) kc_14_124 rfl A56 rfl (xi_in (by omega) (by rw [hy11]; omega)) s57 (fun hh57 eh57 => ?_)
  have K58 := xk_pa K53 (xk_wa (by decide +kernel)) xD_121 hy57 ry57 eh57
  have R59 : xrp y57 6 (xup w (Int32.toNatClampNeg x1) (x3 : Int32).toInt) := xrp_set R12 s57
  refine xi_aload_n (pc' := 126) (x := 115) kc_14_125 rfl rfl ?_
  refine xi_iconst (pc' := 127) (v := 0) kc_14_126 rfl rfl ?_
  have A60 := ((eh57.2.1 115 (by decide)).trans A55)
  refine xi_putfield (pc' := 130) (fs' := [.int u13, .int u14, .ref 116, .ref 117, .ref 118, .ref 119, .ref 120, .ref 121, .ref 122, .ref 123, .ref 124, .ref 125, .ref 126, .ref 127, .ref 128, .ref 129, .int u15, .ref 130, .int u16, .ref 131, .ref 132, .ref 133, .ref 134, .int u17, .ref 135, .ref 136, .ref 137, .ref 138, .ref 139, .ref 140, .ref 141, .ref 142, .int u18, .int u19, .int u20, .ref 143, .ref 144, .ref 145, .ref 146, .ref 147, .ref 148, .int 0, .ref 149, .ref 150, .ref 151, .int u22, .ref 152, .ref 153, .ref 154, .ref 155, .ref 156, .ref 157, .ref 158, .ref 159, .int u23, .ref 160, .int u24, .ref 161, .ref 162, .ref 163, .ref 164, .int u25, .ref 165, .ref 166]) kc_14_127 rfl rfl rfl A60 rfl rfl rfl (Nat.le_of_ble_eq_true rfl) rfl (fun hh62 eh61 => ?_)
  have K63 := xk_pf (k := 41) (v := 0) K58 (xk_wf (by decide +kernel)) xD_115 A60 rfl (by first | omega | decide) (by first | omega | decide) eh61 rfl
  refine xi_return kc_14_130 mr_14 ?_
  have A64 := ((eh61.2.1 116 (by decide)).trans ((eh57.2.1 116 (by decide)).trans ((eh52.2.1 116 (by decide)).trans ((eh46.2.1 116 (by decide)).trans ((eh40.2.1 116 (by decide)).trans ((eh34.2.1 116 (by decide)).trans eh28.1))))))
  have A65 := ((eh61.2.1 117 (by decide)).trans ((eh57.2.1 117 (by decide)).trans ((eh52.2.1 117 (by decide)).trans ((eh46.2.1 117 (by decide)).trans ((eh40.2.1 117 (by decide)).trans eh34.1)))))
  have A66 := ((eh61.2.1 118 (by decide)).trans ((eh57.2.1 118 (by decide)).trans ((eh52.2.1 118 (by decide)).trans ((eh46.2.1 118 (by decide)).trans eh40.1))))
  have A67 := ((eh61.2.1 119 (by decide)).trans ((eh57.2.1 119 (by decide)).trans ((eh52.2.1 119 (by decide)).trans eh46.1)))
  have A68 := ((eh61.2.1 120 (by decide)).trans ((eh57.2.1 120 (by decide)).trans eh52.1))
  have A69 := ((eh61.2.1 121 (by decide)).trans eh57.1)
  exact kk hh62 K63 ⟨(xra_mk A64 (xrp_fn R30 (xup_id (f := fun r => st r 0) (k := x1.toNatClampNeg) hlv27.symm))), (xra_mk A65 (xrp_fn R36 (xup_id (f := fun r => st r 1) (k := x1.toNatClampNeg) hlv32.symm))), (xra_mk A66 (xrp_fn R42 (xup_id (f := fun r => st r 2) (k := x1.toNatClampNeg) hlv38.symm))), (xra_mk A67 (xrp_fn R48 (xup_id (f := fun r => st r 3) (k := x1.toNatClampNeg) hlv44.symm))), (xra_mk A68 (xrp_fn R54 (xup_id (f := fun r => st r 4) (k := x1.toNatClampNeg) hlv50.symm)))⟩ (xra_mk A69 R59)
set_option maxHeartbeats 8000000 in
theorem pr_lp {J : xe_J} {ov : List (List Int32)} (hJ : ∀ d mj as h, mj ≠ xe_loff → J d mj as h = none) (hov1 : ov[1]? = some [10, 0, 0, 0, 0, 0]) (hov2 : ov[2]? = some [99, 30, 50, 50, 1, 99999]) {d : Nat} {Q : Option Value → xe_H → Prop} {h : xe_H} {C st : xFn} {gw : Nat → Int} {hr : Int} {x1 x4 : Int32} (T : xt h) (C0 : xcM h C) (hC : xcr C) (I5 : xr5 h st) (hq : xsq st) (IA : xra h 141 6 gw) (hw : xwr 6 99999 gw) (Fc : xfi h 115 32 (C 10 hr.toNat)) (b1 : 0 ≤ x1.toInt ∧ x1.toInt ≤ 5) (b4 : 0 ≤ x4.toInt ∧ x4.toInt ≤ 599) (eh : x4.toInt = hr) (kk : ∀ h' : xe_H, xk xP_15 h h' → xra h' 141 6 (xup gw x1.toNatClampNeg (xro (gw x1.toNatClampNeg) (xbh C hr ((x1.toNatClampNeg : Nat) : Int) (C 11 0).toNat + C (20 + x1.toNatClampNeg) (hr % 24).toNat) (st x1.toNatClampNeg 0) (st x1.toNatClampNeg 1) (st x1.toNatClampNeg 2 + (if st x1.toNatClampNeg 4 = 1 then st x1.toNatClampNeg 3 else 0)) (xho (C 10 hr.toNat)))) → Q none h') : ∀ (m : Nat) (x5 x6 : Int32), (0 ≤ x6.toInt ∧ x6.toInt ≤ C 11 0) → x5.toInt = gw x1.toNatClampNeg + C (20 + x1.toNatClampNeg) (hr % 24).toNat + xbh C hr ((x1.toNatClampNeg : Nat) : Int) x6.toNatClampNeg → 10 - x6.toInt < (m : Int) → xw J ov (d + 5) 37 (27, [(0, .ref 115), (1, .int x1), (2, .int 0), (3, .int 1), (4, .int x4), (5, .int x5), (6, .int x6)], [], h) Q := by
  intro m
  induction m with
  | zero => intro x5 x6 b6 hE hm; have c11 := hC.1; exfalso; omega
  | succ m ih =>
    intro x5 x6 b6 hE hm
    have c11 := hC.1
    have c10 := hC.2.2.2.2.1 hr.toNat (by omega)
    have qx1 := xj_tn b1.1
    have hmr := hC.2.2.2.2.2 x1.toNatClampNeg (by omega) (hr % 24).toNat (by omega)
    have hwr := hw x1.toNatClampNeg (by omega)
    have hqr := hq x1.toNatClampNeg (by omega)
    have qx6 := xj_tn b6.1
    have hbb := xbh_b (C := C) (hr := hr) (r := ((x1.toNatClampNeg : Nat) : Int)) hC.2.2.1 x6.toNatClampNeg (by omega)
    have b5 : 0 ≤ x5.toInt ∧ x5.toInt ≤ 110000 := by omega
    have K : xk xP_15 h h := xk_re T
    refine xi_iload (pc' := 29) (x := x6) kc_37_27 rfl rfl ?_
    refine xi_aload_n (pc' := 30) (x := 115) kc_37_29 rfl rfl ?_
    obtain ⟨u1, u2, u3, u4, u5, u6, u7, u8, u9, u10, u11, u12, u13, bu1, bu2, bu3, bu4, bu5, bu6, bu7, bu8, bu9, bu10, bu11, bu12, bu13, A14⟩ := xq_115 K.1
    have C15 : xcM h C := xcM_k C0 K (by decide +kernel)
    have hfu5 : u5.toInt = (C 11 0) := xfi_ld C15.1 A14 rfl
    have hfu8 : u8.toInt = (C 12 0) := xfi_ld C15.2.1 A14 rfl
    have hfu6 : u6.toInt = (C 10 hr.toNat) := xfi_ld (xfi_fr Fc (K.2.1 (115, 32) (by decide +kernel))) A14 rfl
    have bru6 : (-20) ≤ u6.toInt ∧ u6.toInt ≤ 99 := by omega
    refine xi_getfield (pc' := 33) (v := .int u5) kc_37_30 rfl rfl rfl A14 rfl ?_
    by_cases c16 : u5.toInt ≤ x6.toInt
    · refine xi_cmt (pc' := 93) kc_37_33 rfl (xc_ge_t (X := x6.toInt) (Y := u5.toInt) rfl rfl (by omega)) ?_
      refine xi_iload (pc' := 95) (x := x5) kc_37_93 rfl rfl ?_
      refine xi_static (mj := 39) (as := [.int x5]) (st1 := []) (lv0 := [(0, .int x5)]) kc_37_95 rfl rfl (Nat.le_of_ble_eq_true rfl) rfl rfl (Nat.le_of_ble_eq_true rfl) (hJ _ _ _ _ (by decide)) (xm_le ml_39 rfl) rfl ?_
      refine xi_iload_n (pc' := 1) (x := x5) kc_39_0 rfl rfl ?_
      refine xi_ift (pc' := 8) kc_39_1 rfl (xc_ge_t (X := x5.toInt) (Y := 0) rfl (by decide) (by omega)) ?_
      refine xi_iload_n (pc' := 9) (x := x5) kc_39_8 rfl rfl ?_
      refine xi_ldc (pc' := 11) (v := 99999) kc_39_9 rfl rfl ?_
      by_cases c17 : x5.toInt ≤ 99999
      · refine xi_cmt (pc' := 19) kc_39_11 rfl (xc_le_t (X := x5.toInt) (Y := 99999) rfl (by decide) (by omega)) ?_
        refine xi_iload_n (pc' := 20) (x := x5) kc_39_19 rfl rfl ?_
        refine xi_ireturn kc_39_20 mr_39 rfl ?_
        show xw J ov (d + 5) 37 (98, [(0, .ref 115), (1, .int x1), (2, .int 0), (3, .int 1), (4, .int x4), (5, .int x5), (6, .int x6)], [.int x5], h) _
        refine xi_istore (pc' := 100) (lv' := [(5, .int x5), (0, .ref 115), (1, .int x1), (2, .int 0), (3, .int 1), (4, .int x4), (6, .int x6)]) kc_37_98 rfl rfl (xm_lt ml_37 rfl) ?_
        refine xi_aload_n (pc' := 101) (x := 115) kc_37_100 rfl rfl ?_
        refine xi_getfield (pc' := 104) (v := .ref 116) kc_37_101 rfl rfl rfl A14 rfl ?_
        refine xi_iload_n (pc' := 105) (x := x1) kc_37_104 rfl rfl ?_
        obtain ⟨y18, A18, hy18, ry18⟩ := xk_arr K.1 xD_116
        have R19 : xrp y18 6 (fun r => st r 0) := xra_ld (xr5_k I5 K (by decide +kernel)).1 A18
        obtain ⟨v20, ev20, bv20, dv20⟩ := xj_get hy18 ry18 (i := x1) (by omega) (by omega)
        refine xi_iaload (pc' := 106) (v := v20) kc_37_105 rfl A18 (by decide) rfl (xi_in (by omega) (by rw [hy18]; omega)) ev20 ?_
        have hlv20 : v20.toInt = st (Int32.toNatClampNeg x1) 0 := xrp_ld R19 (by omega) (by omega) ev20
        refine xi_aload_n (pc' := 107) (x := 115) kc_37_106 rfl rfl ?_
        refine xi_getfield (pc' := 110) (v := .int u6) kc_37_107 rfl rfl rfl A14 rfl ?_
        refine xi_static (mj := 22) (as := [.int u6]) (st1 := [.int v20]) (lv0 := [(0, .int u6)]) kc_37_110 rfl rfl (Nat.le_of_ble_eq_true rfl) rfl rfl (Nat.le_of_ble_eq_true rfl) (hJ _ _ _ _ (by decide)) (xm_le ml_22 rfl) rfl ?_
        refine xw_gm hJ hov1 hov2 (d := d + 2) (x0 := u6) (by omega) (fun r21 hr21 br21 => ?_)
        show xw J ov (d + 5) 37 (113, [(5, .int x5), (0, .ref 115), (1, .int x1), (2, .int 0), (3, .int 1), (4, .int x4), (6, .int x6)], [.int r21, .int v20], h) _
        obtain ⟨v22, ev22⟩ : ∃ q : Int32, (v20 : Int32) * r21 = q := ⟨_, rfl⟩
        have rv22 := xc_rng v22
        refine xi_imul (pc' := 114) (v := v22) kc_37_113 rfl ev22 ?_
        refine xi_iconst (pc' := 115) (v := 2) kc_37_114 rfl rfl ?_
        obtain ⟨v23, ev23⟩ : ∃ q : Int32, v22 / 2 = q := ⟨_, rfl⟩
        have dv23 : 2 * v23.toInt ≤ v22.toInt + 1 ∧ v22.toInt ≤ 2 * v23.toInt + 1 := by rw [← ev23]; exact xz_div (X := v22.toInt) (Y := 2) rfl (by decide) (by decide)
        have bv23 : -1073741825 ≤ v23.toInt ∧ v23.toInt ≤ 1073741824 := by omega
        refine xi_idiv (pc' := 116) (v := v23) kc_37_115 rfl ev23 (by decide) ?_
        refine xi_istore (pc' := 118) (lv' := [(6, .int v23), (5, .int x5), (0, .ref 115), (1, .int x1), (2, .int 0), (3, .int 1), (4, .int x4)]) kc_37_116 rfl rfl (xm_lt ml_37 rfl) ?_
        refine xi_iload (pc' := 120) (x := x5) kc_37_118 rfl rfl ?_
        refine xi_iload (pc' := 122) (x := x5) kc_37_120 rfl rfl ?_
        refine xi_iload (pc' := 124) (x := v23) kc_37_122 rfl rfl ?_
        obtain ⟨v24, ev24⟩ : ∃ q : Int32, x5 - v23 = q := ⟨_, rfl⟩
        have zv24 : v24.toInt = (x5.toInt + (-1) * v23.toInt) := by rw [← ev24]; exact (xz_sub (X := x5.toInt) (Y := v23.toInt) rfl rfl (by omega) (by omega)).trans (by omega)
        refine xi_isub (pc' := 125) (v := v24) kc_37_124 rfl ev24 ?_
        refine xi_aload_n (pc' := 126) (x := 115) kc_37_125 rfl rfl ?_
        refine xi_getfield (pc' := 129) (v := .ref 118) kc_37_126 rfl rfl rfl A14 rfl ?_
        refine xi_iload_n (pc' := 130) (x := x1) kc_37_129 rfl rfl ?_
        obtain ⟨y25, A25, hy25, ry25⟩ := xk_arr K.1 xD_118
        have R26 : xrp y25 6 (fun r => st r 2) := xra_ld (xr5_k I5 K (by decide +kernel)).2.2.1 A25
        obtain ⟨v27, ev27, bv27, dv27⟩ := xj_get hy25 ry25 (i := x1) (by omega) (by omega)
        refine xi_iaload (pc' := 131) (v := v27) kc_37_130 rfl A25 (by decide) rfl (xi_in (by omega) (by rw [hy25]; omega)) ev27 ?_
        have hlv27 : v27.toInt = st (Int32.toNatClampNeg x1) 2 := xrp_ld R26 (by omega) (by omega) ev27
        refine xi_aload_n (pc' := 132) (x := 115) kc_37_131 rfl rfl ?_
        refine xi_getfield (pc' := 135) (v := .ref 120) kc_37_132 rfl rfl rfl A14 rfl ?_
        refine xi_iload_n (pc' := 136) (x := x1) kc_37_135 rfl rfl ?_
        obtain ⟨y28, A28, hy28, ry28⟩ := xk_arr K.1 xD_120
        have R29 : xrp y28 6 (fun r => st r 4) := xra_ld (xr5_k I5 K (by decide +kernel)).2.2.2.2 A28
        obtain ⟨v30, ev30, bv30, dv30⟩ := xj_get hy28 ry28 (i := x1) (by omega) (by omega)
        refine xi_iaload (pc' := 137) (v := v30) kc_37_136 rfl A28 (by decide) rfl (xi_in (by omega) (by rw [hy28]; omega)) ev30 ?_
        have hlv30 : v30.toInt = st (Int32.toNatClampNeg x1) 4 := xrp_ld R29 (by omega) (by omega) ev30
        refine xi_iconst (pc' := 138) (v := 1) kc_37_137 rfl rfl ?_
        by_cases c31 : v30.toInt = 1
        · refine xi_cmf (pc' := 141) kc_37_138 rfl (xc_ne_f (X := v30.toInt) (Y := 1) rfl (by decide) (by omega)) ?_
          refine xi_aload_n (pc' := 142) (x := 115) kc_37_141 rfl rfl ?_
          refine xi_getfield (pc' := 145) (v := .ref 119) kc_37_142 rfl rfl rfl A14 rfl ?_
          refine xi_iload_n (pc' := 146) (x := x1) kc_37_145 rfl rfl ?_
          obtain ⟨y32, A32, hy32, ry32⟩ := xk_arr K.1 xD_119
          have R33 : xrp y32 6 (fun r => st r 3) := xra_ld (xr5_k I5 K (by decide +kernel)).2.2.2.1 A32
          obtain ⟨v34, ev34, bv34, dv34⟩ := xj_get hy32 ry32 (i := x1) (by omega) (by omega)
          refine xi_iaload (pc' := 147) (v := v34) kc_37_146 rfl A32 (by decide) rfl (xi_in (by omega) (by rw [hy32]; omega)) ev34 ?_
          have hlv34 : v34.toInt = st (Int32.toNatClampNeg x1) 3 := xrp_ld R33 (by omega) (by omega) ev34
          refine xi_goto (pc' := 151) kc_37_147 rfl ?_
          obtain ⟨v35, ev35⟩ : ∃ q : Int32, v27 + v34 = q := ⟨_, rfl⟩
          have zv35 : v35.toInt = (v27.toInt + v34.toInt) := by rw [← ev35]; exact (xz_add (X := v27.toInt) (Y := v34.toInt) rfl rfl (by omega) (by omega)).trans (by omega)
          refine xi_iadd (pc' := 152) (v := v35) kc_37_151 rfl ev35 ?_
          obtain ⟨v36, ev36⟩ : ∃ q : Int32, (v24 : Int32) * v35 = q := ⟨_, rfl⟩
          have rv36 := xc_rng v36
          refine xi_imul (pc' := 153) (v := v36) kc_37_152 rfl ev36 ?_
          refine xi_bipush (pc' := 155) (v := 100) kc_37_153 rfl rfl ?_
          obtain ⟨v37, ev37⟩ : ∃ q : Int32, v36 / 100 = q := ⟨_, rfl⟩
          have dv37 : 100 * v37.toInt ≤ v36.toInt + 99 ∧ v36.toInt ≤ 100 * v37.toInt + 99 := by rw [← ev37]; exact xz_div (X := v36.toInt) (Y := 100) rfl (by decide) (by decide)
          have bv37 : -21474837 ≤ v37.toInt ∧ v37.toInt ≤ 21474837 := by omega
          refine xi_idiv (pc' := 156) (v := v37) kc_37_155 rfl ev37 (by decide) ?_
          obtain ⟨v38, ev38⟩ : ∃ q : Int32, x5 - v37 = q := ⟨_, rfl⟩
          have zv38 : v38.toInt = (x5.toInt + (-1) * v37.toInt) := by rw [← ev38]; exact (xz_sub (X := x5.toInt) (Y := v37.toInt) rfl rfl (by omega) (by omega)).trans (by omega)
          refine xi_isub (pc' := 157) (v := v38) kc_37_156 rfl ev38 ?_
          have e6 : x6.toNatClampNeg = (C 11 0).toNat := by omega
          rw [e6] at hE
          have zc99999 : (99999 : Int32).toInt = 99999 := by decide
          have ew : (x5 : Int32).toInt = xcap (gw x1.toNatClampNeg + (xbh C hr ((x1.toNatClampNeg : Nat) : Int) (C 11 0).toNat + C (20 + x1.toNatClampNeg) (hr % 24).toNat)) := xcap_is (fun z => by omega) (fun z => by omega)
          have ec : (v35 : Int32).toInt = st x1.toNatClampNeg 2 + (if st x1.toNatClampNeg 4 = 1 then st x1.toNatClampNeg 3 else 0) := by rw [if_pos (show st x1.toNatClampNeg 4 = 1 by omega)]; omega
          have hcb := xho_b c10.1 c10.2
          have ehc : (r21 : Int32).toInt = xho (C 10 hr.toNat) := by rw [hr21, show (u6 : Int32).toInt = C 10 hr.toNat by omega]
          have hbe := xbh_b (C := C) (hr := hr) (r := ((x1.toNatClampNeg : Nat) : Int)) hC.2.2.1 (C 11 0).toNat (by omega)
          obtain ⟨ha1, ha2⟩ := xair1 ew (show (v20 : Int32).toInt = st x1.toNatClampNeg 0 by omega) ehc ec (xcap_b (by omega)) hqr.1 ⟨by omega, by omega⟩ (xc_of_fan hq (show x1.toNatClampNeg < 6 by omega)) ev22 ev23 ev24 ev36 ev37 ev38
          refine xi_static (mj := 39) (as := [.int v38]) (st1 := []) (lv0 := [(0, .int v38)]) kc_37_157 rfl rfl (Nat.le_of_ble_eq_true rfl) rfl rfl (Nat.le_of_ble_eq_true rfl) (hJ _ _ _ _ (by decide)) (xm_le ml_39 rfl) rfl ?_
          refine xi_iload_n (pc' := 1) (x := v38) kc_39_0 rfl rfl ?_
          by_cases c39 : 0 ≤ (x5.toInt + (-1) * v37.toInt)
          · refine xi_ift (pc' := 8) kc_39_1 rfl (xc_ge_t (X := (x5.toInt + (-1) * v37.toInt)) (Y := 0) zv38 (by decide) (by omega)) ?_
            refine xi_iload_n (pc' := 9) (x := v38) kc_39_8 rfl rfl ?_
            refine xi_ldc (pc' := 11) (v := 99999) kc_39_9 rfl rfl ?_
            by_cases c40 : (x5.toInt + (-1) * v37.toInt) ≤ 99999
            · refine xi_cmt (pc' := 19) kc_39_11 rfl (xc_le_t (X := (x5.toInt + (-1) * v37.toInt)) (Y := 99999) zv38 (by decide) (by omega)) ?_
              refine xi_iload_n (pc' := 20) (x := v38) kc_39_19 rfl rfl ?_
              refine xi_ireturn kc_39_20 mr_39 rfl ?_
              show xw J ov (d + 5) 37 (160, [(6, .int v23), (5, .int x5), (0, .ref 115), (1, .int x1), (2, .int 0), (3, .int 1), (4, .int x4)], [.int v38], h) _
              refine xi_istore (pc' := 162) (lv' := [(5, .int v38), (6, .int v23), (0, .ref 115), (1, .int x1), (2, .int 0), (3, .int 1), (4, .int x4)]) kc_37_160 rfl rfl (xm_lt ml_37 rfl) ?_
              refine xi_aload_n (pc' := 163) (x := 115) kc_37_162 rfl rfl ?_
              refine xi_getfield (pc' := 166) (v := .ref 116) kc_37_163 rfl rfl rfl A14 rfl ?_
              refine xi_iload_n (pc' := 167) (x := x1) kc_37_166 rfl rfl ?_
              refine xi_iaload (pc' := 168) (v := v20) kc_37_167 rfl A18 (by decide) rfl (xi_in (by omega) (by rw [hy18]; omega)) ev20 ?_
              refine xi_aload_n (pc' := 169) (x := 115) kc_37_168 rfl rfl ?_
              refine xi_getfield (pc' := 172) (v := .ref 117) kc_37_169 rfl rfl rfl A14 rfl ?_
              refine xi_iload_n (pc' := 173) (x := x1) kc_37_172 rfl rfl ?_
              obtain ⟨y41, A41, hy41, ry41⟩ := xk_arr K.1 xD_117
              have R42 : xrp y41 6 (fun r => st r 1) := xra_ld (xr5_k I5 K (by decide +kernel)).2.1 A41
              obtain ⟨v43, ev43, bv43, dv43⟩ := xj_get hy41 ry41 (i := x1) (by omega) (by omega)
              refine xi_iaload (pc' := 174) (v := v43) kc_37_173 rfl A41 (by decide) rfl (xi_in (by omega) (by rw [hy41]; omega)) ev43 ?_
              have hlv43 : v43.toInt = st (Int32.toNatClampNeg x1) 1 := xrp_ld R42 (by omega) (by omega) ev43
              refine xi_static (mj := 22) (as := [.int v43]) (st1 := [.int v20]) (lv0 := [(0, .int v43)]) kc_37_174 rfl rfl (Nat.le_of_ble_eq_true rfl) rfl rfl (Nat.le_of_ble_eq_true rfl) (hJ _ _ _ _ (by decide)) (xm_le ml_22 rfl) rfl ?_
              refine xw_gm hJ hov1 hov2 (d := d + 2) (x0 := v43) (by omega) (fun r44 hr44 br44 => ?_)
              show xw J ov (d + 5) 37 (177, [(5, .int v38), (6, .int v23), (0, .ref 115), (1, .int x1), (2, .int 0), (3, .int 1), (4, .int x4)], [.int r44, .int v20], h) _
              obtain ⟨v45, ev45⟩ : ∃ q : Int32, (v20 : Int32) * r44 = q := ⟨_, rfl⟩
              have rv45 := xc_rng v45
              refine xi_imul (pc' := 178) (v := v45) kc_37_177 rfl ev45 ?_
              have eg : (r44 : Int32).toInt = xho (st x1.toNatClampNeg 1) := by rw [hr44, show (v43 : Int32).toInt = st x1.toNatClampNeg 1 by omega]
              obtain ⟨hb1, hb2⟩ := xair2 (show (v20 : Int32).toInt = st x1.toNatClampNeg 0 by omega) eg hqr.1 ⟨by omega, by omega⟩ ev45
              have hv := xro_v ha1 hb1
              refine xi_istore (pc' := 180) (lv' := [(7, .int v45), (5, .int v38), (6, .int v23), (0, .ref 115), (1, .int x1), (2, .int 0), (3, .int 1), (4, .int x4)]) kc_37_178 rfl rfl (xm_lt ml_37 rfl) ?_
              refine xi_iload (pc' := 182) (x := v38) kc_37_180 rfl rfl ?_
              refine xi_iload (pc' := 184) (x := v45) kc_37_182 rfl rfl ?_
              by_cases c46 : (x5.toInt + (-1) * v37.toInt) ≤ v45.toInt
              · refine xi_cmt (pc' := 195) kc_37_184 rfl (xc_le_t (X := (x5.toInt + (-1) * v37.toInt)) (Y := v45.toInt) zv38 rfl (by omega)) ?_
                refine xi_iconst (pc' := 196) (v := 0) kc_37_195 rfl rfl ?_
                refine xi_istore (pc' := 198) (lv' := [(8, .int 0), (7, .int v45), (5, .int v38), (6, .int v23), (0, .ref 115), (1, .int x1), (2, .int 0), (3, .int 1), (4, .int x4)]) kc_37_196 rfl rfl (xm_lt ml_37 rfl) ?_
                refine xi_aload_n (pc' := 199) (x := 115) kc_37_198 rfl rfl ?_
                refine xi_getfield (pc' := 202) (v := .ref 141) kc_37_199 rfl rfl rfl A14 rfl ?_
                refine xi_iload_n (pc' := 203) (x := x1) kc_37_202 rfl rfl ?_
                refine xi_iload (pc' := 205) (x := v38) kc_37_203 rfl rfl ?_
                refine xi_iload (pc' := 207) (x := 0) kc_37_205 rfl rfl ?_
                obtain ⟨v47, ev47⟩ : ∃ q : Int32, v38 - 0 = q := ⟨_, rfl⟩
                have zv47 : v47.toInt = (x5.toInt + (-1) * v37.toInt) := by rw [← ev47]; exact (xz_sub (X := (x5.toInt + (-1) * v37.toInt)) (Y := 0) zv38 (by decide) (by omega) (by omega)).trans (by omega)
                refine xi_isub (pc' := 208) (v := v47) kc_37_207 rfl ev47 ?_
                obtain ⟨y48, A48, hy48, ry48⟩ := xk_arr K.1 xD_141
                have R49 : xrp y48 6 gw := xra_ld IA A48
                obtain ⟨y50, s50, hy50, ry50⟩ := xj_set (v := v47) hy48 ry48 x1 (by first | omega | decide) (by first | omega | decide)
                refine xi_iastore (pc' := 209) (x' := y50) kc_37_208 rfl A48 rfl (xi_in (by omega) (by rw [hy48]; omega)) s50 (fun hh50 eh50 => ?_)
                have K51 := xk_pa K (xk_wa (by decide +kernel)) xD_141 hy50 ry50 eh50
                have R52 : xrp y50 6 (xup gw (Int32.toNatClampNeg x1) (v47 : Int32).toInt) := xrp_set R49 s50
                refine xi_iload (pc' := 211) (x := 0) kc_37_209 rfl rfl ?_
                refine xi_ift (pc' := 221) kc_37_211 rfl rfl ?_
                refine xi_return kc_37_221 mr_37 ?_
                have hsv : (v47 : Int32).toInt = (xro (gw x1.toNatClampNeg) (xbh C hr ((x1.toNatClampNeg : Nat) : Int) (C 11 0).toNat + C (20 + x1.toNatClampNeg) (hr % 24).toNat) (st x1.toNatClampNeg 0) (st x1.toNatClampNeg 1) (st x1.toNatClampNeg 2 + (if st x1.toNatClampNeg 4 = 1 then st x1.toNatClampNeg 3 else 0)) (xho (C 10 hr.toNat))) := (show (v47 : Int32).toInt = v38.toInt by omega).trans (hv.2 (by omega))
                have hR := R52
                rw [hsv] at hR
                exact kk hh50 K51 (xra_mk eh50.1 hR)
              · refine xi_cmf (pc' := 187) kc_37_184 rfl (xc_le_f (X := (x5.toInt + (-1) * v37.toInt)) (Y := v45.toInt) zv38 rfl (by omega)) ?_
                refine xi_iload (pc' := 189) (x := v38) kc_37_187 rfl rfl ?_
                refine xi_iload (pc' := 191) (x := v45) kc_37_189 rfl rfl ?_
                obtain ⟨v53, ev53⟩ : ∃ q : Int32, v38 - v45 = q := ⟨_, rfl⟩
                have zv53 : v53.toInt = (x5.toInt + (-1) * v37.toInt + (-1) * v45.toInt) := by rw [← ev53]; exact (xz_sub (X := (x5.toInt + (-1) * v37.toInt)) (Y := v45.toInt) zv38 rfl (by omega) (by omega)).trans (by omega)
                refine xi_isub (pc' := 192) (v := v53) kc_37_191 rfl ev53 ?_
                refine xi_goto (pc' := 196) kc_37_192 rfl ?_
                refine xi_istore (pc' := 198) (lv' := [(8, .int v53), (7, .int v45), (5, .int v38), (6, .int v23), (0, .ref 115), (1, .int x1), (2, .int 0), (3, .int 1), (4, .int x4)]) kc_37_196 rfl rfl (xm_lt ml_37 rfl) ?_
                refine xi_aload_n (pc' := 199) (x := 115) kc_37_198 rfl rfl ?_
                refine xi_getfield (pc' := 202) (v := .ref 141) kc_37_199 rfl rfl rfl A14 rfl ?_
                refine xi_iload_n (pc' := 203) (x := x1) kc_37_202 rfl rfl ?_
                refine xi_iload (pc' := 205) (x := v38) kc_37_203 rfl rfl ?_
                refine xi_iload (pc' := 207) (x := v53) kc_37_205 rfl rfl ?_
                obtain ⟨v54, ev54⟩ : ∃ q : Int32, v38 - v53 = q := ⟨_, rfl⟩
                have zv54 : v54.toInt = v45.toInt := by rw [← ev54]; exact (xz_sub (X := (x5.toInt + (-1) * v37.toInt)) (Y := (x5.toInt + (-1) * v37.toInt + (-1) * v45.toInt)) zv38 zv53 (by omega) (by omega)).trans (by omega)
                refine xi_isub (pc' := 208) (v := v54) kc_37_207 rfl ev54 ?_
                obtain ⟨y55, A55, hy55, ry55⟩ := xk_arr K.1 xD_141
                have R56 : xrp y55 6 gw := xra_ld IA A55
                obtain ⟨y57, s57, hy57, ry57⟩ := xj_set (v := v54) hy55 ry55 x1 (by first | omega | decide) (by first | omega | decide)
                refine xi_iastore (pc' := 209) (x' := y57) kc_37_208 rfl A55 rfl (xi_in (by omega) (by rw [hy55]; omega)) s57 (fun hh57 eh57 => ?_)
                have K58 := xk_pa K (xk_wa (by decide +kernel)) xD_141 hy57 ry57 eh57
                have R59 : xrp y57 6 (xup gw (Int32.toNatClampNeg x1) (v54 : Int32).toInt) := xrp_set R56 s57
                refine xi_iload (pc' := 211) (x := v53) kc_37_209 rfl rfl ?_
                refine xi_iff (pc' := 214) kc_37_211 rfl (xc_le_f (X := (x5.toInt + (-1) * v37.toInt + (-1) * v45.toInt)) (Y := 0) zv53 (by decide) (by omega)) ?_
                refine xi_aload_n (pc' := 215) (x := 115) kc_37_214 rfl rfl ?_
                refine xi_iload_n (pc' := 216) (x := x1) kc_37_215 rfl rfl ?_
                refine xi_iload (pc' := 218) (x := v53) kc_37_216 rfl rfl ?_
                have A60 := ((eh57.2.1 115 (by decide)).trans A14)
                refine xi_virtual (mj := 40) (as := [.int x1, .int v53]) (st1 := []) (lv0 := [(0, .ref 115), (1, .int x1), (2, .int v53)]) kc_37_218 rfl rfl rfl rfl rfl A60 (Nat.le_of_ble_eq_true rfl) (hJ _ _ _ _ (by decide)) (xm_le ml_40 rfl) rfl ?_
                refine mt_40_0 hJ hov1 hov2 (d := d + 2) (x1 := x1) (x2 := v53) K58.1 (by first | omega | decide) (by first | omega | decide) (fun hh62 K63 => ?_)
                have A64 := ((eh57.2.1 116 (by decide)).trans A18)
                have A65 := ((eh57.2.1 118 (by decide)).trans A25)
                have A66 := ((eh57.2.1 120 (by decide)).trans A28)
                have A67 := ((eh57.2.1 119 (by decide)).trans A32)
                have A68 := ((eh57.2.1 117 (by decide)).trans A41)
                have K69 := xk_tr K58 K63 (xsb_ok _ _ (by decide +kernel))
                obtain ⟨u70, u71, u72, u73, u74, u75, u76, u77, u78, u79, u80, u81, u82, bu70, bu71, bu72, bu73, bu74, bu75, bu76, bu77, bu78, bu79, bu80, bu81, bu82, A83⟩ := xq_115 K69.1
                have C84 : xcM hh62 C := xcM_k C0 K69 (by decide +kernel)
                have hfu74 : u74.toInt = (C 11 0) := xfi_ld C84.1 A83 rfl
                have hfu77 : u77.toInt = (C 12 0) := xfi_ld C84.2.1 A83 rfl
                have hfu75 : u75.toInt = (C 10 hr.toNat) := xfi_ld (xfi_fr Fc (K69.2.1 (115, 32) (by decide +kernel))) A83 rfl
                have bru75 : (-20) ≤ u75.toInt ∧ u75.toInt ≤ 99 := by omega
                have e85 : u2 = u71 := xk_eqi (q := 1) K63 (by decide +kernel) A60 A83 rfl rfl
                subst e85
                have e86 : u5 = u74 := xk_eqi (q := 23) K63 (by decide +kernel) A60 A83 rfl rfl
                subst e86
                have e87 : u8 = u77 := xk_eqi (q := 34) K63 (by decide +kernel) A60 A83 rfl rfl
                subst e87
                have e88 : u6 = u75 := xk_eqi (q := 32) K63 (by decide +kernel) A60 A83 rfl rfl
                subst e88
                have A89 := xk_eqa (q := 0) K63 (by decide +kernel) A64
                have A90 := xk_eqa (q := 0) K63 (by decide +kernel) A65
                have A91 := xk_eqa (q := 0) K63 (by decide +kernel) A66
                have A92 := xk_eqa (q := 0) K63 (by decide +kernel) A67
                have A93 := xk_eqa (q := 0) K63 (by decide +kernel) A68
                have A94 := xk_eqa (q := 0) K63 (by decide +kernel) eh57.1
                show xw J ov (d + 5) 37 (221, [(8, .int v53), (7, .int v45), (5, .int v38), (6, .int v23), (0, .ref 115), (1, .int x1), (2, .int 0), (3, .int 1), (4, .int x4)], [], hh62) _
                refine xi_return kc_37_221 mr_37 ?_
                have hsv : (v54 : Int32).toInt = (xro (gw x1.toNatClampNeg) (xbh C hr ((x1.toNatClampNeg : Nat) : Int) (C 11 0).toNat + C (20 + x1.toNatClampNeg) (hr % 24).toNat) (st x1.toNatClampNeg 0) (st x1.toNatClampNeg 1) (st x1.toNatClampNeg 2 + (if st x1.toNatClampNeg 4 = 1 then st x1.toNatClampNeg 3 else 0)) (xho (C 10 hr.toNat))) := (show (v54 : Int32).toInt = v45.toInt by omega).trans (hv.1 (by omega))
                have hR := R59
                rw [hsv] at hR
                exact kk hh62 K69 (xra_mk A94 hR)
            · refine xi_cmf (pc' := 14) kc_39_11 rfl (xc_le_f (X := (x5.toInt + (-1) * v37.toInt)) (Y := 99999) zv38 (by decide) (by omega)) ?_
              refine xi_ldc (pc' := 16) (v := 99999) kc_39_14 rfl rfl ?_
              refine xi_goto (pc' := 20) kc_39_16 rfl ?_
              refine xi_ireturn kc_39_20 mr_39 rfl ?_
              show xw J ov (d + 5) 37 (160, [(6, .int v23), (5, .int x5), (0, .ref 115), (1, .int x1), (2, .int 0), (3, .int 1), (4, .int x4)], [.int 99999], h) _
              refine xi_istore (pc' := 162) (lv' := [(5, .int 99999), (6, .int v23), (0, .ref 115), (1, .int x1), (2, .int 0), (3, .int 1), (4, .int x4)]) kc_37_160 rfl rfl (xm_lt ml_37 rfl) ?_
              refine xi_aload_n (pc' := 163) (x := 115) kc_37_162 rfl rfl ?_
              refine xi_getfield (pc' := 166) (v := .ref 116) kc_37_163 rfl rfl rfl A14 rfl ?_
              refine xi_iload_n (pc' := 167) (x := x1) kc_37_166 rfl rfl ?_
              refine xi_iaload (pc' := 168) (v := v20) kc_37_167 rfl A18 (by decide) rfl (xi_in (by omega) (by rw [hy18]; omega)) ev20 ?_
              refine xi_aload_n (pc' := 169) (x := 115) kc_37_168 rfl rfl ?_
              refine xi_getfield (pc' := 172) (v := .ref 117) kc_37_169 rfl rfl rfl A14 rfl ?_
              refine xi_iload_n (pc' := 173) (x := x1) kc_37_172 rfl rfl ?_
              obtain ⟨y95, A95, hy95, ry95⟩ := xk_arr K.1 xD_117
              have R96 : xrp y95 6 (fun r => st r 1) := xra_ld (xr5_k I5 K (by decide +kernel)).2.1 A95
              obtain ⟨v97, ev97, bv97, dv97⟩ := xj_get hy95 ry95 (i := x1) (by omega) (by omega)
              refine xi_iaload (pc' := 174) (v := v97) kc_37_173 rfl A95 (by decide) rfl (xi_in (by omega) (by rw [hy95]; omega)) ev97 ?_
              have hlv97 : v97.toInt = st (Int32.toNatClampNeg x1) 1 := xrp_ld R96 (by omega) (by omega) ev97
              refine xi_static (mj := 22) (as := [.int v97]) (st1 := [.int v20]) (lv0 := [(0, .int v97)]) kc_37_174 rfl rfl (Nat.le_of_ble_eq_true rfl) rfl rfl (Nat.le_of_ble_eq_true rfl) (hJ _ _ _ _ (by decide)) (xm_le ml_22 rfl) rfl ?_
              refine xw_gm hJ hov1 hov2 (d := d + 2) (x0 := v97) (by omega) (fun r98 hr98 br98 => ?_)
              show xw J ov (d + 5) 37 (177, [(5, .int 99999), (6, .int v23), (0, .ref 115), (1, .int x1), (2, .int 0), (3, .int 1), (4, .int x4)], [.int r98, .int v20], h) _
              obtain ⟨v99, ev99⟩ : ∃ q : Int32, (v20 : Int32) * r98 = q := ⟨_, rfl⟩
              have rv99 := xc_rng v99
              refine xi_imul (pc' := 178) (v := v99) kc_37_177 rfl ev99 ?_
              have eg : (r98 : Int32).toInt = xho (st x1.toNatClampNeg 1) := by rw [hr98, show (v97 : Int32).toInt = st x1.toNatClampNeg 1 by omega]
              obtain ⟨hb1, hb2⟩ := xair2 (show (v20 : Int32).toInt = st x1.toNatClampNeg 0 by omega) eg hqr.1 ⟨by omega, by omega⟩ ev99
              have hv := xro_v ha1 hb1
              refine xi_istore (pc' := 180) (lv' := [(7, .int v99), (5, .int 99999), (6, .int v23), (0, .ref 115), (1, .int x1), (2, .int 0), (3, .int 1), (4, .int x4)]) kc_37_178 rfl rfl (xm_lt ml_37 rfl) ?_
              refine xi_iload (pc' := 182) (x := 99999) kc_37_180 rfl rfl ?_
              refine xi_iload (pc' := 184) (x := v99) kc_37_182 rfl rfl ?_
              refine xi_cmf (pc' := 187) kc_37_184 rfl (xc_le_f (X := 99999) (Y := v99.toInt) (by decide) rfl (by omega)) ?_
              refine xi_iload (pc' := 189) (x := 99999) kc_37_187 rfl rfl ?_
              refine xi_iload (pc' := 191) (x := v99) kc_37_189 rfl rfl ?_
              obtain ⟨v100, ev100⟩ : ∃ q : Int32, 99999 - v99 = q := ⟨_, rfl⟩
              have zv100 : v100.toInt = ((-1) * v99.toInt + 99999) := by rw [← ev100]; exact (xz_sub (X := 99999) (Y := v99.toInt) (by decide) rfl (by omega) (by omega)).trans (by omega)
              refine xi_isub (pc' := 192) (v := v100) kc_37_191 rfl ev100 ?_
              refine xi_goto (pc' := 196) kc_37_192 rfl ?_
              refine xi_istore (pc' := 198) (lv' := [(8, .int v100), (7, .int v99), (5, .int 99999), (6, .int v23), (0, .ref 115), (1, .int x1), (2, .int 0), (3, .int 1), (4, .int x4)]) kc_37_196 rfl rfl (xm_lt ml_37 rfl) ?_
              refine xi_aload_n (pc' := 199) (x := 115) kc_37_198 rfl rfl ?_
              refine xi_getfield (pc' := 202) (v := .ref 141) kc_37_199 rfl rfl rfl A14 rfl ?_
              refine xi_iload_n (pc' := 203) (x := x1) kc_37_202 rfl rfl ?_
              refine xi_iload (pc' := 205) (x := 99999) kc_37_203 rfl rfl ?_
              refine xi_iload (pc' := 207) (x := v100) kc_37_205 rfl rfl ?_
              obtain ⟨v101, ev101⟩ : ∃ q : Int32, 99999 - v100 = q := ⟨_, rfl⟩
              have zv101 : v101.toInt = v99.toInt := by rw [← ev101]; exact (xz_sub (X := 99999) (Y := ((-1) * v99.toInt + 99999)) (by decide) zv100 (by omega) (by omega)).trans (by omega)
              refine xi_isub (pc' := 208) (v := v101) kc_37_207 rfl ev101 ?_
              obtain ⟨y102, A102, hy102, ry102⟩ := xk_arr K.1 xD_141
              have R103 : xrp y102 6 gw := xra_ld IA A102
              obtain ⟨y104, s104, hy104, ry104⟩ := xj_set (v := v101) hy102 ry102 x1 (by first | omega | decide) (by first | omega | decide)
              refine xi_iastore (pc' := 209) (x' := y104) kc_37_208 rfl A102 rfl (xi_in (by omega) (by rw [hy102]; omega)) s104 (fun hh104 eh104 => ?_)
              have K105 := xk_pa K (xk_wa (by decide +kernel)) xD_141 hy104 ry104 eh104
              have R106 : xrp y104 6 (xup gw (Int32.toNatClampNeg x1) (v101 : Int32).toInt) := xrp_set R103 s104
              refine xi_iload (pc' := 211) (x := v100) kc_37_209 rfl rfl ?_
              refine xi_iff (pc' := 214) kc_37_211 rfl (xc_le_f (X := ((-1) * v99.toInt + 99999)) (Y := 0) zv100 (by decide) (by omega)) ?_
              refine xi_aload_n (pc' := 215) (x := 115) kc_37_214 rfl rfl ?_
              refine xi_iload_n (pc' := 216) (x := x1) kc_37_215 rfl rfl ?_
              refine xi_iload (pc' := 218) (x := v100) kc_37_216 rfl rfl ?_
              have A107 := ((eh104.2.1 115 (by decide)).trans A14)
              refine xi_virtual (mj := 40) (as := [.int x1, .int v100]) (st1 := []) (lv0 := [(0, .ref 115), (1, .int x1), (2, .int v100)]) kc_37_218 rfl rfl rfl rfl rfl A107 (Nat.le_of_ble_eq_true rfl) (hJ _ _ _ _ (by decide)) (xm_le ml_40 rfl) rfl ?_
              refine mt_40_0 hJ hov1 hov2 (d := d + 2) (x1 := x1) (x2 := v100) K105.1 (by first | omega | decide) (by first | omega | decide) (fun hh109 K110 => ?_)
              have A111 := ((eh104.2.1 116 (by decide)).trans A18)
              have A112 := ((eh104.2.1 118 (by decide)).trans A25)
              have A113 := ((eh104.2.1 120 (by decide)).trans A28)
              have A114 := ((eh104.2.1 119 (by decide)).trans A32)
              have A115 := ((eh104.2.1 117 (by decide)).trans A95)
              have K116 := xk_tr K105 K110 (xsb_ok _ _ (by decide +kernel))
              obtain ⟨u117, u118, u119, u120, u121, u122, u123, u124, u125, u126, u127, u128, u129, bu117, bu118, bu119, bu120, bu121, bu122, bu123, bu124, bu125, bu126, bu127, bu128, bu129, A130⟩ := xq_115 K116.1
              have C131 : xcM hh109 C := xcM_k C0 K116 (by decide +kernel)
              have hfu121 : u121.toInt = (C 11 0) := xfi_ld C131.1 A130 rfl
              have hfu124 : u124.toInt = (C 12 0) := xfi_ld C131.2.1 A130 rfl
              have hfu122 : u122.toInt = (C 10 hr.toNat) := xfi_ld (xfi_fr Fc (K116.2.1 (115, 32) (by decide +kernel))) A130 rfl
              have bru122 : (-20) ≤ u122.toInt ∧ u122.toInt ≤ 99 := by omega
              have e132 : u2 = u118 := xk_eqi (q := 1) K110 (by decide +kernel) A107 A130 rfl rfl
              subst e132
              have e133 : u5 = u121 := xk_eqi (q := 23) K110 (by decide +kernel) A107 A130 rfl rfl
              subst e133
              have e134 : u8 = u124 := xk_eqi (q := 34) K110 (by decide +kernel) A107 A130 rfl rfl
              subst e134
              have e135 : u6 = u122 := xk_eqi (q := 32) K110 (by decide +kernel) A107 A130 rfl rfl
              subst e135
              have A136 := xk_eqa (q := 0) K110 (by decide +kernel) A111
              have A137 := xk_eqa (q := 0) K110 (by decide +kernel) A112
              have A138 := xk_eqa (q := 0) K110 (by decide +kernel) A113
              have A139 := xk_eqa (q := 0) K110 (by decide +kernel) A114
              have A140 := xk_eqa (q := 0) K110 (by decide +kernel) A115
              have A141 := xk_eqa (q := 0) K110 (by decide +kernel) eh104.1
              show xw J ov (d + 5) 37 (221, [(8, .int v100), (7, .int v99), (5, .int 99999), (6, .int v23), (0, .ref 115), (1, .int x1), (2, .int 0), (3, .int 1), (4, .int x4)], [], hh109) _
              refine xi_return kc_37_221 mr_37 ?_
              have hsv : (v101 : Int32).toInt = (xro (gw x1.toNatClampNeg) (xbh C hr ((x1.toNatClampNeg : Nat) : Int) (C 11 0).toNat + C (20 + x1.toNatClampNeg) (hr % 24).toNat) (st x1.toNatClampNeg 0) (st x1.toNatClampNeg 1) (st x1.toNatClampNeg 2 + (if st x1.toNatClampNeg 4 = 1 then st x1.toNatClampNeg 3 else 0)) (xho (C 10 hr.toNat))) := (show (v101 : Int32).toInt = v38.toInt by omega).trans (hv.2 (by omega))
              have hR := R106
              rw [hsv] at hR
              exact kk hh109 K116 (xra_mk A141 hR)
          · refine xi_iff (pc' := 4) kc_39_1 rfl (xc_ge_f (X := (x5.toInt + (-1) * v37.toInt)) (Y := 0) zv38 (by decide) (by omega)) ?_
            refine xi_iconst (pc' := 5) (v := 0) kc_39_4 rfl rfl ?_
            refine xi_goto (pc' := 20) kc_39_5 rfl ?_
            refine xi_ireturn kc_39_20 mr_39 rfl ?_
            show xw J ov (d + 5) 37 (160, [(6, .int v23), (5, .int x5), (0, .ref 115), (1, .int x1), (2, .int 0), (3, .int 1), (4, .int x4)], [.int 0], h) _
            refine xi_istore (pc' := 162) (lv' := [(5, .int 0), (6, .int v23), (0, .ref 115), (1, .int x1), (2, .int 0), (3, .int 1), (4, .int x4)]) kc_37_160 rfl rfl (xm_lt ml_37 rfl) ?_
            refine xi_aload_n (pc' := 163) (x := 115) kc_37_162 rfl rfl ?_
            refine xi_getfield (pc' := 166) (v := .ref 116) kc_37_163 rfl rfl rfl A14 rfl ?_
            refine xi_iload_n (pc' := 167) (x := x1) kc_37_166 rfl rfl ?_
            refine xi_iaload (pc' := 168) (v := v20) kc_37_167 rfl A18 (by decide) rfl (xi_in (by omega) (by rw [hy18]; omega)) ev20 ?_
            refine xi_aload_n (pc' := 169) (x := 115) kc_37_168 rfl rfl ?_
            refine xi_getfield (pc' := 172) (v := .ref 117) kc_37_169 rfl rfl rfl A14 rfl ?_
            refine xi_iload_n (pc' := 173) (x := x1) kc_37_172 rfl rfl ?_
            obtain ⟨y142, A142, hy142, ry142⟩ := xk_arr K.1 xD_117
            have R143 : xrp y142 6 (fun r => st r 1) := xra_ld (xr5_k I5 K (by decide +kernel)).2.1 A142
            obtain ⟨v144, ev144, bv144, dv144⟩ := xj_get hy142 ry142 (i := x1) (by omega) (by omega)
            refine xi_iaload (pc' := 174) (v := v144) kc_37_173 rfl A142 (by decide) rfl (xi_in (by omega) (by rw [hy142]; omega)) ev144 ?_
            have hlv144 : v144.toInt = st (Int32.toNatClampNeg x1) 1 := xrp_ld R143 (by omega) (by omega) ev144
            refine xi_static (mj := 22) (as := [.int v144]) (st1 := [.int v20]) (lv0 := [(0, .int v144)]) kc_37_174 rfl rfl (Nat.le_of_ble_eq_true rfl) rfl rfl (Nat.le_of_ble_eq_true rfl) (hJ _ _ _ _ (by decide)) (xm_le ml_22 rfl) rfl ?_
            refine xw_gm hJ hov1 hov2 (d := d + 2) (x0 := v144) (by omega) (fun r145 hr145 br145 => ?_)
            show xw J ov (d + 5) 37 (177, [(5, .int 0), (6, .int v23), (0, .ref 115), (1, .int x1), (2, .int 0), (3, .int 1), (4, .int x4)], [.int r145, .int v20], h) _
            obtain ⟨v146, ev146⟩ : ∃ q : Int32, (v20 : Int32) * r145 = q := ⟨_, rfl⟩
            have rv146 := xc_rng v146
            refine xi_imul (pc' := 178) (v := v146) kc_37_177 rfl ev146 ?_
            have eg : (r145 : Int32).toInt = xho (st x1.toNatClampNeg 1) := by rw [hr145, show (v144 : Int32).toInt = st x1.toNatClampNeg 1 by omega]
            obtain ⟨hb1, hb2⟩ := xair2 (show (v20 : Int32).toInt = st x1.toNatClampNeg 0 by omega) eg hqr.1 ⟨by omega, by omega⟩ ev146
            have hv := xro_v ha1 hb1
            refine xi_istore (pc' := 180) (lv' := [(7, .int v146), (5, .int 0), (6, .int v23), (0, .ref 115), (1, .int x1), (2, .int 0), (3, .int 1), (4, .int x4)]) kc_37_178 rfl rfl (xm_lt ml_37 rfl) ?_
            refine xi_iload (pc' := 182) (x := 0) kc_37_180 rfl rfl ?_
            refine xi_iload (pc' := 184) (x := v146) kc_37_182 rfl rfl ?_
            refine xi_cmt (pc' := 195) kc_37_184 rfl (xc_le_t (X := 0) (Y := v146.toInt) (by decide) rfl (by omega)) ?_
            refine xi_iconst (pc' := 196) (v := 0) kc_37_195 rfl rfl ?_
            refine xi_istore (pc' := 198) (lv' := [(8, .int 0), (7, .int v146), (5, .int 0), (6, .int v23), (0, .ref 115), (1, .int x1), (2, .int 0), (3, .int 1), (4, .int x4)]) kc_37_196 rfl rfl (xm_lt ml_37 rfl) ?_
            refine xi_aload_n (pc' := 199) (x := 115) kc_37_198 rfl rfl ?_
            refine xi_getfield (pc' := 202) (v := .ref 141) kc_37_199 rfl rfl rfl A14 rfl ?_
            refine xi_iload_n (pc' := 203) (x := x1) kc_37_202 rfl rfl ?_
            refine xi_iload (pc' := 205) (x := 0) kc_37_203 rfl rfl ?_
            refine xi_iload (pc' := 207) (x := 0) kc_37_205 rfl rfl ?_
            refine xi_isub (pc' := 208) (v := 0) kc_37_207 rfl rfl ?_
            obtain ⟨y147, A147, hy147, ry147⟩ := xk_arr K.1 xD_141
            have R148 : xrp y147 6 gw := xra_ld IA A147
            obtain ⟨y149, s149, hy149, ry149⟩ := xj_set (v := 0) hy147 ry147 x1 (by first | omega | decide) (by first | omega | decide)
            refine xi_iastore (pc' := 209) (x' := y149) kc_37_208 rfl A147 rfl (xi_in (by omega) (by rw [hy147]; omega)) s149 (fun hh149 eh149 => ?_)
            have K150 := xk_pa K (xk_wa (by decide +kernel)) xD_141 hy149 ry149 eh149
            have R151 : xrp y149 6 (xup gw (Int32.toNatClampNeg x1) (0 : Int32).toInt) := xrp_set R148 s149
            refine xi_iload (pc' := 211) (x := 0) kc_37_209 rfl rfl ?_
            refine xi_ift (pc' := 221) kc_37_211 rfl rfl ?_
            refine xi_return kc_37_221 mr_37 ?_
            have hsv : (0 : Int32).toInt = (xro (gw x1.toNatClampNeg) (xbh C hr ((x1.toNatClampNeg : Nat) : Int) (C 11 0).toNat + C (20 + x1.toNatClampNeg) (hr % 24).toNat) (st x1.toNatClampNeg 0) (st x1.toNatClampNeg 1) (st x1.toNatClampNeg 2 + (if st x1.toNatClampNeg 4 = 1 then st x1.toNatClampNeg 3 else 0)) (xho (C 10 hr.toNat))) := (show (0 : Int32).toInt = v38.toInt by omega).trans (hv.2 (by omega))
            have hR := R151
            rw [hsv] at hR
            exact kk hh149 K150 (xra_mk eh149.1 hR)
        · refine xi_cmt (pc' := 150) kc_37_138 rfl (xc_ne_t (X := v30.toInt) (Y := 1) rfl (by decide) (by omega)) ?_
          refine xi_iconst (pc' := 151) (v := 0) kc_37_150 rfl rfl ?_
          obtain ⟨v152, ev152⟩ : ∃ q : Int32, v27 + 0 = q := ⟨_, rfl⟩
          have zv152 : v152.toInt = v27.toInt := by rw [← ev152]; exact (xz_add (X := v27.toInt) (Y := 0) rfl (by decide) (by omega) (by omega)).trans (by omega)
          refine xi_iadd (pc' := 152) (v := v152) kc_37_151 rfl ev152 ?_
          obtain ⟨v153, ev153⟩ : ∃ q : Int32, (v24 : Int32) * v152 = q := ⟨_, rfl⟩
          have rv153 := xc_rng v153
          refine xi_imul (pc' := 153) (v := v153) kc_37_152 rfl ev153 ?_
          refine xi_bipush (pc' := 155) (v := 100) kc_37_153 rfl rfl ?_
          obtain ⟨v154, ev154⟩ : ∃ q : Int32, v153 / 100 = q := ⟨_, rfl⟩
          have dv154 : 100 * v154.toInt ≤ v153.toInt + 99 ∧ v153.toInt ≤ 100 * v154.toInt + 99 := by rw [← ev154]; exact xz_div (X := v153.toInt) (Y := 100) rfl (by decide) (by decide)
          have bv154 : -21474837 ≤ v154.toInt ∧ v154.toInt ≤ 21474837 := by omega
          refine xi_idiv (pc' := 156) (v := v154) kc_37_155 rfl ev154 (by decide) ?_
          obtain ⟨v155, ev155⟩ : ∃ q : Int32, x5 - v154 = q := ⟨_, rfl⟩
          have zv155 : v155.toInt = (x5.toInt + (-1) * v154.toInt) := by rw [← ev155]; exact (xz_sub (X := x5.toInt) (Y := v154.toInt) rfl rfl (by omega) (by omega)).trans (by omega)
          refine xi_isub (pc' := 157) (v := v155) kc_37_156 rfl ev155 ?_
          have e6 : x6.toNatClampNeg = (C 11 0).toNat := by omega
          rw [e6] at hE
          have zc99999 : (99999 : Int32).toInt = 99999 := by decide
          have ew : (x5 : Int32).toInt = xcap (gw x1.toNatClampNeg + (xbh C hr ((x1.toNatClampNeg : Nat) : Int) (C 11 0).toNat + C (20 + x1.toNatClampNeg) (hr % 24).toNat)) := xcap_is (fun z => by omega) (fun z => by omega)
          have ec : (v152 : Int32).toInt = st x1.toNatClampNeg 2 + (if st x1.toNatClampNeg 4 = 1 then st x1.toNatClampNeg 3 else 0) := by rw [if_neg (show ¬ st x1.toNatClampNeg 4 = 1 by omega)]; omega
          have hcb := xho_b c10.1 c10.2
          have ehc : (r21 : Int32).toInt = xho (C 10 hr.toNat) := by rw [hr21, show (u6 : Int32).toInt = C 10 hr.toNat by omega]
          have hbe := xbh_b (C := C) (hr := hr) (r := ((x1.toNatClampNeg : Nat) : Int)) hC.2.2.1 (C 11 0).toNat (by omega)
          obtain ⟨ha1, ha2⟩ := xair1 ew (show (v20 : Int32).toInt = st x1.toNatClampNeg 0 by omega) ehc ec (xcap_b (by omega)) hqr.1 ⟨by omega, by omega⟩ (xc_of_fan hq (show x1.toNatClampNeg < 6 by omega)) ev22 ev23 ev24 ev153 ev154 ev155
          refine xi_static (mj := 39) (as := [.int v155]) (st1 := []) (lv0 := [(0, .int v155)]) kc_37_157 rfl rfl (Nat.le_of_ble_eq_true rfl) rfl rfl (Nat.le_of_ble_eq_true rfl) (hJ _ _ _ _ (by decide)) (xm_le ml_39 rfl) rfl ?_
          refine xi_iload_n (pc' := 1) (x := v155) kc_39_0 rfl rfl ?_
          by_cases c156 : 0 ≤ (x5.toInt + (-1) * v154.toInt)
          · refine xi_ift (pc' := 8) kc_39_1 rfl (xc_ge_t (X := (x5.toInt + (-1) * v154.toInt)) (Y := 0) zv155 (by decide) (by omega)) ?_
            refine xi_iload_n (pc' := 9) (x := v155) kc_39_8 rfl rfl ?_
            refine xi_ldc (pc' := 11) (v := 99999) kc_39_9 rfl rfl ?_
            by_cases c157 : (x5.toInt + (-1) * v154.toInt) ≤ 99999
            · refine xi_cmt (pc' := 19) kc_39_11 rfl (xc_le_t (X := (x5.toInt + (-1) * v154.toInt)) (Y := 99999) zv155 (by decide) (by omega)) ?_
              refine xi_iload_n (pc' := 20) (x := v155) kc_39_19 rfl rfl ?_
              refine xi_ireturn kc_39_20 mr_39 rfl ?_
              show xw J ov (d + 5) 37 (160, [(6, .int v23), (5, .int x5), (0, .ref 115), (1, .int x1), (2, .int 0), (3, .int 1), (4, .int x4)], [.int v155], h) _
              refine xi_istore (pc' := 162) (lv' := [(5, .int v155), (6, .int v23), (0, .ref 115), (1, .int x1), (2, .int 0), (3, .int 1), (4, .int x4)]) kc_37_160 rfl rfl (xm_lt ml_37 rfl) ?_
              refine xi_aload_n (pc' := 163) (x := 115) kc_37_162 rfl rfl ?_
              refine xi_getfield (pc' := 166) (v := .ref 116) kc_37_163 rfl rfl rfl A14 rfl ?_
              refine xi_iload_n (pc' := 167) (x := x1) kc_37_166 rfl rfl ?_
              refine xi_iaload (pc' := 168) (v := v20) kc_37_167 rfl A18 (by decide) rfl (xi_in (by omega) (by rw [hy18]; omega)) ev20 ?_
              refine xi_aload_n (pc' := 169) (x := 115) kc_37_168 rfl rfl ?_
              refine xi_getfield (pc' := 172) (v := .ref 117) kc_37_169 rfl rfl rfl A14 rfl ?_
              refine xi_iload_n (pc' := 173) (x := x1) kc_37_172 rfl rfl ?_
              obtain ⟨y158, A158, hy158, ry158⟩ := xk_arr K.1 xD_117
              have R159 : xrp y158 6 (fun r => st r 1) := xra_ld (xr5_k I5 K (by decide +kernel)).2.1 A158
              obtain ⟨v160, ev160, bv160, dv160⟩ := xj_get hy158 ry158 (i := x1) (by omega) (by omega)
              refine xi_iaload (pc' := 174) (v := v160) kc_37_173 rfl A158 (by decide) rfl (xi_in (by omega) (by rw [hy158]; omega)) ev160 ?_
              have hlv160 : v160.toInt = st (Int32.toNatClampNeg x1) 1 := xrp_ld R159 (by omega) (by omega) ev160
              refine xi_static (mj := 22) (as := [.int v160]) (st1 := [.int v20]) (lv0 := [(0, .int v160)]) kc_37_174 rfl rfl (Nat.le_of_ble_eq_true rfl) rfl rfl (Nat.le_of_ble_eq_true rfl) (hJ _ _ _ _ (by decide)) (xm_le ml_22 rfl) rfl ?_
              refine xw_gm hJ hov1 hov2 (d := d + 2) (x0 := v160) (by omega) (fun r161 hr161 br161 => ?_)
              show xw J ov (d + 5) 37 (177, [(5, .int v155), (6, .int v23), (0, .ref 115), (1, .int x1), (2, .int 0), (3, .int 1), (4, .int x4)], [.int r161, .int v20], h) _
              obtain ⟨v162, ev162⟩ : ∃ q : Int32, (v20 : Int32) * r161 = q := ⟨_, rfl⟩
              have rv162 := xc_rng v162
              refine xi_imul (pc' := 178) (v := v162) kc_37_177 rfl ev162 ?_
              have eg : (r161 : Int32).toInt = xho (st x1.toNatClampNeg 1) := by rw [hr161, show (v160 : Int32).toInt = st x1.toNatClampNeg 1 by omega]
              obtain ⟨hb1, hb2⟩ := xair2 (show (v20 : Int32).toInt = st x1.toNatClampNeg 0 by omega) eg hqr.1 ⟨by omega, by omega⟩ ev162
              have hv := xro_v ha1 hb1
              refine xi_istore (pc' := 180) (lv' := [(7, .int v162), (5, .int v155), (6, .int v23), (0, .ref 115), (1, .int x1), (2, .int 0), (3, .int 1), (4, .int x4)]) kc_37_178 rfl rfl (xm_lt ml_37 rfl) ?_
              refine xi_iload (pc' := 182) (x := v155) kc_37_180 rfl rfl ?_
              refine xi_iload (pc' := 184) (x := v162) kc_37_182 rfl rfl ?_
              by_cases c163 : (x5.toInt + (-1) * v154.toInt) ≤ v162.toInt
              · refine xi_cmt (pc' := 195) kc_37_184 rfl (xc_le_t (X := (x5.toInt + (-1) * v154.toInt)) (Y := v162.toInt) zv155 rfl (by omega)) ?_
                refine xi_iconst (pc' := 196) (v := 0) kc_37_195 rfl rfl ?_
                refine xi_istore (pc' := 198) (lv' := [(8, .int 0), (7, .int v162), (5, .int v155), (6, .int v23), (0, .ref 115), (1, .int x1), (2, .int 0), (3, .int 1), (4, .int x4)]) kc_37_196 rfl rfl (xm_lt ml_37 rfl) ?_
                refine xi_aload_n (pc' := 199) (x := 115) kc_37_198 rfl rfl ?_
                refine xi_getfield (pc' := 202) (v := .ref 141) kc_37_199 rfl rfl rfl A14 rfl ?_
                refine xi_iload_n (pc' := 203) (x := x1) kc_37_202 rfl rfl ?_
                refine xi_iload (pc' := 205) (x := v155) kc_37_203 rfl rfl ?_
                refine xi_iload (pc' := 207) (x := 0) kc_37_205 rfl rfl ?_
                obtain ⟨v164, ev164⟩ : ∃ q : Int32, v155 - 0 = q := ⟨_, rfl⟩
                have zv164 : v164.toInt = (x5.toInt + (-1) * v154.toInt) := by rw [← ev164]; exact (xz_sub (X := (x5.toInt + (-1) * v154.toInt)) (Y := 0) zv155 (by decide) (by omega) (by omega)).trans (by omega)
                refine xi_isub (pc' := 208) (v := v164) kc_37_207 rfl ev164 ?_
                obtain ⟨y165, A165, hy165, ry165⟩ := xk_arr K.1 xD_141
                have R166 : xrp y165 6 gw := xra_ld IA A165
                obtain ⟨y167, s167, hy167, ry167⟩ := xj_set (v := v164) hy165 ry165 x1 (by first | omega | decide) (by first | omega | decide)
                refine xi_iastore (pc' := 209) (x' := y167) kc_37_208 rfl A165 rfl (xi_in (by omega) (by rw [hy165]; omega)) s167 (fun hh167 eh167 => ?_)
                have K168 := xk_pa K (xk_wa (by decide +kernel)) xD_141 hy167 ry167 eh167
                have R169 : xrp y167 6 (xup gw (Int32.toNatClampNeg x1) (v164 : Int32).toInt) := xrp_set R166 s167
                refine xi_iload (pc' := 211) (x := 0) kc_37_209 rfl rfl ?_
                refine xi_ift (pc' := 221) kc_37_211 rfl rfl ?_
                refine xi_return kc_37_221 mr_37 ?_
                have hsv : (v164 : Int32).toInt = (xro (gw x1.toNatClampNeg) (xbh C hr ((x1.toNatClampNeg : Nat) : Int) (C 11 0).toNat + C (20 + x1.toNatClampNeg) (hr % 24).toNat) (st x1.toNatClampNeg 0) (st x1.toNatClampNeg 1) (st x1.toNatClampNeg 2 + (if st x1.toNatClampNeg 4 = 1 then st x1.toNatClampNeg 3 else 0)) (xho (C 10 hr.toNat))) := (show (v164 : Int32).toInt = v155.toInt by omega).trans (hv.2 (by omega))
                have hR := R169
                rw [hsv] at hR
                exact kk hh167 K168 (xra_mk eh167.1 hR)
              · refine xi_cmf (pc' := 187) kc_37_184 rfl (xc_le_f (X := (x5.toInt + (-1) * v154.toInt)) (Y := v162.toInt) zv155 rfl (by omega)) ?_
                refine xi_iload (pc' := 189) (x := v155) kc_37_187 rfl rfl ?_
                refine xi_iload (pc' := 191) (x := v162) kc_37_189 rfl rfl ?_
                obtain ⟨v170, ev170⟩ : ∃ q : Int32, v155 - v162 = q := ⟨_, rfl⟩
                have zv170 : v170.toInt = (x5.toInt + (-1) * v154.toInt + (-1) * v162.toInt) := by rw [← ev170]; exact (xz_sub (X := (x5.toInt + (-1) * v154.toInt)) (Y := v162.toInt) zv155 rfl (by omega) (by omega)).trans (by omega)
                refine xi_isub (pc' := 192) (v := v170) kc_37_191 rfl ev170 ?_
                refine xi_goto (pc' := 196) kc_37_192 rfl ?_
                refine xi_istore (pc' := 198) (lv' := [(8, .int v170), (7, .int v162), (5, .int v155), (6, .int v23), (0, .ref 115), (1, .int x1), (2, .int 0), (3, .int 1), (4, .int x4)]) kc_37_196 rfl rfl (xm_lt ml_37 rfl) ?_
                refine xi_aload_n (pc' := 199) (x := 115) kc_37_198 rfl rfl ?_
                refine xi_getfield (pc' := 202) (v := .ref 141) kc_37_199 rfl rfl rfl A14 rfl ?_
                refine xi_iload_n (pc' := 203) (x := x1) kc_37_202 rfl rfl ?_
                refine xi_iload (pc' := 205) (x := v155) kc_37_203 rfl rfl ?_
                refine xi_iload (pc' := 207) (x := v170) kc_37_205 rfl rfl ?_
                obtain ⟨v171, ev171⟩ : ∃ q : Int32, v155 - v170 = q := ⟨_, rfl⟩
                have zv171 : v171.toInt = v162.toInt := by rw [← ev171]; exact (xz_sub (X := (x5.toInt + (-1) * v154.toInt)) (Y := (x5.toInt + (-1) * v154.toInt + (-1) * v162.toInt)) zv155 zv170 (by omega) (by omega)).trans (by omega)
                refine xi_isub (pc' := 208) (v := v171) kc_37_207 rfl ev171 ?_
                obtain ⟨y172, A172, hy172, ry172⟩ := xk_arr K.1 xD_141
                have R173 : xrp y172 6 gw := xra_ld IA A172
                obtain ⟨y174, s174, hy174, ry174⟩ := xj_set (v := v171) hy172 ry172 x1 (by first | omega | decide) (by first | omega | decide)
                refine xi_iastore (pc' := 209) (x' := y174) kc_37_208 rfl A172 rfl (xi_in (by omega) (by rw [hy172]; omega)) s174 (fun hh174 eh174 => ?_)
                have K175 := xk_pa K (xk_wa (by decide +kernel)) xD_141 hy174 ry174 eh174
                have R176 : xrp y174 6 (xup gw (Int32.toNatClampNeg x1) (v171 : Int32).toInt) := xrp_set R173 s174
                refine xi_iload (pc' := 211) (x := v170) kc_37_209 rfl rfl ?_
                refine xi_iff (pc' := 214) kc_37_211 rfl (xc_le_f (X := (x5.toInt + (-1) * v154.toInt + (-1) * v162.toInt)) (Y := 0) zv170 (by decide) (by omega)) ?_
                refine xi_aload_n (pc' := 215) (x := 115) kc_37_214 rfl rfl ?_
                refine xi_iload_n (pc' := 216) (x := x1) kc_37_215 rfl rfl ?_
                refine xi_iload (pc' := 218) (x := v170) kc_37_216 rfl rfl ?_
                have A177 := ((eh174.2.1 115 (by decide)).trans A14)
                refine xi_virtual (mj := 40) (as := [.int x1, .int v170]) (st1 := []) (lv0 := [(0, .ref 115), (1, .int x1), (2, .int v170)]) kc_37_218 rfl rfl rfl rfl rfl A177 (Nat.le_of_ble_eq_true rfl) (hJ _ _ _ _ (by decide)) (xm_le ml_40 rfl) rfl ?_
                refine mt_40_0 hJ hov1 hov2 (d := d + 2) (x1 := x1) (x2 := v170) K175.1 (by first | omega | decide) (by first | omega | decide) (fun hh179 K180 => ?_)
                have A181 := ((eh174.2.1 116 (by decide)).trans A18)
                have A182 := ((eh174.2.1 118 (by decide)).trans A25)
                have A183 := ((eh174.2.1 120 (by decide)).trans A28)
                have A184 := ((eh174.2.1 117 (by decide)).trans A158)
                have K185 := xk_tr K175 K180 (xsb_ok _ _ (by decide +kernel))
                obtain ⟨u186, u187, u188, u189, u190, u191, u192, u193, u194, u195, u196, u197, u198, bu186, bu187, bu188, bu189, bu190, bu191, bu192, bu193, bu194, bu195, bu196, bu197, bu198, A199⟩ := xq_115 K185.1
                have C200 : xcM hh179 C := xcM_k C0 K185 (by decide +kernel)
                have hfu190 : u190.toInt = (C 11 0) := xfi_ld C200.1 A199 rfl
                have hfu193 : u193.toInt = (C 12 0) := xfi_ld C200.2.1 A199 rfl
                have hfu191 : u191.toInt = (C 10 hr.toNat) := xfi_ld (xfi_fr Fc (K185.2.1 (115, 32) (by decide +kernel))) A199 rfl
                have bru191 : (-20) ≤ u191.toInt ∧ u191.toInt ≤ 99 := by omega
                have e201 : u2 = u187 := xk_eqi (q := 1) K180 (by decide +kernel) A177 A199 rfl rfl
                subst e201
                have e202 : u5 = u190 := xk_eqi (q := 23) K180 (by decide +kernel) A177 A199 rfl rfl
                subst e202
                have e203 : u8 = u193 := xk_eqi (q := 34) K180 (by decide +kernel) A177 A199 rfl rfl
                subst e203
                have e204 : u6 = u191 := xk_eqi (q := 32) K180 (by decide +kernel) A177 A199 rfl rfl
                subst e204
                have A205 := xk_eqa (q := 0) K180 (by decide +kernel) A181
                have A206 := xk_eqa (q := 0) K180 (by decide +kernel) A182
                have A207 := xk_eqa (q := 0) K180 (by decide +kernel) A183
                have A208 := xk_eqa (q := 0) K180 (by decide +kernel) A184
                have A209 := xk_eqa (q := 0) K180 (by decide +kernel) eh174.1
                show xw J ov (d + 5) 37 (221, [(8, .int v170), (7, .int v162), (5, .int v155), (6, .int v23), (0, .ref 115), (1, .int x1), (2, .int 0), (3, .int 1), (4, .int x4)], [], hh179) _
                refine xi_return kc_37_221 mr_37 ?_
                have hsv : (v171 : Int32).toInt = (xro (gw x1.toNatClampNeg) (xbh C hr ((x1.toNatClampNeg : Nat) : Int) (C 11 0).toNat + C (20 + x1.toNatClampNeg) (hr % 24).toNat) (st x1.toNatClampNeg 0) (st x1.toNatClampNeg 1) (st x1.toNatClampNeg 2 + (if st x1.toNatClampNeg 4 = 1 then st x1.toNatClampNeg 3 else 0)) (xho (C 10 hr.toNat))) := (show (v171 : Int32).toInt = v162.toInt by omega).trans (hv.1 (by omega))
                have hR := R176
                rw [hsv] at hR
                exact kk hh179 K185 (xra_mk A209 hR)
            · refine xi_cmf (pc' := 14) kc_39_11 rfl (xc_le_f (X := (x5.toInt + (-1) * v154.toInt)) (Y := 99999) zv155 (by decide) (by omega)) ?_
              refine xi_ldc (pc' := 16) (v := 99999) kc_39_14 rfl rfl ?_
              refine xi_goto (pc' := 20) kc_39_16 rfl ?_
              refine xi_ireturn kc_39_20 mr_39 rfl ?_
              show xw J ov (d + 5) 37 (160, [(6, .int v23), (5, .int x5), (0, .ref 115), (1, .int x1), (2, .int 0), (3, .int 1), (4, .int x4)], [.int 99999], h) _
              refine xi_istore (pc' := 162) (lv' := [(5, .int 99999), (6, .int v23), (0, .ref 115), (1, .int x1), (2, .int 0), (3, .int 1), (4, .int x4)]) kc_37_160 rfl rfl (xm_lt ml_37 rfl) ?_
              refine xi_aload_n (pc' := 163) (x := 115) kc_37_162 rfl rfl ?_
              refine xi_getfield (pc' := 166) (v := .ref 116) kc_37_163 rfl rfl rfl A14 rfl ?_
              refine xi_iload_n (pc' := 167) (x := x1) kc_37_166 rfl rfl ?_
              refine xi_iaload (pc' := 168) (v := v20) kc_37_167 rfl A18 (by decide) rfl (xi_in (by omega) (by rw [hy18]; omega)) ev20 ?_
              refine xi_aload_n (pc' := 169) (x := 115) kc_37_168 rfl rfl ?_
              refine xi_getfield (pc' := 172) (v := .ref 117) kc_37_169 rfl rfl rfl A14 rfl ?_
              refine xi_iload_n (pc' := 173) (x := x1) kc_37_172 rfl rfl ?_
              obtain ⟨y210, A210, hy210, ry210⟩ := xk_arr K.1 xD_117
              have R211 : xrp y210 6 (fun r => st r 1) := xra_ld (xr5_k I5 K (by decide +kernel)).2.1 A210
              obtain ⟨v212, ev212, bv212, dv212⟩ := xj_get hy210 ry210 (i := x1) (by omega) (by omega)
              refine xi_iaload (pc' := 174) (v := v212) kc_37_173 rfl A210 (by decide) rfl (xi_in (by omega) (by rw [hy210]; omega)) ev212 ?_
              have hlv212 : v212.toInt = st (Int32.toNatClampNeg x1) 1 := xrp_ld R211 (by omega) (by omega) ev212
              refine xi_static (mj := 22) (as := [.int v212]) (st1 := [.int v20]) (lv0 := [(0, .int v212)]) kc_37_174 rfl rfl (Nat.le_of_ble_eq_true rfl) rfl rfl (Nat.le_of_ble_eq_true rfl) (hJ _ _ _ _ (by decide)) (xm_le ml_22 rfl) rfl ?_
              refine xw_gm hJ hov1 hov2 (d := d + 2) (x0 := v212) (by omega) (fun r213 hr213 br213 => ?_)
              show xw J ov (d + 5) 37 (177, [(5, .int 99999), (6, .int v23), (0, .ref 115), (1, .int x1), (2, .int 0), (3, .int 1), (4, .int x4)], [.int r213, .int v20], h) _
              obtain ⟨v214, ev214⟩ : ∃ q : Int32, (v20 : Int32) * r213 = q := ⟨_, rfl⟩
              have rv214 := xc_rng v214
              refine xi_imul (pc' := 178) (v := v214) kc_37_177 rfl ev214 ?_
              have eg : (r213 : Int32).toInt = xho (st x1.toNatClampNeg 1) := by rw [hr213, show (v212 : Int32).toInt = st x1.toNatClampNeg 1 by omega]
              obtain ⟨hb1, hb2⟩ := xair2 (show (v20 : Int32).toInt = st x1.toNatClampNeg 0 by omega) eg hqr.1 ⟨by omega, by omega⟩ ev214
              have hv := xro_v ha1 hb1
              refine xi_istore (pc' := 180) (lv' := [(7, .int v214), (5, .int 99999), (6, .int v23), (0, .ref 115), (1, .int x1), (2, .int 0), (3, .int 1), (4, .int x4)]) kc_37_178 rfl rfl (xm_lt ml_37 rfl) ?_
              refine xi_iload (pc' := 182) (x := 99999) kc_37_180 rfl rfl ?_
              refine xi_iload (pc' := 184) (x := v214) kc_37_182 rfl rfl ?_
              refine xi_cmf (pc' := 187) kc_37_184 rfl (xc_le_f (X := 99999) (Y := v214.toInt) (by decide) rfl (by omega)) ?_
              refine xi_iload (pc' := 189) (x := 99999) kc_37_187 rfl rfl ?_
              refine xi_iload (pc' := 191) (x := v214) kc_37_189 rfl rfl ?_
              obtain ⟨v215, ev215⟩ : ∃ q : Int32, 99999 - v214 = q := ⟨_, rfl⟩
              have zv215 : v215.toInt = ((-1) * v214.toInt + 99999) := by rw [← ev215]; exact (xz_sub (X := 99999) (Y := v214.toInt) (by decide) rfl (by omega) (by omega)).trans (by omega)
              refine xi_isub (pc' := 192) (v := v215) kc_37_191 rfl ev215 ?_
              refine xi_goto (pc' := 196) kc_37_192 rfl ?_
              refine xi_istore (pc' := 198) (lv' := [(8, .int v215), (7, .int v214), (5, .int 99999), (6, .int v23), (0, .ref 115), (1, .int x1), (2, .int 0), (3, .int 1), (4, .int x4)]) kc_37_196 rfl rfl (xm_lt ml_37 rfl) ?_
              refine xi_aload_n (pc' := 199) (x := 115) kc_37_198 rfl rfl ?_
              refine xi_getfield (pc' := 202) (v := .ref 141) kc_37_199 rfl rfl rfl A14 rfl ?_
              refine xi_iload_n (pc' := 203) (x := x1) kc_37_202 rfl rfl ?_
              refine xi_iload (pc' := 205) (x := 99999) kc_37_203 rfl rfl ?_
              refine xi_iload (pc' := 207) (x := v215) kc_37_205 rfl rfl ?_
              obtain ⟨v216, ev216⟩ : ∃ q : Int32, 99999 - v215 = q := ⟨_, rfl⟩
              have zv216 : v216.toInt = v214.toInt := by rw [← ev216]; exact (xz_sub (X := 99999) (Y := ((-1) * v214.toInt + 99999)) (by decide) zv215 (by omega) (by omega)).trans (by omega)
              refine xi_isub (pc' := 208) (v := v216) kc_37_207 rfl ev216 ?_
              obtain ⟨y217, A217, hy217, ry217⟩ := xk_arr K.1 xD_141
              have R218 : xrp y217 6 gw := xra_ld IA A217
              obtain ⟨y219, s219, hy219, ry219⟩ := xj_set (v := v216) hy217 ry217 x1 (by first | omega | decide) (by first | omega | decide)
              refine xi_iastore (pc' := 209) (x' := y219) kc_37_208 rfl A217 rfl (xi_in (by omega) (by rw [hy217]; omega)) s219 (fun hh219 eh219 => ?_)
              have K220 := xk_pa K (xk_wa (by decide +kernel)) xD_141 hy219 ry219 eh219
              have R221 : xrp y219 6 (xup gw (Int32.toNatClampNeg x1) (v216 : Int32).toInt) := xrp_set R218 s219
              refine xi_iload (pc' := 211) (x := v215) kc_37_209 rfl rfl ?_
              refine xi_iff (pc' := 214) kc_37_211 rfl (xc_le_f (X := ((-1) * v214.toInt + 99999)) (Y := 0) zv215 (by decide) (by omega)) ?_
              refine xi_aload_n (pc' := 215) (x := 115) kc_37_214 rfl rfl ?_
              refine xi_iload_n (pc' := 216) (x := x1) kc_37_215 rfl rfl ?_
              refine xi_iload (pc' := 218) (x := v215) kc_37_216 rfl rfl ?_
              have A222 := ((eh219.2.1 115 (by decide)).trans A14)
              refine xi_virtual (mj := 40) (as := [.int x1, .int v215]) (st1 := []) (lv0 := [(0, .ref 115), (1, .int x1), (2, .int v215)]) kc_37_218 rfl rfl rfl rfl rfl A222 (Nat.le_of_ble_eq_true rfl) (hJ _ _ _ _ (by decide)) (xm_le ml_40 rfl) rfl ?_
              refine mt_40_0 hJ hov1 hov2 (d := d + 2) (x1 := x1) (x2 := v215) K220.1 (by first | omega | decide) (by first | omega | decide) (fun hh224 K225 => ?_)
              have A226 := ((eh219.2.1 116 (by decide)).trans A18)
              have A227 := ((eh219.2.1 118 (by decide)).trans A25)
              have A228 := ((eh219.2.1 120 (by decide)).trans A28)
              have A229 := ((eh219.2.1 117 (by decide)).trans A210)
              have K230 := xk_tr K220 K225 (xsb_ok _ _ (by decide +kernel))
              obtain ⟨u231, u232, u233, u234, u235, u236, u237, u238, u239, u240, u241, u242, u243, bu231, bu232, bu233, bu234, bu235, bu236, bu237, bu238, bu239, bu240, bu241, bu242, bu243, A244⟩ := xq_115 K230.1
              have C245 : xcM hh224 C := xcM_k C0 K230 (by decide +kernel)
              have hfu235 : u235.toInt = (C 11 0) := xfi_ld C245.1 A244 rfl
              have hfu238 : u238.toInt = (C 12 0) := xfi_ld C245.2.1 A244 rfl
              have hfu236 : u236.toInt = (C 10 hr.toNat) := xfi_ld (xfi_fr Fc (K230.2.1 (115, 32) (by decide +kernel))) A244 rfl
              have bru236 : (-20) ≤ u236.toInt ∧ u236.toInt ≤ 99 := by omega
              have e246 : u2 = u232 := xk_eqi (q := 1) K225 (by decide +kernel) A222 A244 rfl rfl
              subst e246
              have e247 : u5 = u235 := xk_eqi (q := 23) K225 (by decide +kernel) A222 A244 rfl rfl
              subst e247
              have e248 : u8 = u238 := xk_eqi (q := 34) K225 (by decide +kernel) A222 A244 rfl rfl
              subst e248
              have e249 : u6 = u236 := xk_eqi (q := 32) K225 (by decide +kernel) A222 A244 rfl rfl
              subst e249
              have A250 := xk_eqa (q := 0) K225 (by decide +kernel) A226
              have A251 := xk_eqa (q := 0) K225 (by decide +kernel) A227
              have A252 := xk_eqa (q := 0) K225 (by decide +kernel) A228
              have A253 := xk_eqa (q := 0) K225 (by decide +kernel) A229
              have A254 := xk_eqa (q := 0) K225 (by decide +kernel) eh219.1
              show xw J ov (d + 5) 37 (221, [(8, .int v215), (7, .int v214), (5, .int 99999), (6, .int v23), (0, .ref 115), (1, .int x1), (2, .int 0), (3, .int 1), (4, .int x4)], [], hh224) _
              refine xi_return kc_37_221 mr_37 ?_
              have hsv : (v216 : Int32).toInt = (xro (gw x1.toNatClampNeg) (xbh C hr ((x1.toNatClampNeg : Nat) : Int) (C 11 0).toNat + C (20 + x1.toNatClampNeg) (hr % 24).toNat) (st x1.toNatClampNeg 0) (st x1.toNatClampNeg 1) (st x1.toNatClampNeg 2 + (if st x1.toNatClampNeg 4 = 1 then st x1.toNatClampNeg 3 else 0)) (xho (C 10 hr.toNat))) := (show (v216 : Int32).toInt = v155.toInt by omega).trans (hv.2 (by omega))
              have hR := R221
              rw [hsv] at hR
              exact kk hh224 K230 (xra_mk A254 hR)
          · refine xi_iff (pc' := 4) kc_39_1 rfl (xc_ge_f (X := (x5.toInt + (-1) * v154.toInt)) (Y := 0) zv155 (by decide) (by omega)) ?_
            refine xi_iconst (pc' := 5) (v := 0) kc_39_4 rfl rfl ?_
            refine xi_goto (pc' := 20) kc_39_5 rfl ?_
            refine xi_ireturn kc_39_20 mr_39 rfl ?_
            show xw J ov (d + 5) 37 (160, [(6, .int v23), (5, .int x5), (0, .ref 115), (1, .int x1), (2, .int 0), (3, .int 1), (4, .int x4)], [.int 0], h) _
            refine xi_istore (pc' := 162) (lv' := [(5, .int 0), (6, .int v23), (0, .ref 115), (1, .int x1), (2, .int 0), (3, .int 1), (4, .int x4)]) kc_37_160 rfl rfl (xm_lt ml_37 rfl) ?_
            refine xi_aload_n (pc' := 163) (x := 115) kc_37_162 rfl rfl ?_
            refine xi_getfield (pc' := 166) (v := .ref 116) kc_37_163 rfl rfl rfl A14 rfl ?_
            refine xi_iload_n (pc' := 167) (x := x1) kc_37_166 rfl rfl ?_
            refine xi_iaload (pc' := 168) (v := v20) kc_37_167 rfl A18 (by decide) rfl (xi_in (by omega) (by rw [hy18]; omega)) ev20 ?_
            refine xi_aload_n (pc' := 169) (x := 115) kc_37_168 rfl rfl ?_
            refine xi_getfield (pc' := 172) (v := .ref 117) kc_37_169 rfl rfl rfl A14 rfl ?_
            refine xi_iload_n (pc' := 173) (x := x1) kc_37_172 rfl rfl ?_
            obtain ⟨y255, A255, hy255, ry255⟩ := xk_arr K.1 xD_117
            have R256 : xrp y255 6 (fun r => st r 1) := xra_ld (xr5_k I5 K (by decide +kernel)).2.1 A255
            obtain ⟨v257, ev257, bv257, dv257⟩ := xj_get hy255 ry255 (i := x1) (by omega) (by omega)
            refine xi_iaload (pc' := 174) (v := v257) kc_37_173 rfl A255 (by decide) rfl (xi_in (by omega) (by rw [hy255]; omega)) ev257 ?_
            have hlv257 : v257.toInt = st (Int32.toNatClampNeg x1) 1 := xrp_ld R256 (by omega) (by omega) ev257
            refine xi_static (mj := 22) (as := [.int v257]) (st1 := [.int v20]) (lv0 := [(0, .int v257)]) kc_37_174 rfl rfl (Nat.le_of_ble_eq_true rfl) rfl rfl (Nat.le_of_ble_eq_true rfl) (hJ _ _ _ _ (by decide)) (xm_le ml_22 rfl) rfl ?_
            refine xw_gm hJ hov1 hov2 (d := d + 2) (x0 := v257) (by omega) (fun r258 hr258 br258 => ?_)
            show xw J ov (d + 5) 37 (177, [(5, .int 0), (6, .int v23), (0, .ref 115), (1, .int x1), (2, .int 0), (3, .int 1), (4, .int x4)], [.int r258, .int v20], h) _
            obtain ⟨v259, ev259⟩ : ∃ q : Int32, (v20 : Int32) * r258 = q := ⟨_, rfl⟩
            have rv259 := xc_rng v259
            refine xi_imul (pc' := 178) (v := v259) kc_37_177 rfl ev259 ?_
            have eg : (r258 : Int32).toInt = xho (st x1.toNatClampNeg 1) := by rw [hr258, show (v257 : Int32).toInt = st x1.toNatClampNeg 1 by omega]
            obtain ⟨hb1, hb2⟩ := xair2 (show (v20 : Int32).toInt = st x1.toNatClampNeg 0 by omega) eg hqr.1 ⟨by omega, by omega⟩ ev259
            have hv := xro_v ha1 hb1
            refine xi_istore (pc' := 180) (lv' := [(7, .int v259), (5, .int 0), (6, .int v23), (0, .ref 115), (1, .int x1), (2, .int 0), (3, .int 1), (4, .int x4)]) kc_37_178 rfl rfl (xm_lt ml_37 rfl) ?_
            refine xi_iload (pc' := 182) (x := 0) kc_37_180 rfl rfl ?_
            refine xi_iload (pc' := 184) (x := v259) kc_37_182 rfl rfl ?_
            refine xi_cmt (pc' := 195) kc_37_184 rfl (xc_le_t (X := 0) (Y := v259.toInt) (by decide) rfl (by omega)) ?_
            refine xi_iconst (pc' := 196) (v := 0) kc_37_195 rfl rfl ?_
            refine xi_istore (pc' := 198) (lv' := [(8, .int 0), (7, .int v259), (5, .int 0), (6, .int v23), (0, .ref 115), (1, .int x1), (2, .int 0), (3, .int 1), (4, .int x4)]) kc_37_196 rfl rfl (xm_lt ml_37 rfl) ?_
            refine xi_aload_n (pc' := 199) (x := 115) kc_37_198 rfl rfl ?_
            refine xi_getfield (pc' := 202) (v := .ref 141) kc_37_199 rfl rfl rfl A14 rfl ?_
            refine xi_iload_n (pc' := 203) (x := x1) kc_37_202 rfl rfl ?_
            refine xi_iload (pc' := 205) (x := 0) kc_37_203 rfl rfl ?_
            refine xi_iload (pc' := 207) (x := 0) kc_37_205 rfl rfl ?_
            refine xi_isub (pc' := 208) (v := 0) kc_37_207 rfl rfl ?_
            obtain ⟨y260, A260, hy260, ry260⟩ := xk_arr K.1 xD_141
            have R261 : xrp y260 6 gw := xra_ld IA A260
            obtain ⟨y262, s262, hy262, ry262⟩ := xj_set (v := 0) hy260 ry260 x1 (by first | omega | decide) (by first | omega | decide)
            refine xi_iastore (pc' := 209) (x' := y262) kc_37_208 rfl A260 rfl (xi_in (by omega) (by rw [hy260]; omega)) s262 (fun hh262 eh262 => ?_)
            have K263 := xk_pa K (xk_wa (by decide +kernel)) xD_141 hy262 ry262 eh262
            have R264 : xrp y262 6 (xup gw (Int32.toNatClampNeg x1) (0 : Int32).toInt) := xrp_set R261 s262
            refine xi_iload (pc' := 211) (x := 0) kc_37_209 rfl rfl ?_
            refine xi_ift (pc' := 221) kc_37_211 rfl rfl ?_
            refine xi_return kc_37_221 mr_37 ?_
            have hsv : (0 : Int32).toInt = (xro (gw x1.toNatClampNeg) (xbh C hr ((x1.toNatClampNeg : Nat) : Int) (C 11 0).toNat + C (20 + x1.toNatClampNeg) (hr % 24).toNat) (st x1.toNatClampNeg 0) (st x1.toNatClampNeg 1) (st x1.toNatClampNeg 2 + (if st x1.toNatClampNeg 4 = 1 then st x1.toNatClampNeg 3 else 0)) (xho (C 10 hr.toNat))) := (show (0 : Int32).toInt = v155.toInt by omega).trans (hv.2 (by omega))
            have hR := R264
            rw [hsv] at hR
            exact kk hh262 K263 (xra_mk eh262.1 hR)
      · refine xi_cmf (pc' := 14) kc_39_11 rfl (xc_le_f (X := x5.toInt) (Y := 99999) rfl (by decide) (by omega)) ?_
        refine xi_ldc (pc' := 16) (v := 99999) kc_39_14 rfl rfl ?_
        refine xi_goto (pc' := 20) kc_39_16 rfl ?_
        refine xi_ireturn kc_39_20 mr_39 rfl ?_
        show xw J ov (d + 5) 37 (98, [(0, .ref 115), (1, .int x1), (2, .int 0), (3, .int 1), (4, .int x4), (5, .int x5), (6, .int x6)], [.int 99999], h) _
        refine xi_istore (pc' := 100) (lv' := [(5, .int 99999), (0, .ref 115), (1, .int x1), (2, .int 0), (3, .int 1), (4, .int x4), (6, .int x6)]) kc_37_98 rfl rfl (xm_lt ml_37 rfl) ?_
        refine xi_aload_n (pc' := 101) (x := 115) kc_37_100 rfl rfl ?_
        refine xi_getfield (pc' := 104) (v := .ref 116) kc_37_101 rfl rfl rfl A14 rfl ?_
        refine xi_iload_n (pc' := 105) (x := x1) kc_37_104 rfl rfl ?_
        obtain ⟨y265, A265, hy265, ry265⟩ := xk_arr K.1 xD_116
        have R266 : xrp y265 6 (fun r => st r 0) := xra_ld (xr5_k I5 K (by decide +kernel)).1 A265
        obtain ⟨v267, ev267, bv267, dv267⟩ := xj_get hy265 ry265 (i := x1) (by omega) (by omega)
        refine xi_iaload (pc' := 106) (v := v267) kc_37_105 rfl A265 (by decide) rfl (xi_in (by omega) (by rw [hy265]; omega)) ev267 ?_
        have hlv267 : v267.toInt = st (Int32.toNatClampNeg x1) 0 := xrp_ld R266 (by omega) (by omega) ev267
        refine xi_aload_n (pc' := 107) (x := 115) kc_37_106 rfl rfl ?_
        refine xi_getfield (pc' := 110) (v := .int u6) kc_37_107 rfl rfl rfl A14 rfl ?_
        refine xi_static (mj := 22) (as := [.int u6]) (st1 := [.int v267]) (lv0 := [(0, .int u6)]) kc_37_110 rfl rfl (Nat.le_of_ble_eq_true rfl) rfl rfl (Nat.le_of_ble_eq_true rfl) (hJ _ _ _ _ (by decide)) (xm_le ml_22 rfl) rfl ?_
        refine xw_gm hJ hov1 hov2 (d := d + 2) (x0 := u6) (by omega) (fun r268 hr268 br268 => ?_)
        show xw J ov (d + 5) 37 (113, [(5, .int 99999), (0, .ref 115), (1, .int x1), (2, .int 0), (3, .int 1), (4, .int x4), (6, .int x6)], [.int r268, .int v267], h) _
        obtain ⟨v269, ev269⟩ : ∃ q : Int32, (v267 : Int32) * r268 = q := ⟨_, rfl⟩
        have rv269 := xc_rng v269
        refine xi_imul (pc' := 114) (v := v269) kc_37_113 rfl ev269 ?_
        refine xi_iconst (pc' := 115) (v := 2) kc_37_114 rfl rfl ?_
        obtain ⟨v270, ev270⟩ : ∃ q : Int32, v269 / 2 = q := ⟨_, rfl⟩
        have dv270 : 2 * v270.toInt ≤ v269.toInt + 1 ∧ v269.toInt ≤ 2 * v270.toInt + 1 := by rw [← ev270]; exact xz_div (X := v269.toInt) (Y := 2) rfl (by decide) (by decide)
        have bv270 : -1073741825 ≤ v270.toInt ∧ v270.toInt ≤ 1073741824 := by omega
        refine xi_idiv (pc' := 116) (v := v270) kc_37_115 rfl ev270 (by decide) ?_
        refine xi_istore (pc' := 118) (lv' := [(6, .int v270), (5, .int 99999), (0, .ref 115), (1, .int x1), (2, .int 0), (3, .int 1), (4, .int x4)]) kc_37_116 rfl rfl (xm_lt ml_37 rfl) ?_
        refine xi_iload (pc' := 120) (x := 99999) kc_37_118 rfl rfl ?_
        refine xi_iload (pc' := 122) (x := 99999) kc_37_120 rfl rfl ?_
        refine xi_iload (pc' := 124) (x := v270) kc_37_122 rfl rfl ?_
        obtain ⟨v271, ev271⟩ : ∃ q : Int32, 99999 - v270 = q := ⟨_, rfl⟩
        have zv271 : v271.toInt = ((-1) * v270.toInt + 99999) := by rw [← ev271]; exact (xz_sub (X := 99999) (Y := v270.toInt) (by decide) rfl (by omega) (by omega)).trans (by omega)
        refine xi_isub (pc' := 125) (v := v271) kc_37_124 rfl ev271 ?_
        refine xi_aload_n (pc' := 126) (x := 115) kc_37_125 rfl rfl ?_
        refine xi_getfield (pc' := 129) (v := .ref 118) kc_37_126 rfl rfl rfl A14 rfl ?_
        refine xi_iload_n (pc' := 130) (x := x1) kc_37_129 rfl rfl ?_
        obtain ⟨y272, A272, hy272, ry272⟩ := xk_arr K.1 xD_118
        have R273 : xrp y272 6 (fun r => st r 2) := xra_ld (xr5_k I5 K (by decide +kernel)).2.2.1 A272
        obtain ⟨v274, ev274, bv274, dv274⟩ := xj_get hy272 ry272 (i := x1) (by omega) (by omega)
        refine xi_iaload (pc' := 131) (v := v274) kc_37_130 rfl A272 (by decide) rfl (xi_in (by omega) (by rw [hy272]; omega)) ev274 ?_
        have hlv274 : v274.toInt = st (Int32.toNatClampNeg x1) 2 := xrp_ld R273 (by omega) (by omega) ev274
        refine xi_aload_n (pc' := 132) (x := 115) kc_37_131 rfl rfl ?_
        refine xi_getfield (pc' := 135) (v := .ref 120) kc_37_132 rfl rfl rfl A14 rfl ?_
        refine xi_iload_n (pc' := 136) (x := x1) kc_37_135 rfl rfl ?_
        obtain ⟨y275, A275, hy275, ry275⟩ := xk_arr K.1 xD_120
        have R276 : xrp y275 6 (fun r => st r 4) := xra_ld (xr5_k I5 K (by decide +kernel)).2.2.2.2 A275
        obtain ⟨v277, ev277, bv277, dv277⟩ := xj_get hy275 ry275 (i := x1) (by omega) (by omega)
        refine xi_iaload (pc' := 137) (v := v277) kc_37_136 rfl A275 (by decide) rfl (xi_in (by omega) (by rw [hy275]; omega)) ev277 ?_
        have hlv277 : v277.toInt = st (Int32.toNatClampNeg x1) 4 := xrp_ld R276 (by omega) (by omega) ev277
        refine xi_iconst (pc' := 138) (v := 1) kc_37_137 rfl rfl ?_
        by_cases c278 : v277.toInt = 1
        · refine xi_cmf (pc' := 141) kc_37_138 rfl (xc_ne_f (X := v277.toInt) (Y := 1) rfl (by decide) (by omega)) ?_
          refine xi_aload_n (pc' := 142) (x := 115) kc_37_141 rfl rfl ?_
          refine xi_getfield (pc' := 145) (v := .ref 119) kc_37_142 rfl rfl rfl A14 rfl ?_
          refine xi_iload_n (pc' := 146) (x := x1) kc_37_145 rfl rfl ?_
          obtain ⟨y279, A279, hy279, ry279⟩ := xk_arr K.1 xD_119
          have R280 : xrp y279 6 (fun r => st r 3) := xra_ld (xr5_k I5 K (by decide +kernel)).2.2.2.1 A279
          obtain ⟨v281, ev281, bv281, dv281⟩ := xj_get hy279 ry279 (i := x1) (by omega) (by omega)
          refine xi_iaload (pc' := 147) (v := v281) kc_37_146 rfl A279 (by decide) rfl (xi_in (by omega) (by rw [hy279]; omega)) ev281 ?_
          have hlv281 : v281.toInt = st (Int32.toNatClampNeg x1) 3 := xrp_ld R280 (by omega) (by omega) ev281
          refine xi_goto (pc' := 151) kc_37_147 rfl ?_
          obtain ⟨v282, ev282⟩ : ∃ q : Int32, v274 + v281 = q := ⟨_, rfl⟩
          have zv282 : v282.toInt = (v274.toInt + v281.toInt) := by rw [← ev282]; exact (xz_add (X := v274.toInt) (Y := v281.toInt) rfl rfl (by omega) (by omega)).trans (by omega)
          refine xi_iadd (pc' := 152) (v := v282) kc_37_151 rfl ev282 ?_
          obtain ⟨v283, ev283⟩ : ∃ q : Int32, (v271 : Int32) * v282 = q := ⟨_, rfl⟩
          have rv283 := xc_rng v283
          refine xi_imul (pc' := 153) (v := v283) kc_37_152 rfl ev283 ?_
          refine xi_bipush (pc' := 155) (v := 100) kc_37_153 rfl rfl ?_
          obtain ⟨v284, ev284⟩ : ∃ q : Int32, v283 / 100 = q := ⟨_, rfl⟩
          have dv284 : 100 * v284.toInt ≤ v283.toInt + 99 ∧ v283.toInt ≤ 100 * v284.toInt + 99 := by rw [← ev284]; exact xz_div (X := v283.toInt) (Y := 100) rfl (by decide) (by decide)
          have bv284 : -21474837 ≤ v284.toInt ∧ v284.toInt ≤ 21474837 := by omega
          refine xi_idiv (pc' := 156) (v := v284) kc_37_155 rfl ev284 (by decide) ?_
          obtain ⟨v285, ev285⟩ : ∃ q : Int32, 99999 - v284 = q := ⟨_, rfl⟩
          have zv285 : v285.toInt = ((-1) * v284.toInt + 99999) := by rw [← ev285]; exact (xz_sub (X := 99999) (Y := v284.toInt) (by decide) rfl (by omega) (by omega)).trans (by omega)
          refine xi_isub (pc' := 157) (v := v285) kc_37_156 rfl ev285 ?_
          have e6 : x6.toNatClampNeg = (C 11 0).toNat := by omega
          rw [e6] at hE
          have zc99999 : (99999 : Int32).toInt = 99999 := by decide
          have ew : (99999 : Int32).toInt = xcap (gw x1.toNatClampNeg + (xbh C hr ((x1.toNatClampNeg : Nat) : Int) (C 11 0).toNat + C (20 + x1.toNatClampNeg) (hr % 24).toNat)) := xcap_is (fun z => by omega) (fun z => by omega)
          have ec : (v282 : Int32).toInt = st x1.toNatClampNeg 2 + (if st x1.toNatClampNeg 4 = 1 then st x1.toNatClampNeg 3 else 0) := by rw [if_pos (show st x1.toNatClampNeg 4 = 1 by omega)]; omega
          have hcb := xho_b c10.1 c10.2
          have ehc : (r268 : Int32).toInt = xho (C 10 hr.toNat) := by rw [hr268, show (u6 : Int32).toInt = C 10 hr.toNat by omega]
          have hbe := xbh_b (C := C) (hr := hr) (r := ((x1.toNatClampNeg : Nat) : Int)) hC.2.2.1 (C 11 0).toNat (by omega)
          obtain ⟨ha1, ha2⟩ := xair1 ew (show (v267 : Int32).toInt = st x1.toNatClampNeg 0 by omega) ehc ec (xcap_b (by omega)) hqr.1 ⟨by omega, by omega⟩ (xc_of_fan hq (show x1.toNatClampNeg < 6 by omega)) ev269 ev270 ev271 ev283 ev284 ev285
          refine xi_static (mj := 39) (as := [.int v285]) (st1 := []) (lv0 := [(0, .int v285)]) kc_37_157 rfl rfl (Nat.le_of_ble_eq_true rfl) rfl rfl (Nat.le_of_ble_eq_true rfl) (hJ _ _ _ _ (by decide)) (xm_le ml_39 rfl) rfl ?_
          refine xi_iload_n (pc' := 1) (x := v285) kc_39_0 rfl rfl ?_
          by_cases c286 : 0 ≤ ((-1) * v284.toInt + 99999)
          · refine xi_ift (pc' := 8) kc_39_1 rfl (xc_ge_t (X := ((-1) * v284.toInt + 99999)) (Y := 0) zv285 (by decide) (by omega)) ?_
            refine xi_iload_n (pc' := 9) (x := v285) kc_39_8 rfl rfl ?_
            refine xi_ldc (pc' := 11) (v := 99999) kc_39_9 rfl rfl ?_
            by_cases c287 : ((-1) * v284.toInt + 99999) ≤ 99999
            · refine xi_cmt (pc' := 19) kc_39_11 rfl (xc_le_t (X := ((-1) * v284.toInt + 99999)) (Y := 99999) zv285 (by decide) (by omega)) ?_
              refine xi_iload_n (pc' := 20) (x := v285) kc_39_19 rfl rfl ?_
              refine xi_ireturn kc_39_20 mr_39 rfl ?_
              show xw J ov (d + 5) 37 (160, [(6, .int v270), (5, .int 99999), (0, .ref 115), (1, .int x1), (2, .int 0), (3, .int 1), (4, .int x4)], [.int v285], h) _
              refine xi_istore (pc' := 162) (lv' := [(5, .int v285), (6, .int v270), (0, .ref 115), (1, .int x1), (2, .int 0), (3, .int 1), (4, .int x4)]) kc_37_160 rfl rfl (xm_lt ml_37 rfl) ?_
              refine xi_aload_n (pc' := 163) (x := 115) kc_37_162 rfl rfl ?_
              refine xi_getfield (pc' := 166) (v := .ref 116) kc_37_163 rfl rfl rfl A14 rfl ?_
              refine xi_iload_n (pc' := 167) (x := x1) kc_37_166 rfl rfl ?_
              refine xi_iaload (pc' := 168) (v := v267) kc_37_167 rfl A265 (by decide) rfl (xi_in (by omega) (by rw [hy265]; omega)) ev267 ?_
              refine xi_aload_n (pc' := 169) (x := 115) kc_37_168 rfl rfl ?_
              refine xi_getfield (pc' := 172) (v := .ref 117) kc_37_169 rfl rfl rfl A14 rfl ?_
              refine xi_iload_n (pc' := 173) (x := x1) kc_37_172 rfl rfl ?_
              obtain ⟨y288, A288, hy288, ry288⟩ := xk_arr K.1 xD_117
              have R289 : xrp y288 6 (fun r => st r 1) := xra_ld (xr5_k I5 K (by decide +kernel)).2.1 A288
              obtain ⟨v290, ev290, bv290, dv290⟩ := xj_get hy288 ry288 (i := x1) (by omega) (by omega)
              refine xi_iaload (pc' := 174) (v := v290) kc_37_173 rfl A288 (by decide) rfl (xi_in (by omega) (by rw [hy288]; omega)) ev290 ?_
              have hlv290 : v290.toInt = st (Int32.toNatClampNeg x1) 1 := xrp_ld R289 (by omega) (by omega) ev290
              refine xi_static (mj := 22) (as := [.int v290]) (st1 := [.int v267]) (lv0 := [(0, .int v290)]) kc_37_174 rfl rfl (Nat.le_of_ble_eq_true rfl) rfl rfl (Nat.le_of_ble_eq_true rfl) (hJ _ _ _ _ (by decide)) (xm_le ml_22 rfl) rfl ?_
              refine xw_gm hJ hov1 hov2 (d := d + 2) (x0 := v290) (by omega) (fun r291 hr291 br291 => ?_)
              show xw J ov (d + 5) 37 (177, [(5, .int v285), (6, .int v270), (0, .ref 115), (1, .int x1), (2, .int 0), (3, .int 1), (4, .int x4)], [.int r291, .int v267], h) _
              obtain ⟨v292, ev292⟩ : ∃ q : Int32, (v267 : Int32) * r291 = q := ⟨_, rfl⟩
              have rv292 := xc_rng v292
              refine xi_imul (pc' := 178) (v := v292) kc_37_177 rfl ev292 ?_
              have eg : (r291 : Int32).toInt = xho (st x1.toNatClampNeg 1) := by rw [hr291, show (v290 : Int32).toInt = st x1.toNatClampNeg 1 by omega]
              obtain ⟨hb1, hb2⟩ := xair2 (show (v267 : Int32).toInt = st x1.toNatClampNeg 0 by omega) eg hqr.1 ⟨by omega, by omega⟩ ev292
              have hv := xro_v ha1 hb1
              refine xi_istore (pc' := 180) (lv' := [(7, .int v292), (5, .int v285), (6, .int v270), (0, .ref 115), (1, .int x1), (2, .int 0), (3, .int 1), (4, .int x4)]) kc_37_178 rfl rfl (xm_lt ml_37 rfl) ?_
              refine xi_iload (pc' := 182) (x := v285) kc_37_180 rfl rfl ?_
              refine xi_iload (pc' := 184) (x := v292) kc_37_182 rfl rfl ?_
              by_cases c293 : ((-1) * v284.toInt + 99999) ≤ v292.toInt
              · refine xi_cmt (pc' := 195) kc_37_184 rfl (xc_le_t (X := ((-1) * v284.toInt + 99999)) (Y := v292.toInt) zv285 rfl (by omega)) ?_
                refine xi_iconst (pc' := 196) (v := 0) kc_37_195 rfl rfl ?_
                refine xi_istore (pc' := 198) (lv' := [(8, .int 0), (7, .int v292), (5, .int v285), (6, .int v270), (0, .ref 115), (1, .int x1), (2, .int 0), (3, .int 1), (4, .int x4)]) kc_37_196 rfl rfl (xm_lt ml_37 rfl) ?_
                refine xi_aload_n (pc' := 199) (x := 115) kc_37_198 rfl rfl ?_
                refine xi_getfield (pc' := 202) (v := .ref 141) kc_37_199 rfl rfl rfl A14 rfl ?_
                refine xi_iload_n (pc' := 203) (x := x1) kc_37_202 rfl rfl ?_
                refine xi_iload (pc' := 205) (x := v285) kc_37_203 rfl rfl ?_
                refine xi_iload (pc' := 207) (x := 0) kc_37_205 rfl rfl ?_
                obtain ⟨v294, ev294⟩ : ∃ q : Int32, v285 - 0 = q := ⟨_, rfl⟩
                have zv294 : v294.toInt = ((-1) * v284.toInt + 99999) := by rw [← ev294]; exact (xz_sub (X := ((-1) * v284.toInt + 99999)) (Y := 0) zv285 (by decide) (by omega) (by omega)).trans (by omega)
                refine xi_isub (pc' := 208) (v := v294) kc_37_207 rfl ev294 ?_
                obtain ⟨y295, A295, hy295, ry295⟩ := xk_arr K.1 xD_141
                have R296 : xrp y295 6 gw := xra_ld IA A295
                obtain ⟨y297, s297, hy297, ry297⟩ := xj_set (v := v294) hy295 ry295 x1 (by first | omega | decide) (by first | omega | decide)
                refine xi_iastore (pc' := 209) (x' := y297) kc_37_208 rfl A295 rfl (xi_in (by omega) (by rw [hy295]; omega)) s297 (fun hh297 eh297 => ?_)
                have K298 := xk_pa K (xk_wa (by decide +kernel)) xD_141 hy297 ry297 eh297
                have R299 : xrp y297 6 (xup gw (Int32.toNatClampNeg x1) (v294 : Int32).toInt) := xrp_set R296 s297
                refine xi_iload (pc' := 211) (x := 0) kc_37_209 rfl rfl ?_
                refine xi_ift (pc' := 221) kc_37_211 rfl rfl ?_
                refine xi_return kc_37_221 mr_37 ?_
                have hsv : (v294 : Int32).toInt = (xro (gw x1.toNatClampNeg) (xbh C hr ((x1.toNatClampNeg : Nat) : Int) (C 11 0).toNat + C (20 + x1.toNatClampNeg) (hr % 24).toNat) (st x1.toNatClampNeg 0) (st x1.toNatClampNeg 1) (st x1.toNatClampNeg 2 + (if st x1.toNatClampNeg 4 = 1 then st x1.toNatClampNeg 3 else 0)) (xho (C 10 hr.toNat))) := (show (v294 : Int32).toInt = v285.toInt by omega).trans (hv.2 (by omega))
                have hR := R299
                rw [hsv] at hR
                exact kk hh297 K298 (xra_mk eh297.1 hR)
              · refine xi_cmf (pc' := 187) kc_37_184 rfl (xc_le_f (X := ((-1) * v284.toInt + 99999)) (Y := v292.toInt) zv285 rfl (by omega)) ?_
                refine xi_iload (pc' := 189) (x := v285) kc_37_187 rfl rfl ?_
                refine xi_iload (pc' := 191) (x := v292) kc_37_189 rfl rfl ?_
                obtain ⟨v300, ev300⟩ : ∃ q : Int32, v285 - v292 = q := ⟨_, rfl⟩
                have zv300 : v300.toInt = ((-1) * v284.toInt + (-1) * v292.toInt + 99999) := by rw [← ev300]; exact (xz_sub (X := ((-1) * v284.toInt + 99999)) (Y := v292.toInt) zv285 rfl (by omega) (by omega)).trans (by omega)
                refine xi_isub (pc' := 192) (v := v300) kc_37_191 rfl ev300 ?_
                refine xi_goto (pc' := 196) kc_37_192 rfl ?_
                refine xi_istore (pc' := 198) (lv' := [(8, .int v300), (7, .int v292), (5, .int v285), (6, .int v270), (0, .ref 115), (1, .int x1), (2, .int 0), (3, .int 1), (4, .int x4)]) kc_37_196 rfl rfl (xm_lt ml_37 rfl) ?_
                refine xi_aload_n (pc' := 199) (x := 115) kc_37_198 rfl rfl ?_
                refine xi_getfield (pc' := 202) (v := .ref 141) kc_37_199 rfl rfl rfl A14 rfl ?_
                refine xi_iload_n (pc' := 203) (x := x1) kc_37_202 rfl rfl ?_
                refine xi_iload (pc' := 205) (x := v285) kc_37_203 rfl rfl ?_
                refine xi_iload (pc' := 207) (x := v300) kc_37_205 rfl rfl ?_
                obtain ⟨v301, ev301⟩ : ∃ q : Int32, v285 - v300 = q := ⟨_, rfl⟩
                have zv301 : v301.toInt = v292.toInt := by rw [← ev301]; exact (xz_sub (X := ((-1) * v284.toInt + 99999)) (Y := ((-1) * v284.toInt + (-1) * v292.toInt + 99999)) zv285 zv300 (by omega) (by omega)).trans (by omega)
                refine xi_isub (pc' := 208) (v := v301) kc_37_207 rfl ev301 ?_
                obtain ⟨y302, A302, hy302, ry302⟩ := xk_arr K.1 xD_141
                have R303 : xrp y302 6 gw := xra_ld IA A302
                obtain ⟨y304, s304, hy304, ry304⟩ := xj_set (v := v301) hy302 ry302 x1 (by first | omega | decide) (by first | omega | decide)
                refine xi_iastore (pc' := 209) (x' := y304) kc_37_208 rfl A302 rfl (xi_in (by omega) (by rw [hy302]; omega)) s304 (fun hh304 eh304 => ?_)
                have K305 := xk_pa K (xk_wa (by decide +kernel)) xD_141 hy304 ry304 eh304
                have R306 : xrp y304 6 (xup gw (Int32.toNatClampNeg x1) (v301 : Int32).toInt) := xrp_set R303 s304
                refine xi_iload (pc' := 211) (x := v300) kc_37_209 rfl rfl ?_
                refine xi_iff (pc' := 214) kc_37_211 rfl (xc_le_f (X := ((-1) * v284.toInt + (-1) * v292.toInt + 99999)) (Y := 0) zv300 (by decide) (by omega)) ?_
                refine xi_aload_n (pc' := 215) (x := 115) kc_37_214 rfl rfl ?_
                refine xi_iload_n (pc' := 216) (x := x1) kc_37_215 rfl rfl ?_
                refine xi_iload (pc' := 218) (x := v300) kc_37_216 rfl rfl ?_
                have A307 := ((eh304.2.1 115 (by decide)).trans A14)
                refine xi_virtual (mj := 40) (as := [.int x1, .int v300]) (st1 := []) (lv0 := [(0, .ref 115), (1, .int x1), (2, .int v300)]) kc_37_218 rfl rfl rfl rfl rfl A307 (Nat.le_of_ble_eq_true rfl) (hJ _ _ _ _ (by decide)) (xm_le ml_40 rfl) rfl ?_
                refine mt_40_0 hJ hov1 hov2 (d := d + 2) (x1 := x1) (x2 := v300) K305.1 (by first | omega | decide) (by first | omega | decide) (fun hh309 K310 => ?_)
                have A311 := ((eh304.2.1 116 (by decide)).trans A265)
                have A312 := ((eh304.2.1 118 (by decide)).trans A272)
                have A313 := ((eh304.2.1 120 (by decide)).trans A275)
                have A314 := ((eh304.2.1 119 (by decide)).trans A279)
                have A315 := ((eh304.2.1 117 (by decide)).trans A288)
                have K316 := xk_tr K305 K310 (xsb_ok _ _ (by decide +kernel))
                obtain ⟨u317, u318, u319, u320, u321, u322, u323, u324, u325, u326, u327, u328, u329, bu317, bu318, bu319, bu320, bu321, bu322, bu323, bu324, bu325, bu326, bu327, bu328, bu329, A330⟩ := xq_115 K316.1
                have C331 : xcM hh309 C := xcM_k C0 K316 (by decide +kernel)
                have hfu321 : u321.toInt = (C 11 0) := xfi_ld C331.1 A330 rfl
                have hfu324 : u324.toInt = (C 12 0) := xfi_ld C331.2.1 A330 rfl
                have hfu322 : u322.toInt = (C 10 hr.toNat) := xfi_ld (xfi_fr Fc (K316.2.1 (115, 32) (by decide +kernel))) A330 rfl
                have bru322 : (-20) ≤ u322.toInt ∧ u322.toInt ≤ 99 := by omega
                have e332 : u2 = u318 := xk_eqi (q := 1) K310 (by decide +kernel) A307 A330 rfl rfl
                subst e332
                have e333 : u5 = u321 := xk_eqi (q := 23) K310 (by decide +kernel) A307 A330 rfl rfl
                subst e333
                have e334 : u8 = u324 := xk_eqi (q := 34) K310 (by decide +kernel) A307 A330 rfl rfl
                subst e334
                have e335 : u6 = u322 := xk_eqi (q := 32) K310 (by decide +kernel) A307 A330 rfl rfl
                subst e335
                have A336 := xk_eqa (q := 0) K310 (by decide +kernel) A311
                have A337 := xk_eqa (q := 0) K310 (by decide +kernel) A312
                have A338 := xk_eqa (q := 0) K310 (by decide +kernel) A313
                have A339 := xk_eqa (q := 0) K310 (by decide +kernel) A314
                have A340 := xk_eqa (q := 0) K310 (by decide +kernel) A315
                have A341 := xk_eqa (q := 0) K310 (by decide +kernel) eh304.1
                show xw J ov (d + 5) 37 (221, [(8, .int v300), (7, .int v292), (5, .int v285), (6, .int v270), (0, .ref 115), (1, .int x1), (2, .int 0), (3, .int 1), (4, .int x4)], [], hh309) _
                refine xi_return kc_37_221 mr_37 ?_
                have hsv : (v301 : Int32).toInt = (xro (gw x1.toNatClampNeg) (xbh C hr ((x1.toNatClampNeg : Nat) : Int) (C 11 0).toNat + C (20 + x1.toNatClampNeg) (hr % 24).toNat) (st x1.toNatClampNeg 0) (st x1.toNatClampNeg 1) (st x1.toNatClampNeg 2 + (if st x1.toNatClampNeg 4 = 1 then st x1.toNatClampNeg 3 else 0)) (xho (C 10 hr.toNat))) := (show (v301 : Int32).toInt = v292.toInt by omega).trans (hv.1 (by omega))
                have hR := R306
                rw [hsv] at hR
                exact kk hh309 K316 (xra_mk A341 hR)
            · refine xi_cmf (pc' := 14) kc_39_11 rfl (xc_le_f (X := ((-1) * v284.toInt + 99999)) (Y := 99999) zv285 (by decide) (by omega)) ?_
              refine xi_ldc (pc' := 16) (v := 99999) kc_39_14 rfl rfl ?_
              refine xi_goto (pc' := 20) kc_39_16 rfl ?_
              refine xi_ireturn kc_39_20 mr_39 rfl ?_
              show xw J ov (d + 5) 37 (160, [(6, .int v270), (5, .int 99999), (0, .ref 115), (1, .int x1), (2, .int 0), (3, .int 1), (4, .int x4)], [.int 99999], h) _
              refine xi_istore (pc' := 162) (lv' := [(5, .int 99999), (6, .int v270), (0, .ref 115), (1, .int x1), (2, .int 0), (3, .int 1), (4, .int x4)]) kc_37_160 rfl rfl (xm_lt ml_37 rfl) ?_
              refine xi_aload_n (pc' := 163) (x := 115) kc_37_162 rfl rfl ?_
              refine xi_getfield (pc' := 166) (v := .ref 116) kc_37_163 rfl rfl rfl A14 rfl ?_
              refine xi_iload_n (pc' := 167) (x := x1) kc_37_166 rfl rfl ?_
              refine xi_iaload (pc' := 168) (v := v267) kc_37_167 rfl A265 (by decide) rfl (xi_in (by omega) (by rw [hy265]; omega)) ev267 ?_
              refine xi_aload_n (pc' := 169) (x := 115) kc_37_168 rfl rfl ?_
              refine xi_getfield (pc' := 172) (v := .ref 117) kc_37_169 rfl rfl rfl A14 rfl ?_
              refine xi_iload_n (pc' := 173) (x := x1) kc_37_172 rfl rfl ?_
              obtain ⟨y342, A342, hy342, ry342⟩ := xk_arr K.1 xD_117
              have R343 : xrp y342 6 (fun r => st r 1) := xra_ld (xr5_k I5 K (by decide +kernel)).2.1 A342
              obtain ⟨v344, ev344, bv344, dv344⟩ := xj_get hy342 ry342 (i := x1) (by omega) (by omega)
              refine xi_iaload (pc' := 174) (v := v344) kc_37_173 rfl A342 (by decide) rfl (xi_in (by omega) (by rw [hy342]; omega)) ev344 ?_
              have hlv344 : v344.toInt = st (Int32.toNatClampNeg x1) 1 := xrp_ld R343 (by omega) (by omega) ev344
              refine xi_static (mj := 22) (as := [.int v344]) (st1 := [.int v267]) (lv0 := [(0, .int v344)]) kc_37_174 rfl rfl (Nat.le_of_ble_eq_true rfl) rfl rfl (Nat.le_of_ble_eq_true rfl) (hJ _ _ _ _ (by decide)) (xm_le ml_22 rfl) rfl ?_
              refine xw_gm hJ hov1 hov2 (d := d + 2) (x0 := v344) (by omega) (fun r345 hr345 br345 => ?_)
              show xw J ov (d + 5) 37 (177, [(5, .int 99999), (6, .int v270), (0, .ref 115), (1, .int x1), (2, .int 0), (3, .int 1), (4, .int x4)], [.int r345, .int v267], h) _
              obtain ⟨v346, ev346⟩ : ∃ q : Int32, (v267 : Int32) * r345 = q := ⟨_, rfl⟩
              have rv346 := xc_rng v346
              refine xi_imul (pc' := 178) (v := v346) kc_37_177 rfl ev346 ?_
              have eg : (r345 : Int32).toInt = xho (st x1.toNatClampNeg 1) := by rw [hr345, show (v344 : Int32).toInt = st x1.toNatClampNeg 1 by omega]
              obtain ⟨hb1, hb2⟩ := xair2 (show (v267 : Int32).toInt = st x1.toNatClampNeg 0 by omega) eg hqr.1 ⟨by omega, by omega⟩ ev346
              have hv := xro_v ha1 hb1
              refine xi_istore (pc' := 180) (lv' := [(7, .int v346), (5, .int 99999), (6, .int v270), (0, .ref 115), (1, .int x1), (2, .int 0), (3, .int 1), (4, .int x4)]) kc_37_178 rfl rfl (xm_lt ml_37 rfl) ?_
              refine xi_iload (pc' := 182) (x := 99999) kc_37_180 rfl rfl ?_
              refine xi_iload (pc' := 184) (x := v346) kc_37_182 rfl rfl ?_
              refine xi_cmf (pc' := 187) kc_37_184 rfl (xc_le_f (X := 99999) (Y := v346.toInt) (by decide) rfl (by omega)) ?_
              refine xi_iload (pc' := 189) (x := 99999) kc_37_187 rfl rfl ?_
              refine xi_iload (pc' := 191) (x := v346) kc_37_189 rfl rfl ?_
              obtain ⟨v347, ev347⟩ : ∃ q : Int32, 99999 - v346 = q := ⟨_, rfl⟩
              have zv347 : v347.toInt = ((-1) * v346.toInt + 99999) := by rw [← ev347]; exact (xz_sub (X := 99999) (Y := v346.toInt) (by decide) rfl (by omega) (by omega)).trans (by omega)
              refine xi_isub (pc' := 192) (v := v347) kc_37_191 rfl ev347 ?_
              refine xi_goto (pc' := 196) kc_37_192 rfl ?_
              refine xi_istore (pc' := 198) (lv' := [(8, .int v347), (7, .int v346), (5, .int 99999), (6, .int v270), (0, .ref 115), (1, .int x1), (2, .int 0), (3, .int 1), (4, .int x4)]) kc_37_196 rfl rfl (xm_lt ml_37 rfl) ?_
              refine xi_aload_n (pc' := 199) (x := 115) kc_37_198 rfl rfl ?_
              refine xi_getfield (pc' := 202) (v := .ref 141) kc_37_199 rfl rfl rfl A14 rfl ?_
              refine xi_iload_n (pc' := 203) (x := x1) kc_37_202 rfl rfl ?_
              refine xi_iload (pc' := 205) (x := 99999) kc_37_203 rfl rfl ?_
              refine xi_iload (pc' := 207) (x := v347) kc_37_205 rfl rfl ?_
              obtain ⟨v348, ev348⟩ : ∃ q : Int32, 99999 - v347 = q := ⟨_, rfl⟩
              have zv348 : v348.toInt = v346.toInt := by rw [← ev348]; exact (xz_sub (X := 99999) (Y := ((-1) * v346.toInt + 99999)) (by decide) zv347 (by omega) (by omega)).trans (by omega)
              refine xi_isub (pc' := 208) (v := v348) kc_37_207 rfl ev348 ?_
              obtain ⟨y349, A349, hy349, ry349⟩ := xk_arr K.1 xD_141
              have R350 : xrp y349 6 gw := xra_ld IA A349
              obtain ⟨y351, s351, hy351, ry351⟩ := xj_set (v := v348) hy349 ry349 x1 (by first | omega | decide) (by first | omega | decide)
              refine xi_iastore (pc' := 209) (x' := y351) kc_37_208 rfl A349 rfl (xi_in (by omega) (by rw [hy349]; omega)) s351 (fun hh351 eh351 => ?_)
              have K352 := xk_pa K (xk_wa (by decide +kernel)) xD_141 hy351 ry351 eh351
              have R353 : xrp y351 6 (xup gw (Int32.toNatClampNeg x1) (v348 : Int32).toInt) := xrp_set R350 s351
              refine xi_iload (pc' := 211) (x := v347) kc_37_209 rfl rfl ?_
              refine xi_iff (pc' := 214) kc_37_211 rfl (xc_le_f (X := ((-1) * v346.toInt + 99999)) (Y := 0) zv347 (by decide) (by omega)) ?_
              refine xi_aload_n (pc' := 215) (x := 115) kc_37_214 rfl rfl ?_
              refine xi_iload_n (pc' := 216) (x := x1) kc_37_215 rfl rfl ?_
              refine xi_iload (pc' := 218) (x := v347) kc_37_216 rfl rfl ?_
              have A354 := ((eh351.2.1 115 (by decide)).trans A14)
              refine xi_virtual (mj := 40) (as := [.int x1, .int v347]) (st1 := []) (lv0 := [(0, .ref 115), (1, .int x1), (2, .int v347)]) kc_37_218 rfl rfl rfl rfl rfl A354 (Nat.le_of_ble_eq_true rfl) (hJ _ _ _ _ (by decide)) (xm_le ml_40 rfl) rfl ?_
              refine mt_40_0 hJ hov1 hov2 (d := d + 2) (x1 := x1) (x2 := v347) K352.1 (by first | omega | decide) (by first | omega | decide) (fun hh356 K357 => ?_)
              have A358 := ((eh351.2.1 116 (by decide)).trans A265)
              have A359 := ((eh351.2.1 118 (by decide)).trans A272)
              have A360 := ((eh351.2.1 120 (by decide)).trans A275)
              have A361 := ((eh351.2.1 119 (by decide)).trans A279)
              have A362 := ((eh351.2.1 117 (by decide)).trans A342)
              have K363 := xk_tr K352 K357 (xsb_ok _ _ (by decide +kernel))
              obtain ⟨u364, u365, u366, u367, u368, u369, u370, u371, u372, u373, u374, u375, u376, bu364, bu365, bu366, bu367, bu368, bu369, bu370, bu371, bu372, bu373, bu374, bu375, bu376, A377⟩ := xq_115 K363.1
              have C378 : xcM hh356 C := xcM_k C0 K363 (by decide +kernel)
              have hfu368 : u368.toInt = (C 11 0) := xfi_ld C378.1 A377 rfl
              have hfu371 : u371.toInt = (C 12 0) := xfi_ld C378.2.1 A377 rfl
              have hfu369 : u369.toInt = (C 10 hr.toNat) := xfi_ld (xfi_fr Fc (K363.2.1 (115, 32) (by decide +kernel))) A377 rfl
              have bru369 : (-20) ≤ u369.toInt ∧ u369.toInt ≤ 99 := by omega
              have e379 : u2 = u365 := xk_eqi (q := 1) K357 (by decide +kernel) A354 A377 rfl rfl
              subst e379
              have e380 : u5 = u368 := xk_eqi (q := 23) K357 (by decide +kernel) A354 A377 rfl rfl
              subst e380
              have e381 : u8 = u371 := xk_eqi (q := 34) K357 (by decide +kernel) A354 A377 rfl rfl
              subst e381
              have e382 : u6 = u369 := xk_eqi (q := 32) K357 (by decide +kernel) A354 A377 rfl rfl
              subst e382
              have A383 := xk_eqa (q := 0) K357 (by decide +kernel) A358
              have A384 := xk_eqa (q := 0) K357 (by decide +kernel) A359
              have A385 := xk_eqa (q := 0) K357 (by decide +kernel) A360
              have A386 := xk_eqa (q := 0) K357 (by decide +kernel) A361
              have A387 := xk_eqa (q := 0) K357 (by decide +kernel) A362
              have A388 := xk_eqa (q := 0) K357 (by decide +kernel) eh351.1
              show xw J ov (d + 5) 37 (221, [(8, .int v347), (7, .int v346), (5, .int 99999), (6, .int v270), (0, .ref 115), (1, .int x1), (2, .int 0), (3, .int 1), (4, .int x4)], [], hh356) _
              refine xi_return kc_37_221 mr_37 ?_
              have hsv : (v348 : Int32).toInt = (xro (gw x1.toNatClampNeg) (xbh C hr ((x1.toNatClampNeg : Nat) : Int) (C 11 0).toNat + C (20 + x1.toNatClampNeg) (hr % 24).toNat) (st x1.toNatClampNeg 0) (st x1.toNatClampNeg 1) (st x1.toNatClampNeg 2 + (if st x1.toNatClampNeg 4 = 1 then st x1.toNatClampNeg 3 else 0)) (xho (C 10 hr.toNat))) := (show (v348 : Int32).toInt = v346.toInt by omega).trans (hv.1 (by omega))
              have hR := R353
              rw [hsv] at hR
              exact kk hh356 K363 (xra_mk A388 hR)
          · refine xi_iff (pc' := 4) kc_39_1 rfl (xc_ge_f (X := ((-1) * v284.toInt + 99999)) (Y := 0) zv285 (by decide) (by omega)) ?_
            refine xi_iconst (pc' := 5) (v := 0) kc_39_4 rfl rfl ?_
            refine xi_goto (pc' := 20) kc_39_5 rfl ?_
            refine xi_ireturn kc_39_20 mr_39 rfl ?_
            show xw J ov (d + 5) 37 (160, [(6, .int v270), (5, .int 99999), (0, .ref 115), (1, .int x1), (2, .int 0), (3, .int 1), (4, .int x4)], [.int 0], h) _
            refine xi_istore (pc' := 162) (lv' := [(5, .int 0), (6, .int v270), (0, .ref 115), (1, .int x1), (2, .int 0), (3, .int 1), (4, .int x4)]) kc_37_160 rfl rfl (xm_lt ml_37 rfl) ?_
            refine xi_aload_n (pc' := 163) (x := 115) kc_37_162 rfl rfl ?_
            refine xi_getfield (pc' := 166) (v := .ref 116) kc_37_163 rfl rfl rfl A14 rfl ?_
            refine xi_iload_n (pc' := 167) (x := x1) kc_37_166 rfl rfl ?_
            refine xi_iaload (pc' := 168) (v := v267) kc_37_167 rfl A265 (by decide) rfl (xi_in (by omega) (by rw [hy265]; omega)) ev267 ?_
            refine xi_aload_n (pc' := 169) (x := 115) kc_37_168 rfl rfl ?_
            refine xi_getfield (pc' := 172) (v := .ref 117) kc_37_169 rfl rfl rfl A14 rfl ?_
            refine xi_iload_n (pc' := 173) (x := x1) kc_37_172 rfl rfl ?_
            obtain ⟨y389, A389, hy389, ry389⟩ := xk_arr K.1 xD_117
            have R390 : xrp y389 6 (fun r => st r 1) := xra_ld (xr5_k I5 K (by decide +kernel)).2.1 A389
            obtain ⟨v391, ev391, bv391, dv391⟩ := xj_get hy389 ry389 (i := x1) (by omega) (by omega)
            refine xi_iaload (pc' := 174) (v := v391) kc_37_173 rfl A389 (by decide) rfl (xi_in (by omega) (by rw [hy389]; omega)) ev391 ?_
            have hlv391 : v391.toInt = st (Int32.toNatClampNeg x1) 1 := xrp_ld R390 (by omega) (by omega) ev391
            refine xi_static (mj := 22) (as := [.int v391]) (st1 := [.int v267]) (lv0 := [(0, .int v391)]) kc_37_174 rfl rfl (Nat.le_of_ble_eq_true rfl) rfl rfl (Nat.le_of_ble_eq_true rfl) (hJ _ _ _ _ (by decide)) (xm_le ml_22 rfl) rfl ?_
            refine xw_gm hJ hov1 hov2 (d := d + 2) (x0 := v391) (by omega) (fun r392 hr392 br392 => ?_)
            show xw J ov (d + 5) 37 (177, [(5, .int 0), (6, .int v270), (0, .ref 115), (1, .int x1), (2, .int 0), (3, .int 1), (4, .int x4)], [.int r392, .int v267], h) _
            obtain ⟨v393, ev393⟩ : ∃ q : Int32, (v267 : Int32) * r392 = q := ⟨_, rfl⟩
            have rv393 := xc_rng v393
            refine xi_imul (pc' := 178) (v := v393) kc_37_177 rfl ev393 ?_
            have eg : (r392 : Int32).toInt = xho (st x1.toNatClampNeg 1) := by rw [hr392, show (v391 : Int32).toInt = st x1.toNatClampNeg 1 by omega]
            obtain ⟨hb1, hb2⟩ := xair2 (show (v267 : Int32).toInt = st x1.toNatClampNeg 0 by omega) eg hqr.1 ⟨by omega, by omega⟩ ev393
            have hv := xro_v ha1 hb1
            refine xi_istore (pc' := 180) (lv' := [(7, .int v393), (5, .int 0), (6, .int v270), (0, .ref 115), (1, .int x1), (2, .int 0), (3, .int 1), (4, .int x4)]) kc_37_178 rfl rfl (xm_lt ml_37 rfl) ?_
            refine xi_iload (pc' := 182) (x := 0) kc_37_180 rfl rfl ?_
            refine xi_iload (pc' := 184) (x := v393) kc_37_182 rfl rfl ?_
            refine xi_cmt (pc' := 195) kc_37_184 rfl (xc_le_t (X := 0) (Y := v393.toInt) (by decide) rfl (by omega)) ?_
            refine xi_iconst (pc' := 196) (v := 0) kc_37_195 rfl rfl ?_
            refine xi_istore (pc' := 198) (lv' := [(8, .int 0), (7, .int v393), (5, .int 0), (6, .int v270), (0, .ref 115), (1, .int x1), (2, .int 0), (3, .int 1), (4, .int x4)]) kc_37_196 rfl rfl (xm_lt ml_37 rfl) ?_
            refine xi_aload_n (pc' := 199) (x := 115) kc_37_198 rfl rfl ?_
            refine xi_getfield (pc' := 202) (v := .ref 141) kc_37_199 rfl rfl rfl A14 rfl ?_
            refine xi_iload_n (pc' := 203) (x := x1) kc_37_202 rfl rfl ?_
            refine xi_iload (pc' := 205) (x := 0) kc_37_203 rfl rfl ?_
            refine xi_iload (pc' := 207) (x := 0) kc_37_205 rfl rfl ?_
            refine xi_isub (pc' := 208) (v := 0) kc_37_207 rfl rfl ?_
            obtain ⟨y394, A394, hy394, ry394⟩ := xk_arr K.1 xD_141
            have R395 : xrp y394 6 gw := xra_ld IA A394
            obtain ⟨y396, s396, hy396, ry396⟩ := xj_set (v := 0) hy394 ry394 x1 (by first | omega | decide) (by first | omega | decide)
            refine xi_iastore (pc' := 209) (x' := y396) kc_37_208 rfl A394 rfl (xi_in (by omega) (by rw [hy394]; omega)) s396 (fun hh396 eh396 => ?_)
            have K397 := xk_pa K (xk_wa (by decide +kernel)) xD_141 hy396 ry396 eh396
            have R398 : xrp y396 6 (xup gw (Int32.toNatClampNeg x1) (0 : Int32).toInt) := xrp_set R395 s396
            refine xi_iload (pc' := 211) (x := 0) kc_37_209 rfl rfl ?_
            refine xi_ift (pc' := 221) kc_37_211 rfl rfl ?_
            refine xi_return kc_37_221 mr_37 ?_
            have hsv : (0 : Int32).toInt = (xro (gw x1.toNatClampNeg) (xbh C hr ((x1.toNatClampNeg : Nat) : Int) (C 11 0).toNat + C (20 + x1.toNatClampNeg) (hr % 24).toNat) (st x1.toNatClampNeg 0) (st x1.toNatClampNeg 1) (st x1.toNatClampNeg 2 + (if st x1.toNatClampNeg 4 = 1 then st x1.toNatClampNeg 3 else 0)) (xho (C 10 hr.toNat))) := (show (0 : Int32).toInt = v285.toInt by omega).trans (hv.2 (by omega))
            have hR := R398
            rw [hsv] at hR
            exact kk hh396 K397 (xra_mk eh396.1 hR)
        · refine xi_cmt (pc' := 150) kc_37_138 rfl (xc_ne_t (X := v277.toInt) (Y := 1) rfl (by decide) (by omega)) ?_
          refine xi_iconst (pc' := 151) (v := 0) kc_37_150 rfl rfl ?_
          obtain ⟨v399, ev399⟩ : ∃ q : Int32, v274 + 0 = q := ⟨_, rfl⟩
          have zv399 : v399.toInt = v274.toInt := by rw [← ev399]; exact (xz_add (X := v274.toInt) (Y := 0) rfl (by decide) (by omega) (by omega)).trans (by omega)
          refine xi_iadd (pc' := 152) (v := v399) kc_37_151 rfl ev399 ?_
          obtain ⟨v400, ev400⟩ : ∃ q : Int32, (v271 : Int32) * v399 = q := ⟨_, rfl⟩
          have rv400 := xc_rng v400
          refine xi_imul (pc' := 153) (v := v400) kc_37_152 rfl ev400 ?_
          refine xi_bipush (pc' := 155) (v := 100) kc_37_153 rfl rfl ?_
          obtain ⟨v401, ev401⟩ : ∃ q : Int32, v400 / 100 = q := ⟨_, rfl⟩
          have dv401 : 100 * v401.toInt ≤ v400.toInt + 99 ∧ v400.toInt ≤ 100 * v401.toInt + 99 := by rw [← ev401]; exact xz_div (X := v400.toInt) (Y := 100) rfl (by decide) (by decide)
          have bv401 : -21474837 ≤ v401.toInt ∧ v401.toInt ≤ 21474837 := by omega
          refine xi_idiv (pc' := 156) (v := v401) kc_37_155 rfl ev401 (by decide) ?_
          obtain ⟨v402, ev402⟩ : ∃ q : Int32, 99999 - v401 = q := ⟨_, rfl⟩
          have zv402 : v402.toInt = ((-1) * v401.toInt + 99999) := by rw [← ev402]; exact (xz_sub (X := 99999) (Y := v401.toInt) (by decide) rfl (by omega) (by omega)).trans (by omega)
          refine xi_isub (pc' := 157) (v := v402) kc_37_156 rfl ev402 ?_
          have e6 : x6.toNatClampNeg = (C 11 0).toNat := by omega
          rw [e6] at hE
          have zc99999 : (99999 : Int32).toInt = 99999 := by decide
          have ew : (99999 : Int32).toInt = xcap (gw x1.toNatClampNeg + (xbh C hr ((x1.toNatClampNeg : Nat) : Int) (C 11 0).toNat + C (20 + x1.toNatClampNeg) (hr % 24).toNat)) := xcap_is (fun z => by omega) (fun z => by omega)
          have ec : (v399 : Int32).toInt = st x1.toNatClampNeg 2 + (if st x1.toNatClampNeg 4 = 1 then st x1.toNatClampNeg 3 else 0) := by rw [if_neg (show ¬ st x1.toNatClampNeg 4 = 1 by omega)]; omega
          have hcb := xho_b c10.1 c10.2
          have ehc : (r268 : Int32).toInt = xho (C 10 hr.toNat) := by rw [hr268, show (u6 : Int32).toInt = C 10 hr.toNat by omega]
          have hbe := xbh_b (C := C) (hr := hr) (r := ((x1.toNatClampNeg : Nat) : Int)) hC.2.2.1 (C 11 0).toNat (by omega)
          obtain ⟨ha1, ha2⟩ := xair1 ew (show (v267 : Int32).toInt = st x1.toNatClampNeg 0 by omega) ehc ec (xcap_b (by omega)) hqr.1 ⟨by omega, by omega⟩ (xc_of_fan hq (show x1.toNatClampNeg < 6 by omega)) ev269 ev270 ev271 ev400 ev401 ev402
          refine xi_static (mj := 39) (as := [.int v402]) (st1 := []) (lv0 := [(0, .int v402)]) kc_37_157 rfl rfl (Nat.le_of_ble_eq_true rfl) rfl rfl (Nat.le_of_ble_eq_true rfl) (hJ _ _ _ _ (by decide)) (xm_le ml_39 rfl) rfl ?_
          refine xi_iload_n (pc' := 1) (x := v402) kc_39_0 rfl rfl ?_
          by_cases c403 : 0 ≤ ((-1) * v401.toInt + 99999)
          · refine xi_ift (pc' := 8) kc_39_1 rfl (xc_ge_t (X := ((-1) * v401.toInt + 99999)) (Y := 0) zv402 (by decide) (by omega)) ?_
            refine xi_iload_n (pc' := 9) (x := v402) kc_39_8 rfl rfl ?_
            refine xi_ldc (pc' := 11) (v := 99999) kc_39_9 rfl rfl ?_
            by_cases c404 : ((-1) * v401.toInt + 99999) ≤ 99999
            · refine xi_cmt (pc' := 19) kc_39_11 rfl (xc_le_t (X := ((-1) * v401.toInt + 99999)) (Y := 99999) zv402 (by decide) (by omega)) ?_
              refine xi_iload_n (pc' := 20) (x := v402) kc_39_19 rfl rfl ?_
              refine xi_ireturn kc_39_20 mr_39 rfl ?_
              show xw J ov (d + 5) 37 (160, [(6, .int v270), (5, .int 99999), (0, .ref 115), (1, .int x1), (2, .int 0), (3, .int 1), (4, .int x4)], [.int v402], h) _
              refine xi_istore (pc' := 162) (lv' := [(5, .int v402), (6, .int v270), (0, .ref 115), (1, .int x1), (2, .int 0), (3, .int 1), (4, .int x4)]) kc_37_160 rfl rfl (xm_lt ml_37 rfl) ?_
              refine xi_aload_n (pc' := 163) (x := 115) kc_37_162 rfl rfl ?_
              refine xi_getfield (pc' := 166) (v := .ref 116) kc_37_163 rfl rfl rfl A14 rfl ?_
              refine xi_iload_n (pc' := 167) (x := x1) kc_37_166 rfl rfl ?_
              refine xi_iaload (pc' := 168) (v := v267) kc_37_167 rfl A265 (by decide) rfl (xi_in (by omega) (by rw [hy265]; omega)) ev267 ?_
              refine xi_aload_n (pc' := 169) (x := 115) kc_37_168 rfl rfl ?_
              refine xi_getfield (pc' := 172) (v := .ref 117) kc_37_169 rfl rfl rfl A14 rfl ?_
              refine xi_iload_n (pc' := 173) (x := x1) kc_37_172 rfl rfl ?_
              obtain ⟨y405, A405, hy405, ry405⟩ := xk_arr K.1 xD_117
              have R406 : xrp y405 6 (fun r => st r 1) := xra_ld (xr5_k I5 K (by decide +kernel)).2.1 A405
              obtain ⟨v407, ev407, bv407, dv407⟩ := xj_get hy405 ry405 (i := x1) (by omega) (by omega)
              refine xi_iaload (pc' := 174) (v := v407) kc_37_173 rfl A405 (by decide) rfl (xi_in (by omega) (by rw [hy405]; omega)) ev407 ?_
              have hlv407 : v407.toInt = st (Int32.toNatClampNeg x1) 1 := xrp_ld R406 (by omega) (by omega) ev407
              refine xi_static (mj := 22) (as := [.int v407]) (st1 := [.int v267]) (lv0 := [(0, .int v407)]) kc_37_174 rfl rfl (Nat.le_of_ble_eq_true rfl) rfl rfl (Nat.le_of_ble_eq_true rfl) (hJ _ _ _ _ (by decide)) (xm_le ml_22 rfl) rfl ?_
              refine xw_gm hJ hov1 hov2 (d := d + 2) (x0 := v407) (by omega) (fun r408 hr408 br408 => ?_)
              show xw J ov (d + 5) 37 (177, [(5, .int v402), (6, .int v270), (0, .ref 115), (1, .int x1), (2, .int 0), (3, .int 1), (4, .int x4)], [.int r408, .int v267], h) _
              obtain ⟨v409, ev409⟩ : ∃ q : Int32, (v267 : Int32) * r408 = q := ⟨_, rfl⟩
              have rv409 := xc_rng v409
              refine xi_imul (pc' := 178) (v := v409) kc_37_177 rfl ev409 ?_
              have eg : (r408 : Int32).toInt = xho (st x1.toNatClampNeg 1) := by rw [hr408, show (v407 : Int32).toInt = st x1.toNatClampNeg 1 by omega]
              obtain ⟨hb1, hb2⟩ := xair2 (show (v267 : Int32).toInt = st x1.toNatClampNeg 0 by omega) eg hqr.1 ⟨by omega, by omega⟩ ev409
              have hv := xro_v ha1 hb1
              refine xi_istore (pc' := 180) (lv' := [(7, .int v409), (5, .int v402), (6, .int v270), (0, .ref 115), (1, .int x1), (2, .int 0), (3, .int 1), (4, .int x4)]) kc_37_178 rfl rfl (xm_lt ml_37 rfl) ?_
              refine xi_iload (pc' := 182) (x := v402) kc_37_180 rfl rfl ?_
              refine xi_iload (pc' := 184) (x := v409) kc_37_182 rfl rfl ?_
              by_cases c410 : ((-1) * v401.toInt + 99999) ≤ v409.toInt
              · refine xi_cmt (pc' := 195) kc_37_184 rfl (xc_le_t (X := ((-1) * v401.toInt + 99999)) (Y := v409.toInt) zv402 rfl (by omega)) ?_
                refine xi_iconst (pc' := 196) (v := 0) kc_37_195 rfl rfl ?_
                refine xi_istore (pc' := 198) (lv' := [(8, .int 0), (7, .int v409), (5, .int v402), (6, .int v270), (0, .ref 115), (1, .int x1), (2, .int 0), (3, .int 1), (4, .int x4)]) kc_37_196 rfl rfl (xm_lt ml_37 rfl) ?_
                refine xi_aload_n (pc' := 199) (x := 115) kc_37_198 rfl rfl ?_
                refine xi_getfield (pc' := 202) (v := .ref 141) kc_37_199 rfl rfl rfl A14 rfl ?_
                refine xi_iload_n (pc' := 203) (x := x1) kc_37_202 rfl rfl ?_
                refine xi_iload (pc' := 205) (x := v402) kc_37_203 rfl rfl ?_
                refine xi_iload (pc' := 207) (x := 0) kc_37_205 rfl rfl ?_
                obtain ⟨v411, ev411⟩ : ∃ q : Int32, v402 - 0 = q := ⟨_, rfl⟩
                have zv411 : v411.toInt = ((-1) * v401.toInt + 99999) := by rw [← ev411]; exact (xz_sub (X := ((-1) * v401.toInt + 99999)) (Y := 0) zv402 (by decide) (by omega) (by omega)).trans (by omega)
                refine xi_isub (pc' := 208) (v := v411) kc_37_207 rfl ev411 ?_
                obtain ⟨y412, A412, hy412, ry412⟩ := xk_arr K.1 xD_141
                have R413 : xrp y412 6 gw := xra_ld IA A412
                obtain ⟨y414, s414, hy414, ry414⟩ := xj_set (v := v411) hy412 ry412 x1 (by first | omega | decide) (by first | omega | decide)
                refine xi_iastore (pc' := 209) (x' := y414) kc_37_208 rfl A412 rfl (xi_in (by omega) (by rw [hy412]; omega)) s414 (fun hh414 eh414 => ?_)
                have K415 := xk_pa K (xk_wa (by decide +kernel)) xD_141 hy414 ry414 eh414
                have R416 : xrp y414 6 (xup gw (Int32.toNatClampNeg x1) (v411 : Int32).toInt) := xrp_set R413 s414
                refine xi_iload (pc' := 211) (x := 0) kc_37_209 rfl rfl ?_
                refine xi_ift (pc' := 221) kc_37_211 rfl rfl ?_
                refine xi_return kc_37_221 mr_37 ?_
                have hsv : (v411 : Int32).toInt = (xro (gw x1.toNatClampNeg) (xbh C hr ((x1.toNatClampNeg : Nat) : Int) (C 11 0).toNat + C (20 + x1.toNatClampNeg) (hr % 24).toNat) (st x1.toNatClampNeg 0) (st x1.toNatClampNeg 1) (st x1.toNatClampNeg 2 + (if st x1.toNatClampNeg 4 = 1 then st x1.toNatClampNeg 3 else 0)) (xho (C 10 hr.toNat))) := (show (v411 : Int32).toInt = v402.toInt by omega).trans (hv.2 (by omega))
                have hR := R416
                rw [hsv] at hR
                exact kk hh414 K415 (xra_mk eh414.1 hR)
              · refine xi_cmf (pc' := 187) kc_37_184 rfl (xc_le_f (X := ((-1) * v401.toInt + 99999)) (Y := v409.toInt) zv402 rfl (by omega)) ?_
                refine xi_iload (pc' := 189) (x := v402) kc_37_187 rfl rfl ?_
                refine xi_iload (pc' := 191) (x := v409) kc_37_189 rfl rfl ?_
                obtain ⟨v417, ev417⟩ : ∃ q : Int32, v402 - v409 = q := ⟨_, rfl⟩
                have zv417 : v417.toInt = ((-1) * v401.toInt + (-1) * v409.toInt + 99999) := by rw [← ev417]; exact (xz_sub (X := ((-1) * v401.toInt + 99999)) (Y := v409.toInt) zv402 rfl (by omega) (by omega)).trans (by omega)
                refine xi_isub (pc' := 192) (v := v417) kc_37_191 rfl ev417 ?_
                refine xi_goto (pc' := 196) kc_37_192 rfl ?_
                refine xi_istore (pc' := 198) (lv' := [(8, .int v417), (7, .int v409), (5, .int v402), (6, .int v270), (0, .ref 115), (1, .int x1), (2, .int 0), (3, .int 1), (4, .int x4)]) kc_37_196 rfl rfl (xm_lt ml_37 rfl) ?_
                refine xi_aload_n (pc' := 199) (x := 115) kc_37_198 rfl rfl ?_
                refine xi_getfield (pc' := 202) (v := .ref 141) kc_37_199 rfl rfl rfl A14 rfl ?_
                refine xi_iload_n (pc' := 203) (x := x1) kc_37_202 rfl rfl ?_
                refine xi_iload (pc' := 205) (x := v402) kc_37_203 rfl rfl ?_
                refine xi_iload (pc' := 207) (x := v417) kc_37_205 rfl rfl ?_
                obtain ⟨v418, ev418⟩ : ∃ q : Int32, v402 - v417 = q := ⟨_, rfl⟩
                have zv418 : v418.toInt = v409.toInt := by rw [← ev418]; exact (xz_sub (X := ((-1) * v401.toInt + 99999)) (Y := ((-1) * v401.toInt + (-1) * v409.toInt + 99999)) zv402 zv417 (by omega) (by omega)).trans (by omega)
                refine xi_isub (pc' := 208) (v := v418) kc_37_207 rfl ev418 ?_
                obtain ⟨y419, A419, hy419, ry419⟩ := xk_arr K.1 xD_141
                have R420 : xrp y419 6 gw := xra_ld IA A419
                obtain ⟨y421, s421, hy421, ry421⟩ := xj_set (v := v418) hy419 ry419 x1 (by first | omega | decide) (by first | omega | decide)
                refine xi_iastore (pc' := 209) (x' := y421) kc_37_208 rfl A419 rfl (xi_in (by omega) (by rw [hy419]; omega)) s421 (fun hh421 eh421 => ?_)
                have K422 := xk_pa K (xk_wa (by decide +kernel)) xD_141 hy421 ry421 eh421
                have R423 : xrp y421 6 (xup gw (Int32.toNatClampNeg x1) (v418 : Int32).toInt) := xrp_set R420 s421
                refine xi_iload (pc' := 211) (x := v417) kc_37_209 rfl rfl ?_
                refine xi_iff (pc' := 214) kc_37_211 rfl (xc_le_f (X := ((-1) * v401.toInt + (-1) * v409.toInt + 99999)) (Y := 0) zv417 (by decide) (by omega)) ?_
                refine xi_aload_n (pc' := 215) (x := 115) kc_37_214 rfl rfl ?_
                refine xi_iload_n (pc' := 216) (x := x1) kc_37_215 rfl rfl ?_
                refine xi_iload (pc' := 218) (x := v417) kc_37_216 rfl rfl ?_
                have A424 := ((eh421.2.1 115 (by decide)).trans A14)
                refine xi_virtual (mj := 40) (as := [.int x1, .int v417]) (st1 := []) (lv0 := [(0, .ref 115), (1, .int x1), (2, .int v417)]) kc_37_218 rfl rfl rfl rfl rfl A424 (Nat.le_of_ble_eq_true rfl) (hJ _ _ _ _ (by decide)) (xm_le ml_40 rfl) rfl ?_
                refine mt_40_0 hJ hov1 hov2 (d := d + 2) (x1 := x1) (x2 := v417) K422.1 (by first | omega | decide) (by first | omega | decide) (fun hh426 K427 => ?_)
                have A428 := ((eh421.2.1 116 (by decide)).trans A265)
                have A429 := ((eh421.2.1 118 (by decide)).trans A272)
                have A430 := ((eh421.2.1 120 (by decide)).trans A275)
                have A431 := ((eh421.2.1 117 (by decide)).trans A405)
                have K432 := xk_tr K422 K427 (xsb_ok _ _ (by decide +kernel))
                obtain ⟨u433, u434, u435, u436, u437, u438, u439, u440, u441, u442, u443, u444, u445, bu433, bu434, bu435, bu436, bu437, bu438, bu439, bu440, bu441, bu442, bu443, bu444, bu445, A446⟩ := xq_115 K432.1
                have C447 : xcM hh426 C := xcM_k C0 K432 (by decide +kernel)
                have hfu437 : u437.toInt = (C 11 0) := xfi_ld C447.1 A446 rfl
                have hfu440 : u440.toInt = (C 12 0) := xfi_ld C447.2.1 A446 rfl
                have hfu438 : u438.toInt = (C 10 hr.toNat) := xfi_ld (xfi_fr Fc (K432.2.1 (115, 32) (by decide +kernel))) A446 rfl
                have bru438 : (-20) ≤ u438.toInt ∧ u438.toInt ≤ 99 := by omega
                have e448 : u2 = u434 := xk_eqi (q := 1) K427 (by decide +kernel) A424 A446 rfl rfl
                subst e448
                have e449 : u5 = u437 := xk_eqi (q := 23) K427 (by decide +kernel) A424 A446 rfl rfl
                subst e449
                have e450 : u8 = u440 := xk_eqi (q := 34) K427 (by decide +kernel) A424 A446 rfl rfl
                subst e450
                have e451 : u6 = u438 := xk_eqi (q := 32) K427 (by decide +kernel) A424 A446 rfl rfl
                subst e451
                have A452 := xk_eqa (q := 0) K427 (by decide +kernel) A428
                have A453 := xk_eqa (q := 0) K427 (by decide +kernel) A429
                have A454 := xk_eqa (q := 0) K427 (by decide +kernel) A430
                have A455 := xk_eqa (q := 0) K427 (by decide +kernel) A431
                have A456 := xk_eqa (q := 0) K427 (by decide +kernel) eh421.1
                show xw J ov (d + 5) 37 (221, [(8, .int v417), (7, .int v409), (5, .int v402), (6, .int v270), (0, .ref 115), (1, .int x1), (2, .int 0), (3, .int 1), (4, .int x4)], [], hh426) _
                refine xi_return kc_37_221 mr_37 ?_
                have hsv : (v418 : Int32).toInt = (xro (gw x1.toNatClampNeg) (xbh C hr ((x1.toNatClampNeg : Nat) : Int) (C 11 0).toNat + C (20 + x1.toNatClampNeg) (hr % 24).toNat) (st x1.toNatClampNeg 0) (st x1.toNatClampNeg 1) (st x1.toNatClampNeg 2 + (if st x1.toNatClampNeg 4 = 1 then st x1.toNatClampNeg 3 else 0)) (xho (C 10 hr.toNat))) := (show (v418 : Int32).toInt = v409.toInt by omega).trans (hv.1 (by omega))
                have hR := R423
                rw [hsv] at hR
                exact kk hh426 K432 (xra_mk A456 hR)
            · refine xi_cmf (pc' := 14) kc_39_11 rfl (xc_le_f (X := ((-1) * v401.toInt + 99999)) (Y := 99999) zv402 (by decide) (by omega)) ?_
              refine xi_ldc (pc' := 16) (v := 99999) kc_39_14 rfl rfl ?_
              refine xi_goto (pc' := 20) kc_39_16 rfl ?_
              refine xi_ireturn kc_39_20 mr_39 rfl ?_
              show xw J ov (d + 5) 37 (160, [(6, .int v270), (5, .int 99999), (0, .ref 115), (1, .int x1), (2, .int 0), (3, .int 1), (4, .int x4)], [.int 99999], h) _
              refine xi_istore (pc' := 162) (lv' := [(5, .int 99999), (6, .int v270), (0, .ref 115), (1, .int x1), (2, .int 0), (3, .int 1), (4, .int x4)]) kc_37_160 rfl rfl (xm_lt ml_37 rfl) ?_
              refine xi_aload_n (pc' := 163) (x := 115) kc_37_162 rfl rfl ?_
              refine xi_getfield (pc' := 166) (v := .ref 116) kc_37_163 rfl rfl rfl A14 rfl ?_
              refine xi_iload_n (pc' := 167) (x := x1) kc_37_166 rfl rfl ?_
              refine xi_iaload (pc' := 168) (v := v267) kc_37_167 rfl A265 (by decide) rfl (xi_in (by omega) (by rw [hy265]; omega)) ev267 ?_
              refine xi_aload_n (pc' := 169) (x := 115) kc_37_168 rfl rfl ?_
              refine xi_getfield (pc' := 172) (v := .ref 117) kc_37_169 rfl rfl rfl A14 rfl ?_
              refine xi_iload_n (pc' := 173) (x := x1) kc_37_172 rfl rfl ?_
              obtain ⟨y457, A457, hy457, ry457⟩ := xk_arr K.1 xD_117
              have R458 : xrp y457 6 (fun r => st r 1) := xra_ld (xr5_k I5 K (by decide +kernel)).2.1 A457
              obtain ⟨v459, ev459, bv459, dv459⟩ := xj_get hy457 ry457 (i := x1) (by omega) (by omega)
              refine xi_iaload (pc' := 174) (v := v459) kc_37_173 rfl A457 (by decide) rfl (xi_in (by omega) (by rw [hy457]; omega)) ev459 ?_
              have hlv459 : v459.toInt = st (Int32.toNatClampNeg x1) 1 := xrp_ld R458 (by omega) (by omega) ev459
              refine xi_static (mj := 22) (as := [.int v459]) (st1 := [.int v267]) (lv0 := [(0, .int v459)]) kc_37_174 rfl rfl (Nat.le_of_ble_eq_true rfl) rfl rfl (Nat.le_of_ble_eq_true rfl) (hJ _ _ _ _ (by decide)) (xm_le ml_22 rfl) rfl ?_
              refine xw_gm hJ hov1 hov2 (d := d + 2) (x0 := v459) (by omega) (fun r460 hr460 br460 => ?_)
              show xw J ov (d + 5) 37 (177, [(5, .int 99999), (6, .int v270), (0, .ref 115), (1, .int x1), (2, .int 0), (3, .int 1), (4, .int x4)], [.int r460, .int v267], h) _
              obtain ⟨v461, ev461⟩ : ∃ q : Int32, (v267 : Int32) * r460 = q := ⟨_, rfl⟩
              have rv461 := xc_rng v461
              refine xi_imul (pc' := 178) (v := v461) kc_37_177 rfl ev461 ?_
              have eg : (r460 : Int32).toInt = xho (st x1.toNatClampNeg 1) := by rw [hr460, show (v459 : Int32).toInt = st x1.toNatClampNeg 1 by omega]
              obtain ⟨hb1, hb2⟩ := xair2 (show (v267 : Int32).toInt = st x1.toNatClampNeg 0 by omega) eg hqr.1 ⟨by omega, by omega⟩ ev461
              have hv := xro_v ha1 hb1
              refine xi_istore (pc' := 180) (lv' := [(7, .int v461), (5, .int 99999), (6, .int v270), (0, .ref 115), (1, .int x1), (2, .int 0), (3, .int 1), (4, .int x4)]) kc_37_178 rfl rfl (xm_lt ml_37 rfl) ?_
              refine xi_iload (pc' := 182) (x := 99999) kc_37_180 rfl rfl ?_
              refine xi_iload (pc' := 184) (x := v461) kc_37_182 rfl rfl ?_
              refine xi_cmf (pc' := 187) kc_37_184 rfl (xc_le_f (X := 99999) (Y := v461.toInt) (by decide) rfl (by omega)) ?_
              refine xi_iload (pc' := 189) (x := 99999) kc_37_187 rfl rfl ?_
              refine xi_iload (pc' := 191) (x := v461) kc_37_189 rfl rfl ?_
              obtain ⟨v462, ev462⟩ : ∃ q : Int32, 99999 - v461 = q := ⟨_, rfl⟩
              have zv462 : v462.toInt = ((-1) * v461.toInt + 99999) := by rw [← ev462]; exact (xz_sub (X := 99999) (Y := v461.toInt) (by decide) rfl (by omega) (by omega)).trans (by omega)
              refine xi_isub (pc' := 192) (v := v462) kc_37_191 rfl ev462 ?_
              refine xi_goto (pc' := 196) kc_37_192 rfl ?_
              refine xi_istore (pc' := 198) (lv' := [(8, .int v462), (7, .int v461), (5, .int 99999), (6, .int v270), (0, .ref 115), (1, .int x1), (2, .int 0), (3, .int 1), (4, .int x4)]) kc_37_196 rfl rfl (xm_lt ml_37 rfl) ?_
              refine xi_aload_n (pc' := 199) (x := 115) kc_37_198 rfl rfl ?_
              refine xi_getfield (pc' := 202) (v := .ref 141) kc_37_199 rfl rfl rfl A14 rfl ?_
              refine xi_iload_n (pc' := 203) (x := x1) kc_37_202 rfl rfl ?_
              refine xi_iload (pc' := 205) (x := 99999) kc_37_203 rfl rfl ?_
              refine xi_iload (pc' := 207) (x := v462) kc_37_205 rfl rfl ?_
              obtain ⟨v463, ev463⟩ : ∃ q : Int32, 99999 - v462 = q := ⟨_, rfl⟩
              have zv463 : v463.toInt = v461.toInt := by rw [← ev463]; exact (xz_sub (X := 99999) (Y := ((-1) * v461.toInt + 99999)) (by decide) zv462 (by omega) (by omega)).trans (by omega)
              refine xi_isub (pc' := 208) (v := v463) kc_37_207 rfl ev463 ?_
              obtain ⟨y464, A464, hy464, ry464⟩ := xk_arr K.1 xD_141
              have R465 : xrp y464 6 gw := xra_ld IA A464
              obtain ⟨y466, s466, hy466, ry466⟩ := xj_set (v := v463) hy464 ry464 x1 (by first | omega | decide) (by first | omega | decide)
              refine xi_iastore (pc' := 209) (x' := y466) kc_37_208 rfl A464 rfl (xi_in (by omega) (by rw [hy464]; omega)) s466 (fun hh466 eh466 => ?_)
              have K467 := xk_pa K (xk_wa (by decide +kernel)) xD_141 hy466 ry466 eh466
              have R468 : xrp y466 6 (xup gw (Int32.toNatClampNeg x1) (v463 : Int32).toInt) := xrp_set R465 s466
              refine xi_iload (pc' := 211) (x := v462) kc_37_209 rfl rfl ?_
              refine xi_iff (pc' := 214) kc_37_211 rfl (xc_le_f (X := ((-1) * v461.toInt + 99999)) (Y := 0) zv462 (by decide) (by omega)) ?_
              refine xi_aload_n (pc' := 215) (x := 115) kc_37_214 rfl rfl ?_
              refine xi_iload_n (pc' := 216) (x := x1) kc_37_215 rfl rfl ?_
              refine xi_iload (pc' := 218) (x := v462) kc_37_216 rfl rfl ?_
              have A469 := ((eh466.2.1 115 (by decide)).trans A14)
              refine xi_virtual (mj := 40) (as := [.int x1, .int v462]) (st1 := []) (lv0 := [(0, .ref 115), (1, .int x1), (2, .int v462)]) kc_37_218 rfl rfl rfl rfl rfl A469 (Nat.le_of_ble_eq_true rfl) (hJ _ _ _ _ (by decide)) (xm_le ml_40 rfl) rfl ?_
              refine mt_40_0 hJ hov1 hov2 (d := d + 2) (x1 := x1) (x2 := v462) K467.1 (by first | omega | decide) (by first | omega | decide) (fun hh471 K472 => ?_)
              have A473 := ((eh466.2.1 116 (by decide)).trans A265)
              have A474 := ((eh466.2.1 118 (by decide)).trans A272)
              have A475 := ((eh466.2.1 120 (by decide)).trans A275)
              have A476 := ((eh466.2.1 117 (by decide)).trans A457)
              have K477 := xk_tr K467 K472 (xsb_ok _ _ (by decide +kernel))
              obtain ⟨u478, u479, u480, u481, u482, u483, u484, u485, u486, u487, u488, u489, u490, bu478, bu479, bu480, bu481, bu482, bu483, bu484, bu485, bu486, bu487, bu488, bu489, bu490, A491⟩ := xq_115 K477.1
              have C492 : xcM hh471 C := xcM_k C0 K477 (by decide +kernel)
              have hfu482 : u482.toInt = (C 11 0) := xfi_ld C492.1 A491 rfl
              have hfu485 : u485.toInt = (C 12 0) := xfi_ld C492.2.1 A491 rfl
              have hfu483 : u483.toInt = (C 10 hr.toNat) := xfi_ld (xfi_fr Fc (K477.2.1 (115, 32) (by decide +kernel))) A491 rfl
              have bru483 : (-20) ≤ u483.toInt ∧ u483.toInt ≤ 99 := by omega
              have e493 : u2 = u479 := xk_eqi (q := 1) K472 (by decide +kernel) A469 A491 rfl rfl
              subst e493
              have e494 : u5 = u482 := xk_eqi (q := 23) K472 (by decide +kernel) A469 A491 rfl rfl
              subst e494
              have e495 : u8 = u485 := xk_eqi (q := 34) K472 (by decide +kernel) A469 A491 rfl rfl
              subst e495
              have e496 : u6 = u483 := xk_eqi (q := 32) K472 (by decide +kernel) A469 A491 rfl rfl
              subst e496
              have A497 := xk_eqa (q := 0) K472 (by decide +kernel) A473
              have A498 := xk_eqa (q := 0) K472 (by decide +kernel) A474
              have A499 := xk_eqa (q := 0) K472 (by decide +kernel) A475
              have A500 := xk_eqa (q := 0) K472 (by decide +kernel) A476
              have A501 := xk_eqa (q := 0) K472 (by decide +kernel) eh466.1
              show xw J ov (d + 5) 37 (221, [(8, .int v462), (7, .int v461), (5, .int 99999), (6, .int v270), (0, .ref 115), (1, .int x1), (2, .int 0), (3, .int 1), (4, .int x4)], [], hh471) _
              refine xi_return kc_37_221 mr_37 ?_
              have hsv : (v463 : Int32).toInt = (xro (gw x1.toNatClampNeg) (xbh C hr ((x1.toNatClampNeg : Nat) : Int) (C 11 0).toNat + C (20 + x1.toNatClampNeg) (hr % 24).toNat) (st x1.toNatClampNeg 0) (st x1.toNatClampNeg 1) (st x1.toNatClampNeg 2 + (if st x1.toNatClampNeg 4 = 1 then st x1.toNatClampNeg 3 else 0)) (xho (C 10 hr.toNat))) := (show (v463 : Int32).toInt = v461.toInt by omega).trans (hv.1 (by omega))
              have hR := R468
              rw [hsv] at hR
              exact kk hh471 K477 (xra_mk A501 hR)
          · refine xi_iff (pc' := 4) kc_39_1 rfl (xc_ge_f (X := ((-1) * v401.toInt + 99999)) (Y := 0) zv402 (by decide) (by omega)) ?_
            refine xi_iconst (pc' := 5) (v := 0) kc_39_4 rfl rfl ?_
            refine xi_goto (pc' := 20) kc_39_5 rfl ?_
            refine xi_ireturn kc_39_20 mr_39 rfl ?_
            show xw J ov (d + 5) 37 (160, [(6, .int v270), (5, .int 99999), (0, .ref 115), (1, .int x1), (2, .int 0), (3, .int 1), (4, .int x4)], [.int 0], h) _
            refine xi_istore (pc' := 162) (lv' := [(5, .int 0), (6, .int v270), (0, .ref 115), (1, .int x1), (2, .int 0), (3, .int 1), (4, .int x4)]) kc_37_160 rfl rfl (xm_lt ml_37 rfl) ?_
            refine xi_aload_n (pc' := 163) (x := 115) kc_37_162 rfl rfl ?_
            refine xi_getfield (pc' := 166) (v := .ref 116) kc_37_163 rfl rfl rfl A14 rfl ?_
            refine xi_iload_n (pc' := 167) (x := x1) kc_37_166 rfl rfl ?_
            refine xi_iaload (pc' := 168) (v := v267) kc_37_167 rfl A265 (by decide) rfl (xi_in (by omega) (by rw [hy265]; omega)) ev267 ?_
            refine xi_aload_n (pc' := 169) (x := 115) kc_37_168 rfl rfl ?_
            refine xi_getfield (pc' := 172) (v := .ref 117) kc_37_169 rfl rfl rfl A14 rfl ?_
            refine xi_iload_n (pc' := 173) (x := x1) kc_37_172 rfl rfl ?_
            obtain ⟨y502, A502, hy502, ry502⟩ := xk_arr K.1 xD_117
            have R503 : xrp y502 6 (fun r => st r 1) := xra_ld (xr5_k I5 K (by decide +kernel)).2.1 A502
            obtain ⟨v504, ev504, bv504, dv504⟩ := xj_get hy502 ry502 (i := x1) (by omega) (by omega)
            refine xi_iaload (pc' := 174) (v := v504) kc_37_173 rfl A502 (by decide) rfl (xi_in (by omega) (by rw [hy502]; omega)) ev504 ?_
            have hlv504 : v504.toInt = st (Int32.toNatClampNeg x1) 1 := xrp_ld R503 (by omega) (by omega) ev504
            refine xi_static (mj := 22) (as := [.int v504]) (st1 := [.int v267]) (lv0 := [(0, .int v504)]) kc_37_174 rfl rfl (Nat.le_of_ble_eq_true rfl) rfl rfl (Nat.le_of_ble_eq_true rfl) (hJ _ _ _ _ (by decide)) (xm_le ml_22 rfl) rfl ?_
            refine xw_gm hJ hov1 hov2 (d := d + 2) (x0 := v504) (by omega) (fun r505 hr505 br505 => ?_)
            show xw J ov (d + 5) 37 (177, [(5, .int 0), (6, .int v270), (0, .ref 115), (1, .int x1), (2, .int 0), (3, .int 1), (4, .int x4)], [.int r505, .int v267], h) _
            obtain ⟨v506, ev506⟩ : ∃ q : Int32, (v267 : Int32) * r505 = q := ⟨_, rfl⟩
            have rv506 := xc_rng v506
            refine xi_imul (pc' := 178) (v := v506) kc_37_177 rfl ev506 ?_
            have eg : (r505 : Int32).toInt = xho (st x1.toNatClampNeg 1) := by rw [hr505, show (v504 : Int32).toInt = st x1.toNatClampNeg 1 by omega]
            obtain ⟨hb1, hb2⟩ := xair2 (show (v267 : Int32).toInt = st x1.toNatClampNeg 0 by omega) eg hqr.1 ⟨by omega, by omega⟩ ev506
            have hv := xro_v ha1 hb1
            refine xi_istore (pc' := 180) (lv' := [(7, .int v506), (5, .int 0), (6, .int v270), (0, .ref 115), (1, .int x1), (2, .int 0), (3, .int 1), (4, .int x4)]) kc_37_178 rfl rfl (xm_lt ml_37 rfl) ?_
            refine xi_iload (pc' := 182) (x := 0) kc_37_180 rfl rfl ?_
            refine xi_iload (pc' := 184) (x := v506) kc_37_182 rfl rfl ?_
            refine xi_cmt (pc' := 195) kc_37_184 rfl (xc_le_t (X := 0) (Y := v506.toInt) (by decide) rfl (by omega)) ?_
            refine xi_iconst (pc' := 196) (v := 0) kc_37_195 rfl rfl ?_
            refine xi_istore (pc' := 198) (lv' := [(8, .int 0), (7, .int v506), (5, .int 0), (6, .int v270), (0, .ref 115), (1, .int x1), (2, .int 0), (3, .int 1), (4, .int x4)]) kc_37_196 rfl rfl (xm_lt ml_37 rfl) ?_
            refine xi_aload_n (pc' := 199) (x := 115) kc_37_198 rfl rfl ?_
            refine xi_getfield (pc' := 202) (v := .ref 141) kc_37_199 rfl rfl rfl A14 rfl ?_
            refine xi_iload_n (pc' := 203) (x := x1) kc_37_202 rfl rfl ?_
            refine xi_iload (pc' := 205) (x := 0) kc_37_203 rfl rfl ?_
            refine xi_iload (pc' := 207) (x := 0) kc_37_205 rfl rfl ?_
            refine xi_isub (pc' := 208) (v := 0) kc_37_207 rfl rfl ?_
            obtain ⟨y507, A507, hy507, ry507⟩ := xk_arr K.1 xD_141
            have R508 : xrp y507 6 gw := xra_ld IA A507
            obtain ⟨y509, s509, hy509, ry509⟩ := xj_set (v := 0) hy507 ry507 x1 (by first | omega | decide) (by first | omega | decide)
            refine xi_iastore (pc' := 209) (x' := y509) kc_37_208 rfl A507 rfl (xi_in (by omega) (by rw [hy507]; omega)) s509 (fun hh509 eh509 => ?_)
            have K510 := xk_pa K (xk_wa (by decide +kernel)) xD_141 hy509 ry509 eh509
            have R511 : xrp y509 6 (xup gw (Int32.toNatClampNeg x1) (0 : Int32).toInt) := xrp_set R508 s509
            refine xi_iload (pc' := 211) (x := 0) kc_37_209 rfl rfl ?_
            refine xi_ift (pc' := 221) kc_37_211 rfl rfl ?_
            refine xi_return kc_37_221 mr_37 ?_
            have hsv : (0 : Int32).toInt = (xro (gw x1.toNatClampNeg) (xbh C hr ((x1.toNatClampNeg : Nat) : Int) (C 11 0).toNat + C (20 + x1.toNatClampNeg) (hr % 24).toNat) (st x1.toNatClampNeg 0) (st x1.toNatClampNeg 1) (st x1.toNatClampNeg 2 + (if st x1.toNatClampNeg 4 = 1 then st x1.toNatClampNeg 3 else 0)) (xho (C 10 hr.toNat))) := (show (0 : Int32).toInt = v402.toInt by omega).trans (hv.2 (by omega))
            have hR := R511
            rw [hsv] at hR
            exact kk hh509 K510 (xra_mk eh509.1 hR)
    · refine xi_cmf (pc' := 36) kc_37_33 rfl (xc_ge_f (X := x6.toInt) (Y := u5.toInt) rfl rfl (by omega)) ?_
      refine xi_iload (pc' := 38) (x := x5) kc_37_36 rfl rfl ?_
      refine xi_aload_n (pc' := 39) (x := 115) kc_37_38 rfl rfl ?_
      refine xi_getfield (pc' := 42) (v := .ref 135) kc_37_39 rfl rfl rfl A14 rfl ?_
      refine xi_iload (pc' := 44) (x := x6) kc_37_42 rfl rfl ?_
      obtain ⟨y512, A512, hy512, ry512⟩ := xk_arr K.1 xD_135
      have R513 : xrp y512 10 (C 0) := xra_ld C15.2.2.2.2.1 A512
      obtain ⟨v514, ev514, bv514, dv514⟩ := xj_get hy512 ry512 (i := x6) (by omega) (by omega)
      refine xi_iaload (pc' := 45) (v := v514) kc_37_44 rfl A512 (by decide) rfl (xi_in (by omega) (by rw [hy512]; omega)) ev514 ?_
      have hlv514 : v514.toInt = (C 0) (Int32.toNatClampNeg x6) := xrp_ld R513 (by omega) (by omega) ev514
      refine xi_iconst (pc' := 46) (v := 3) kc_37_45 rfl rfl ?_
      by_cases c515 : v514.toInt = 3
      · refine xi_cmf (pc' := 49) kc_37_46 rfl (xc_ne_f (X := v514.toInt) (Y := 3) rfl (by decide) (by omega)) ?_
        refine xi_aload_n (pc' := 50) (x := 115) kc_37_49 rfl rfl ?_
        refine xi_getfield (pc' := 53) (v := .ref 136) kc_37_50 rfl rfl rfl A14 rfl ?_
        refine xi_iload (pc' := 55) (x := x6) kc_37_53 rfl rfl ?_
        obtain ⟨y516, A516, hy516, ry516⟩ := xk_arr K.1 xD_136
        have R517 : xrp y516 10 (C 1) := xra_ld C15.2.2.2.2.2.1 A516
        obtain ⟨v518, ev518, bv518, dv518⟩ := xj_get hy516 ry516 (i := x6) (by omega) (by omega)
        refine xi_iaload (pc' := 56) (v := v518) kc_37_55 rfl A516 (by decide) rfl (xi_in (by omega) (by rw [hy516]; omega)) ev518 ?_
        have hlv518 : v518.toInt = (C 1) (Int32.toNatClampNeg x6) := xrp_ld R517 (by omega) (by omega) ev518
        refine xi_iload_n (pc' := 57) (x := x1) kc_37_56 rfl rfl ?_
        by_cases c519 : v518.toInt = x1.toInt
        · refine xi_cmf (pc' := 60) kc_37_57 rfl (xc_ne_f (X := v518.toInt) (Y := x1.toInt) rfl rfl (by omega)) ?_
          refine xi_aload_n (pc' := 61) (x := 115) kc_37_60 rfl rfl ?_
          refine xi_iload (pc' := 63) (x := x6) kc_37_61 rfl rfl ?_
          refine xi_iload_n (pc' := 64) (x := 0) kc_37_63 rfl rfl ?_
          refine xi_iload_n (pc' := 65) (x := 1) kc_37_64 rfl rfl ?_
          refine xi_iload (pc' := 67) (x := x4) kc_37_65 rfl rfl ?_
          refine xi_virtual (mj := 38) (as := [.int x6, .int 0, .int 1, .int x4]) (st1 := [.int x5]) (lv0 := [(0, .ref 115), (1, .int x6), (2, .int 0), (3, .int 1), (4, .int x4)]) kc_37_67 rfl rfl rfl rfl rfl A14 (Nat.le_of_ble_eq_true rfl) (hJ _ _ _ _ (by decide)) (xm_le ml_38 rfl) rfl ?_
          refine xi_iload_n (pc' := 1) (x := 1) kc_38_0 rfl rfl ?_
          refine xi_iff (pc' := 4) kc_38_1 rfl rfl ?_
          refine xi_aload_n (pc' := 5) (x := 115) kc_38_4 rfl rfl ?_
          refine xi_getfield (pc' := 8) (v := .ref 139) kc_38_5 rfl rfl rfl A14 rfl ?_
          refine xi_iload_n (pc' := 9) (x := x6) kc_38_8 rfl rfl ?_
          obtain ⟨y520, A520, hy520, ry520⟩ := xk_arr K.1 xD_139
          have R521 : xrp y520 10 (C 4) := xra_ld C15.2.2.2.2.2.2.2.2.1 A520
          obtain ⟨v522, ev522, bv522, dv522⟩ := xj_get hy520 ry520 (i := x6) (by omega) (by omega)
          refine xi_baload (pc' := 10) (v := v522) kc_38_9 rfl A520 rfl (xi_in (by omega) (by rw [hy520]; omega)) ev522 ?_
          have hlv522 : v522.toInt = (C 4) (Int32.toNatClampNeg x6) := xrp_ld R521 (by omega) (by omega) ev522
          by_cases c523 : v522.toInt = 0
          · refine xi_ift (pc' := 40) kc_38_10 rfl (xc_eq_t (X := v522.toInt) (Y := 0) rfl (by decide) (by omega)) ?_
            refine xi_iconst (pc' := 41) (v := 0) kc_38_40 rfl rfl ?_
            refine xi_ireturn kc_38_41 mr_38 rfl ?_
            show xw J ov (d + 5) 37 (70, [(0, .ref 115), (1, .int x1), (2, .int 0), (3, .int 1), (4, .int x4), (5, .int x5), (6, .int x6)], [.int 0, .int x5], h) _
            refine xi_ift (pc' := 83) kc_37_70 rfl rfl ?_
            refine xi_iconst (pc' := 84) (v := 0) kc_37_83 rfl rfl ?_
            obtain ⟨v524, ev524⟩ : ∃ q : Int32, x5 + 0 = q := ⟨_, rfl⟩
            have zv524 : v524.toInt = x5.toInt := by rw [← ev524]; exact (xz_add (X := x5.toInt) (Y := 0) rfl (by decide) (by omega) (by omega)).trans (by omega)
            refine xi_iadd (pc' := 85) (v := v524) kc_37_84 rfl ev524 ?_
            refine xi_istore (pc' := 87) (lv' := [(5, .int v524), (0, .ref 115), (1, .int x1), (2, .int 0), (3, .int 1), (4, .int x4), (6, .int x6)]) kc_37_85 rfl rfl (xm_lt ml_37 rfl) ?_
            obtain ⟨v525, ev525⟩ : ∃ q : Int32, x6 + 1 = q := ⟨_, rfl⟩
            have zv525 : v525.toInt = (x6.toInt + 1) := by rw [← ev525]; exact (xz_add (X := x6.toInt) (Y := 1) rfl (by decide) (by omega) (by omega)).trans (by omega)
            refine xi_iinc (pc' := 90) (x := x6) (v := v525) (lv' := [(6, .int v525), (5, .int v524), (0, .ref 115), (1, .int x1), (2, .int 0), (3, .int 1), (4, .int x4)]) kc_37_87 rfl rfl ev525 rfl (xm_lt ml_37 rfl) ?_
            refine xi_goto (pc' := 27) kc_37_90 rfl ?_
            refine xw_lv (b := [(0, .ref 115), (1, .int x1), (2, .int 0), (3, .int 1), (4, .int x4), (5, .int v524), (6, .int v525)]) (lvS_cons (lvS_cons (lvS_cons (lvS_cons (lvS_cons (lvS_cons (lvS_cons (lvS_nil (show ([6, 5, 0, 1, 2, 3, 4] : List Nat).Nodup by decide)) rfl) rfl) rfl) rfl) rfl) rfl) rfl) ?_
            have en : v525.toNatClampNeg = x6.toNatClampNeg + 1 := xcl2 b6.1 (by omega)
            have ey := xbh_n (show ¬ (C 0 x6.toNatClampNeg = 3 ∧ C 1 x6.toNatClampNeg = ((x1.toNatClampNeg : Nat) : Int) ∧ C 4 x6.toNatClampNeg = 1 ∧ C 3 x6.toNatClampNeg ≤ hr) from fun z => by obtain ⟨z0, z1, z4, z3⟩ := z; omega)
            exact ih v524 v525 (by omega) (by rw [en, ey]; omega) (by omega)
          · refine xi_iff (pc' := 13) kc_38_10 rfl (xc_eq_f (X := v522.toInt) (Y := 0) rfl (by decide) (by omega)) ?_
            refine xi_goto (pc' := 25) kc_38_13 rfl ?_
            refine xi_aload_n (pc' := 26) (x := 115) kc_38_25 rfl rfl ?_
            refine xi_getfield (pc' := 29) (v := .ref 138) kc_38_26 rfl rfl rfl A14 rfl ?_
            refine xi_iload_n (pc' := 30) (x := x6) kc_38_29 rfl rfl ?_
            obtain ⟨y526, A526, hy526, ry526⟩ := xk_arr K.1 xD_138
            have R527 : xrp y526 10 (C 3) := xra_ld C15.2.2.2.2.2.2.2.1 A526
            obtain ⟨v528, ev528, bv528, dv528⟩ := xj_get hy526 ry526 (i := x6) (by omega) (by omega)
            refine xi_iaload (pc' := 31) (v := v528) kc_38_30 rfl A526 (by decide) rfl (xi_in (by omega) (by rw [hy526]; omega)) ev528 ?_
            have hlv528 : v528.toInt = (C 3) (Int32.toNatClampNeg x6) := xrp_ld R527 (by omega) (by omega) ev528
            refine xi_iload (pc' := 33) (x := x4) kc_38_31 rfl rfl ?_
            by_cases c529 : x4.toInt < v528.toInt
            · refine xi_cmt (pc' := 40) kc_38_33 rfl (xc_gt_t (X := v528.toInt) (Y := x4.toInt) rfl rfl (by omega)) ?_
              refine xi_iconst (pc' := 41) (v := 0) kc_38_40 rfl rfl ?_
              refine xi_ireturn kc_38_41 mr_38 rfl ?_
              show xw J ov (d + 5) 37 (70, [(0, .ref 115), (1, .int x1), (2, .int 0), (3, .int 1), (4, .int x4), (5, .int x5), (6, .int x6)], [.int 0, .int x5], h) _
              refine xi_ift (pc' := 83) kc_37_70 rfl rfl ?_
              refine xi_iconst (pc' := 84) (v := 0) kc_37_83 rfl rfl ?_
              obtain ⟨v530, ev530⟩ : ∃ q : Int32, x5 + 0 = q := ⟨_, rfl⟩
              have zv530 : v530.toInt = x5.toInt := by rw [← ev530]; exact (xz_add (X := x5.toInt) (Y := 0) rfl (by decide) (by omega) (by omega)).trans (by omega)
              refine xi_iadd (pc' := 85) (v := v530) kc_37_84 rfl ev530 ?_
              refine xi_istore (pc' := 87) (lv' := [(5, .int v530), (0, .ref 115), (1, .int x1), (2, .int 0), (3, .int 1), (4, .int x4), (6, .int x6)]) kc_37_85 rfl rfl (xm_lt ml_37 rfl) ?_
              obtain ⟨v531, ev531⟩ : ∃ q : Int32, x6 + 1 = q := ⟨_, rfl⟩
              have zv531 : v531.toInt = (x6.toInt + 1) := by rw [← ev531]; exact (xz_add (X := x6.toInt) (Y := 1) rfl (by decide) (by omega) (by omega)).trans (by omega)
              refine xi_iinc (pc' := 90) (x := x6) (v := v531) (lv' := [(6, .int v531), (5, .int v530), (0, .ref 115), (1, .int x1), (2, .int 0), (3, .int 1), (4, .int x4)]) kc_37_87 rfl rfl ev531 rfl (xm_lt ml_37 rfl) ?_
              refine xi_goto (pc' := 27) kc_37_90 rfl ?_
              refine xw_lv (b := [(0, .ref 115), (1, .int x1), (2, .int 0), (3, .int 1), (4, .int x4), (5, .int v530), (6, .int v531)]) (lvS_cons (lvS_cons (lvS_cons (lvS_cons (lvS_cons (lvS_cons (lvS_cons (lvS_nil (show ([6, 5, 0, 1, 2, 3, 4] : List Nat).Nodup by decide)) rfl) rfl) rfl) rfl) rfl) rfl) rfl) ?_
              have en : v531.toNatClampNeg = x6.toNatClampNeg + 1 := xcl2 b6.1 (by omega)
              have ey := xbh_n (show ¬ (C 0 x6.toNatClampNeg = 3 ∧ C 1 x6.toNatClampNeg = ((x1.toNatClampNeg : Nat) : Int) ∧ C 4 x6.toNatClampNeg = 1 ∧ C 3 x6.toNatClampNeg ≤ hr) from fun z => by obtain ⟨z0, z1, z4, z3⟩ := z; omega)
              exact ih v530 v531 (by omega) (by rw [en, ey]; omega) (by omega)
            · refine xi_cmf (pc' := 36) kc_38_33 rfl (xc_gt_f (X := v528.toInt) (Y := x4.toInt) rfl rfl (by omega)) ?_
              refine xi_iconst (pc' := 37) (v := 1) kc_38_36 rfl rfl ?_
              refine xi_goto (pc' := 41) kc_38_37 rfl ?_
              refine xi_ireturn kc_38_41 mr_38 rfl ?_
              show xw J ov (d + 5) 37 (70, [(0, .ref 115), (1, .int x1), (2, .int 0), (3, .int 1), (4, .int x4), (5, .int x5), (6, .int x6)], [.int 1, .int x5], h) _
              refine xi_iff (pc' := 73) kc_37_70 rfl rfl ?_
              refine xi_aload_n (pc' := 74) (x := 115) kc_37_73 rfl rfl ?_
              refine xi_getfield (pc' := 77) (v := .ref 137) kc_37_74 rfl rfl rfl A14 rfl ?_
              refine xi_iload (pc' := 79) (x := x6) kc_37_77 rfl rfl ?_
              obtain ⟨y532, A532, hy532, ry532⟩ := xk_arr K.1 xD_137
              have R533 : xrp y532 10 (C 2) := xra_ld C15.2.2.2.2.2.2.1 A532
              obtain ⟨v534, ev534, bv534, dv534⟩ := xj_get hy532 ry532 (i := x6) (by omega) (by omega)
              refine xi_iaload (pc' := 80) (v := v534) kc_37_79 rfl A532 (by decide) rfl (xi_in (by omega) (by rw [hy532]; omega)) ev534 ?_
              have hlv534 : v534.toInt = (C 2) (Int32.toNatClampNeg x6) := xrp_ld R533 (by omega) (by omega) ev534
              have brv534 : 0 ≤ v534.toInt ∧ v534.toInt ≤ 99 := by have := hC.2.2.1 x6.toNatClampNeg (by omega); omega
              refine xi_goto (pc' := 84) kc_37_80 rfl ?_
              obtain ⟨v535, ev535⟩ : ∃ q : Int32, x5 + v534 = q := ⟨_, rfl⟩
              have zv535 : v535.toInt = (x5.toInt + v534.toInt) := by rw [← ev535]; exact (xz_add (X := x5.toInt) (Y := v534.toInt) rfl rfl (by omega) (by omega)).trans (by omega)
              refine xi_iadd (pc' := 85) (v := v535) kc_37_84 rfl ev535 ?_
              refine xi_istore (pc' := 87) (lv' := [(5, .int v535), (0, .ref 115), (1, .int x1), (2, .int 0), (3, .int 1), (4, .int x4), (6, .int x6)]) kc_37_85 rfl rfl (xm_lt ml_37 rfl) ?_
              obtain ⟨v536, ev536⟩ : ∃ q : Int32, x6 + 1 = q := ⟨_, rfl⟩
              have zv536 : v536.toInt = (x6.toInt + 1) := by rw [← ev536]; exact (xz_add (X := x6.toInt) (Y := 1) rfl (by decide) (by omega) (by omega)).trans (by omega)
              refine xi_iinc (pc' := 90) (x := x6) (v := v536) (lv' := [(6, .int v536), (5, .int v535), (0, .ref 115), (1, .int x1), (2, .int 0), (3, .int 1), (4, .int x4)]) kc_37_87 rfl rfl ev536 rfl (xm_lt ml_37 rfl) ?_
              refine xi_goto (pc' := 27) kc_37_90 rfl ?_
              refine xw_lv (b := [(0, .ref 115), (1, .int x1), (2, .int 0), (3, .int 1), (4, .int x4), (5, .int v535), (6, .int v536)]) (lvS_cons (lvS_cons (lvS_cons (lvS_cons (lvS_cons (lvS_cons (lvS_cons (lvS_nil (show ([6, 5, 0, 1, 2, 3, 4] : List Nat).Nodup by decide)) rfl) rfl) rfl) rfl) rfl) rfl) rfl) ?_
              have en : v536.toNatClampNeg = x6.toNatClampNeg + 1 := xcl2 b6.1 (by omega)
              have ey := xbh_y (show C 0 x6.toNatClampNeg = 3 ∧ C 1 x6.toNatClampNeg = ((x1.toNatClampNeg : Nat) : Int) ∧ C 4 x6.toNatClampNeg = 1 ∧ C 3 x6.toNatClampNeg ≤ hr from ⟨by omega, by omega, by omega, by omega⟩)
              exact ih v535 v536 (by omega) (by rw [en, ey]; omega) (by omega)
        · refine xi_cmt (pc' := 83) kc_37_57 rfl (xc_ne_t (X := v518.toInt) (Y := x1.toInt) rfl rfl (by omega)) ?_
          refine xi_iconst (pc' := 84) (v := 0) kc_37_83 rfl rfl ?_
          obtain ⟨v537, ev537⟩ : ∃ q : Int32, x5 + 0 = q := ⟨_, rfl⟩
          have zv537 : v537.toInt = x5.toInt := by rw [← ev537]; exact (xz_add (X := x5.toInt) (Y := 0) rfl (by decide) (by omega) (by omega)).trans (by omega)
          refine xi_iadd (pc' := 85) (v := v537) kc_37_84 rfl ev537 ?_
          refine xi_istore (pc' := 87) (lv' := [(5, .int v537), (0, .ref 115), (1, .int x1), (2, .int 0), (3, .int 1), (4, .int x4), (6, .int x6)]) kc_37_85 rfl rfl (xm_lt ml_37 rfl) ?_
          obtain ⟨v538, ev538⟩ : ∃ q : Int32, x6 + 1 = q := ⟨_, rfl⟩
          have zv538 : v538.toInt = (x6.toInt + 1) := by rw [← ev538]; exact (xz_add (X := x6.toInt) (Y := 1) rfl (by decide) (by omega) (by omega)).trans (by omega)
          refine xi_iinc (pc' := 90) (x := x6) (v := v538) (lv' := [(6, .int v538), (5, .int v537), (0, .ref 115), (1, .int x1), (2, .int 0), (3, .int 1), (4, .int x4)]) kc_37_87 rfl rfl ev538 rfl (xm_lt ml_37 rfl) ?_
          refine xi_goto (pc' := 27) kc_37_90 rfl ?_
          refine xw_lv (b := [(0, .ref 115), (1, .int x1), (2, .int 0), (3, .int 1), (4, .int x4), (5, .int v537), (6, .int v538)]) (lvS_cons (lvS_cons (lvS_cons (lvS_cons (lvS_cons (lvS_cons (lvS_cons (lvS_nil (show ([6, 5, 0, 1, 2, 3, 4] : List Nat).Nodup by decide)) rfl) rfl) rfl) rfl) rfl) rfl) rfl) ?_
          have en : v538.toNatClampNeg = x6.toNatClampNeg + 1 := xcl2 b6.1 (by omega)
          have ey := xbh_n (show ¬ (C 0 x6.toNatClampNeg = 3 ∧ C 1 x6.toNatClampNeg = ((x1.toNatClampNeg : Nat) : Int) ∧ C 4 x6.toNatClampNeg = 1 ∧ C 3 x6.toNatClampNeg ≤ hr) from fun z => by obtain ⟨z0, z1, z4, z3⟩ := z; omega)
          exact ih v537 v538 (by omega) (by rw [en, ey]; omega) (by omega)
      · refine xi_cmt (pc' := 83) kc_37_46 rfl (xc_ne_t (X := v514.toInt) (Y := 3) rfl (by decide) (by omega)) ?_
        refine xi_iconst (pc' := 84) (v := 0) kc_37_83 rfl rfl ?_
        obtain ⟨v539, ev539⟩ : ∃ q : Int32, x5 + 0 = q := ⟨_, rfl⟩
        have zv539 : v539.toInt = x5.toInt := by rw [← ev539]; exact (xz_add (X := x5.toInt) (Y := 0) rfl (by decide) (by omega) (by omega)).trans (by omega)
        refine xi_iadd (pc' := 85) (v := v539) kc_37_84 rfl ev539 ?_
        refine xi_istore (pc' := 87) (lv' := [(5, .int v539), (0, .ref 115), (1, .int x1), (2, .int 0), (3, .int 1), (4, .int x4), (6, .int x6)]) kc_37_85 rfl rfl (xm_lt ml_37 rfl) ?_
        obtain ⟨v540, ev540⟩ : ∃ q : Int32, x6 + 1 = q := ⟨_, rfl⟩
        have zv540 : v540.toInt = (x6.toInt + 1) := by rw [← ev540]; exact (xz_add (X := x6.toInt) (Y := 1) rfl (by decide) (by omega) (by omega)).trans (by omega)
        refine xi_iinc (pc' := 90) (x := x6) (v := v540) (lv' := [(6, .int v540), (5, .int v539), (0, .ref 115), (1, .int x1), (2, .int 0), (3, .int 1), (4, .int x4)]) kc_37_87 rfl rfl ev540 rfl (xm_lt ml_37 rfl) ?_
        refine xi_goto (pc' := 27) kc_37_90 rfl ?_
        refine xw_lv (b := [(0, .ref 115), (1, .int x1), (2, .int 0), (3, .int 1), (4, .int x4), (5, .int v539), (6, .int v540)]) (lvS_cons (lvS_cons (lvS_cons (lvS_cons (lvS_cons (lvS_cons (lvS_cons (lvS_nil (show ([6, 5, 0, 1, 2, 3, 4] : List Nat).Nodup by decide)) rfl) rfl) rfl) rfl) rfl) rfl) rfl) ?_
        have en : v540.toNatClampNeg = x6.toNatClampNeg + 1 := xcl2 b6.1 (by omega)
        have ey := xbh_n (show ¬ (C 0 x6.toNatClampNeg = 3 ∧ C 1 x6.toNatClampNeg = ((x1.toNatClampNeg : Nat) : Int) ∧ C 4 x6.toNatClampNeg = 1 ∧ C 3 x6.toNatClampNeg ≤ hr) from fun z => by obtain ⟨z0, z1, z4, z3⟩ := z; omega)
        exact ih v539 v540 (by omega) (by rw [en, ey]; omega) (by omega)
set_option maxHeartbeats 4000000 in
theorem xw_pr {J : xe_J} {ov : List (List Int32)} (hJ : ∀ d mj as h, mj ≠ xe_loff → J d mj as h = none) (hov1 : ov[1]? = some [10, 0, 0, 0, 0, 0]) (hov2 : ov[2]? = some [99, 30, 50, 50, 1, 99999]) {d : Nat} {Q : Option Value → xe_H → Prop} {h : xe_H} {C st : xFn} {gw : Nat → Int} {hr : Int} {x1 x4 : Int32} (T : xt h) (C0 : xcM h C) (hC : xcr C) (I5 : xr5 h st) (hq : xsq st) (IA : xra h 141 6 gw) (hw : xwr 6 99999 gw) (Fc : xfi h 115 32 (C 10 hr.toNat)) (b1 : 0 ≤ x1.toInt ∧ x1.toInt ≤ 5) (b4 : 0 ≤ x4.toInt ∧ x4.toInt ≤ 599) (eh : x4.toInt = hr) (kk : ∀ h' : xe_H, xk xP_15 h h' → xra h' 141 6 (xup gw x1.toNatClampNeg (xro (gw x1.toNatClampNeg) (xbh C hr ((x1.toNatClampNeg : Nat) : Int) (C 11 0).toNat + C (20 + x1.toNatClampNeg) (hr % 24).toNat) (st x1.toNatClampNeg 0) (st x1.toNatClampNeg 1) (st x1.toNatClampNeg 2 + (if st x1.toNatClampNeg 4 = 1 then st x1.toNatClampNeg 3 else 0)) (xho (C 10 hr.toNat)))) → Q none h') : xw J ov (d + 5) 37 (0, [(0, .ref 115), (1, .int x1), (2, .int 0), (3, .int 1), (4, .int x4)], [], h) Q := by
  have c11 := hC.1
  have c10 := hC.2.2.2.2.1 hr.toNat (by omega)
  have qx1 := xj_tn b1.1
  have hmr := hC.2.2.2.2.2 x1.toNatClampNeg (by omega) (hr % 24).toNat (by omega)
  have hwr := hw x1.toNatClampNeg (by omega)
  have hqr := hq x1.toNatClampNeg (by omega)
  have K : xk xP_15 h h := xk_re T
  refine xi_aload_n (pc' := 1) (x := 115) kc_37_0 rfl rfl ?_
  obtain ⟨u1, u2, u3, u4, u5, u6, u7, u8, u9, u10, u11, u12, u13, bu1, bu2, bu3, bu4, bu5, bu6, bu7, bu8, bu9, bu10, bu11, bu12, bu13, A14⟩ := xq_115 K.1
  have C15 : xcM h C := xcM_k C0 K (by decide +kernel)
  have hfu5 : u5.toInt = (C 11 0) := xfi_ld C15.1 A14 rfl
  have hfu8 : u8.toInt = (C 12 0) := xfi_ld C15.2.1 A14 rfl
  refine xi_getfield (pc' := 4) (v := .ref 141) kc_37_1 rfl rfl rfl A14 rfl ?_
  refine xi_iload_n (pc' := 5) (x := x1) kc_37_4 rfl rfl ?_
  obtain ⟨y16, A16, hy16, ry16⟩ := xk_arr K.1 xD_141
  have R17 : xrp y16 6 gw := xra_ld IA A16
  obtain ⟨v18, ev18, bv18, dv18⟩ := xj_get hy16 ry16 (i := x1) (by omega) (by omega)
  refine xi_iaload (pc' := 6) (v := v18) kc_37_5 rfl A16 (by decide) rfl (xi_in (by omega) (by rw [hy16]; omega)) ev18 ?_
  have hlv18 : v18.toInt = gw (Int32.toNatClampNeg x1) := xrp_ld R17 (by omega) (by omega) ev18
  have brv18 : 0 ≤ v18.toInt ∧ v18.toInt ≤ 99999 := by have := hw x1.toNatClampNeg (by omega); omega
  refine xi_aload_n (pc' := 7) (x := 115) kc_37_6 rfl rfl ?_
  refine xi_getfield (pc' := 10) (v := .ref 122) kc_37_7 rfl rfl rfl A14 rfl ?_
  refine xi_bipush (pc' := 12) (v := 24) kc_37_10 rfl rfl ?_
  refine xi_iload_n (pc' := 13) (x := x1) kc_37_12 rfl rfl ?_
  obtain ⟨v19, ev19⟩ : ∃ q : Int32, 24 * x1 = q := ⟨_, rfl⟩
  have zv19 : v19.toInt = (24) * x1.toInt := by rw [← ev19]; exact (xz_mul (X := 24) (Y := x1.toInt) (by decide) rfl (by omega) (by omega)).trans (by omega)
  refine xi_imul (pc' := 14) (v := v19) kc_37_13 rfl ev19 ?_
  refine xi_iload (pc' := 16) (x := x4) kc_37_14 rfl rfl ?_
  refine xi_bipush (pc' := 18) (v := 24) kc_37_16 rfl rfl ?_
  obtain ⟨v20, ev20⟩ : ∃ q : Int32, x4 - x4 / 24 * 24 = q := ⟨_, rfl⟩
  have dv20 : v20.toInt = x4.toInt % 24 := by rw [← ev20]; exact xz_reme (X := x4.toInt) (Y := 24) rfl (by decide) (by omega) (by decide)
  have bv20 : 0 ≤ v20.toInt ∧ v20.toInt ≤ 23 := by omega
  refine xi_irem (pc' := 19) (v := v20) kc_37_18 rfl ev20 (by decide) ?_
  obtain ⟨v21, ev21⟩ : ∃ q : Int32, v19 + v20 = q := ⟨_, rfl⟩
  have zv21 : v21.toInt = ((24) * x1.toInt + v20.toInt) := by rw [← ev21]; exact (xz_add (X := (24) * x1.toInt) (Y := v20.toInt) zv19 rfl (by omega) (by omega)).trans (by omega)
  refine xi_iadd (pc' := 20) (v := v21) kc_37_19 rfl ev21 ?_
  obtain ⟨y22, A22, hy22, ry22⟩ := xk_arr K.1 xD_122
  have R23 : xrp y22 144 (fun j => C (20 + j / 24) (j % 24)) := xra_ld C15.2.2.1 A22
  obtain ⟨v24, ev24, bv24, dv24⟩ := xj_get hy22 ry22 (i := v21) (by rw [zv21]; omega) (by rw [zv21]; omega)
  refine xi_iaload (pc' := 21) (v := v24) kc_37_20 rfl A22 (by decide) rfl (xi_in (by rw [zv21]; omega) (by rw [hy22]; rw [zv21]; omega)) ev24 ?_
  have hlv24 : v24.toInt = C (20 + (Int32.toNatClampNeg v21) / 24) ((Int32.toNatClampNeg v21) % 24) := xrp_ld R23 (by omega) (by omega) ev24
  obtain ⟨v25, ev25⟩ : ∃ q : Int32, v18 + v24 = q := ⟨_, rfl⟩
  have zv25 : v25.toInt = (v18.toInt + v24.toInt) := by rw [← ev25]; exact (xz_add (X := v18.toInt) (Y := v24.toInt) rfl rfl (by omega) (by omega)).trans (by omega)
  refine xi_iadd (pc' := 22) (v := v25) kc_37_21 rfl ev25 ?_
  refine xi_istore (pc' := 24) (lv' := [(5, .int v25), (0, .ref 115), (1, .int x1), (2, .int 0), (3, .int 1), (4, .int x4)]) kc_37_22 rfl rfl (xm_lt ml_37 rfl) ?_
  refine xi_iconst (pc' := 25) (v := 0) kc_37_24 rfl rfl ?_
  refine xi_istore (pc' := 27) (lv' := [(6, .int 0), (5, .int v25), (0, .ref 115), (1, .int x1), (2, .int 0), (3, .int 1), (4, .int x4)]) kc_37_25 rfl rfl (xm_lt ml_37 rfl) ?_
  have zc0 : (0 : Int32).toInt = 0 := by decide
  refine xw_lv (b := [(0, .ref 115), (1, .int x1), (2, .int 0), (3, .int 1), (4, .int x4), (5, .int v25), (6, .int 0)]) (lvS_cons (lvS_cons (lvS_cons (lvS_cons (lvS_cons (lvS_cons (lvS_cons (lvS_nil (show ([6, 5, 0, 1, 2, 3, 4] : List Nat).Nodup by decide)) rfl) rfl) rfl) rfl) rfl) rfl) rfl) ?_
  have qi := xj_tn (i := v21) (by omega)
  have ei : Int32.toNatClampNeg v21 / 24 = x1.toNatClampNeg := by omega
  have ej : Int32.toNatClampNeg v21 % 24 = (hr % 24).toNat := by omega
  rw [ei, ej] at hlv24
  have z0 : xbh C hr ((x1.toNatClampNeg : Nat) : Int) (Int32.toNatClampNeg 0) = 0 := rfl
  exact pr_lp hJ hov1 hov2 T C0 hC I5 hq IA hw Fc b1 b4 eh kk 11 v25 0 (by omega) (by omega) (by omega)
set_option maxHeartbeats 4000000 in
theorem pm_157 {J : xe_J} {ov : List (List Int32)} (hJ : ∀ d mj as h, mj ≠ xe_loff → J d mj as h = none) (hov1 : ov[1]? = some [10, 0, 0, 0, 0, 0]) (hov2 : ov[2]? = some [99, 30, 50, 50, 1, 99999]) {d : Nat} {Q : Option Value → xe_H → Prop} {hb : xe_H} (kk : ∀ h' : xe_H, xk xP_0 hb h' → Q none h') : ∀ (m : Nat) (x4 : Int32) (h : xe_H), (0 ≤ x4.toInt ∧ x4.toInt ≤ 12) → xk xP_0 hb h → 12 - x4.toInt < (m : Int) → xw J ov (d + 6) 36 (157, [(0, .ref 115), (4, .int x4)], [], h) Q := by
  intro m
  induction m with
  | zero => intro x4 h b4 K hm; exfalso; omega
  | succ m ih =>
    intro x4 h b4 K hm
    refine xi_iload (pc' := 159) (x := x4) kc_36_157 rfl rfl ?_
    refine xi_bipush (pc' := 161) (v := 12) kc_36_159 rfl rfl ?_
    by_cases c1 : 12 ≤ x4.toInt
    · refine xi_cmt (pc' := 198) kc_36_161 rfl (xc_ge_t (X := x4.toInt) (Y := 12) rfl (by decide) (by omega)) ?_
      refine xi_return kc_36_198 mr_36 ?_
      exact kk h K
    · refine xi_cmf (pc' := 164) kc_36_161 rfl (xc_ge_f (X := x4.toInt) (Y := 12) rfl (by decide) (by omega)) ?_
      refine xi_aload_n (pc' := 165) (x := 115) kc_36_164 rfl rfl ?_
      obtain ⟨u2, u3, u4, u5, u6, u7, u8, u9, u10, u11, u12, u13, u14, bu2, bu3, bu4, bu5, bu6, bu7, bu8, bu9, bu10, bu11, bu12, bu13, bu14, A15⟩ := xq_115 K.1
      refine xi_getfield (pc' := 168) (v := .ref 142) kc_36_165 rfl rfl rfl A15 rfl ?_
      refine xi_iload (pc' := 170) (x := x4) kc_36_168 rfl rfl ?_
      refine xi_dup2 (pc' := 171) kc_36_170 rfl ⟨rfl, rfl⟩ ?_
      obtain ⟨y16, A16, hy16, ry16⟩ := xk_arr K.1 xD_142
      obtain ⟨v17, ev17, bv17, dv17⟩ := xj_get hy16 ry16 (i := x4) (by omega) (by omega)
      refine xi_iaload (pc' := 172) (v := v17) kc_36_171 rfl A16 (by decide) rfl (xi_in (by omega) (by rw [hy16]; omega)) ev17 ?_
      refine xi_aload_n (pc' := 173) (x := 115) kc_36_172 rfl rfl ?_
      refine xi_getfield (pc' := 176) (v := .ref 142) kc_36_173 rfl rfl rfl A15 rfl ?_
      refine xi_iload (pc' := 178) (x := x4) kc_36_176 rfl rfl ?_
      refine xi_iaload (pc' := 179) (v := v17) kc_36_178 rfl A16 (by decide) rfl (xi_in (by omega) (by rw [hy16]; omega)) ev17 ?_
      refine xi_aload_n (pc' := 180) (x := 115) kc_36_179 rfl rfl ?_
      refine xi_getfield (pc' := 183) (v := .int u4) kc_36_180 rfl rfl rfl A15 rfl ?_
      obtain ⟨v18, ev18⟩ : ∃ q : Int32, (v17 : Int32) * u4 = q := ⟨_, rfl⟩
      have rv18 := xc_rng v18
      refine xi_imul (pc' := 184) (v := v18) kc_36_183 rfl ev18 ?_
      refine xi_bipush (pc' := 186) (v := 99) kc_36_184 rfl rfl ?_
      obtain ⟨v19, ev19⟩ : ∃ q : Int32, (v18 : Int32) + 99 = q := ⟨_, rfl⟩
      have rv19 := xc_rng v19
      refine xi_iadd (pc' := 187) (v := v19) kc_36_186 rfl ev19 ?_
      refine xi_bipush (pc' := 189) (v := 100) kc_36_187 rfl rfl ?_
      obtain ⟨v20, ev20⟩ : ∃ q : Int32, v19 / 100 = q := ⟨_, rfl⟩
      have dv20 : 100 * v20.toInt ≤ v19.toInt + 99 ∧ v19.toInt ≤ 100 * v20.toInt + 99 := by rw [← ev20]; exact xz_div (X := v19.toInt) (Y := 100) rfl (by decide) (by decide)
      have bv20 : -21474837 ≤ v20.toInt ∧ v20.toInt ≤ 21474837 := by omega
      refine xi_idiv (pc' := 190) (v := v20) kc_36_189 rfl ev20 (by decide) ?_
      obtain ⟨v21, ev21⟩ : ∃ q : Int32, (v17 : Int32) - v20 = q := ⟨_, rfl⟩
      have rv21 := xc_rng v21
      refine xi_isub (pc' := 191) (v := v21) kc_36_190 rfl ev21 ?_
      obtain ⟨y22, s22, hy22, ry22⟩ := xj_set (v := v21) hy16 ry16 x4 (by first | omega | decide) (by first | omega | decide)
      refine xi_iastore (pc' := 192) (x' := y22) kc_36_191 rfl A16 rfl (xi_in (by omega) (by rw [hy16]; omega)) s22 (fun hh22 eh22 => ?_)
      have K23 := xk_pa K (xk_wa (by decide +kernel)) xD_142 hy22 ry22 eh22
      obtain ⟨v24, ev24⟩ : ∃ q : Int32, x4 + 1 = q := ⟨_, rfl⟩
      have zv24 : v24.toInt = (x4.toInt + 1) := by rw [← ev24]; exact (xz_add (X := x4.toInt) (Y := 1) rfl (by decide) (by omega) (by omega)).trans (by omega)
      refine xi_iinc (pc' := 195) (x := x4) (v := v24) (lv' := [(4, .int v24), (0, .ref 115)]) kc_36_192 rfl rfl ev24 rfl (xm_lt ml_36 rfl) ?_
      refine xi_goto (pc' := 157) kc_36_195 rfl ?_
      refine xw_lv (b := [(0, .ref 115), (4, .int v24)]) (lvS_cons (lvS_cons (lvS_nil (show ([4, 0] : List Nat).Nodup by decide)) rfl) rfl) ?_
      exact ih v24 hh22 (by omega) K23 (by omega)
set_option maxHeartbeats 4000000 in
theorem pm_28 {J : xe_J} {ov : List (List Int32)} (hJ : ∀ d mj as h, mj ≠ xe_loff → J d mj as h = none) (hov1 : ov[1]? = some [10, 0, 0, 0, 0, 0]) (hov2 : ov[2]? = some [99, 30, 50, 50, 1, 99999]) {d : Nat} {Q : Option Value → xe_H → Prop} {hb : xe_H} {x3 : Int32} (b3 : 0 ≤ x3.toInt ∧ x3.toInt ≤ 599) (kk : ∀ h' : xe_H, xk xP_0 hb h' → Q none h') : ∀ (m : Nat) (x4 : Int32) (h : xe_H), (0 ≤ x4.toInt ∧ x4.toInt ≤ 10) → xk xP_0 hb h → 10 - x4.toInt < (m : Int) → xw J ov (d + 6) 36 (28, [(0, .ref 115), (1, .int 0), (2, .int 1), (3, .int x3), (4, .int x4)], [], h) Q := by
  intro m
  induction m with
  | zero => intro x4 h b4 K hm; exfalso; omega
  | succ m ih =>
    intro x4 h b4 K hm
    refine xi_iload (pc' := 30) (x := x4) kc_36_28 rfl rfl ?_
    refine xi_aload_n (pc' := 31) (x := 115) kc_36_30 rfl rfl ?_
    obtain ⟨u1, u2, u3, u4, u5, u6, u7, u8, u9, u10, u11, u12, u13, bu1, bu2, bu3, bu4, bu5, bu6, bu7, bu8, bu9, bu10, bu11, bu12, bu13, A14⟩ := xq_115 K.1
    refine xi_getfield (pc' := 34) (v := .int u5) kc_36_31 rfl rfl rfl A14 rfl ?_
    by_cases c15 : u5.toInt ≤ x4.toInt
    · refine xi_cmt (pc' := 154) kc_36_34 rfl (xc_ge_t (X := x4.toInt) (Y := u5.toInt) rfl rfl (by omega)) ?_
      refine xi_iconst (pc' := 155) (v := 0) kc_36_154 rfl rfl ?_
      refine xi_istore (pc' := 157) (lv' := [(4, .int 0), (0, .ref 115), (1, .int 0), (2, .int 1), (3, .int x3)]) kc_36_155 rfl rfl (xm_lt ml_36 rfl) ?_
      refine xw_lv (b := [(0, .ref 115), (4, .int 0)]) (lvS_cons (lvS_cons (lvS_nil (show ([4, 0, 1, 2, 3] : List Nat).Nodup by decide)) rfl) rfl) ?_
      have zc0 : (0 : Int32).toInt = 0 := by decide
      exact pm_157 hJ hov1 hov2 kk 13 0 h (by omega) K (by omega)
    · refine xi_cmf (pc' := 37) kc_36_34 rfl (xc_ge_f (X := x4.toInt) (Y := u5.toInt) rfl rfl (by omega)) ?_
      refine xi_aload_n (pc' := 38) (x := 115) kc_36_37 rfl rfl ?_
      refine xi_getfield (pc' := 41) (v := .ref 135) kc_36_38 rfl rfl rfl A14 rfl ?_
      refine xi_iload (pc' := 43) (x := x4) kc_36_41 rfl rfl ?_
      obtain ⟨y16, A16, hy16, ry16⟩ := xk_arr K.1 xD_135
      obtain ⟨v17, ev17, bv17, dv17⟩ := xj_get hy16 ry16 (i := x4) (by omega) (by omega)
      refine xi_iaload (pc' := 44) (v := v17) kc_36_43 rfl A16 (by decide) rfl (xi_in (by omega) (by rw [hy16]; omega)) ev17 ?_
      refine xi_iconst (pc' := 45) (v := 3) kc_36_44 rfl rfl ?_
      by_cases c18 : 3 ≤ v17.toInt
      · refine xi_cmt (pc' := 148) kc_36_45 rfl (xc_ge_t (X := v17.toInt) (Y := 3) rfl (by decide) (by omega)) ?_
        obtain ⟨v19, ev19⟩ : ∃ q : Int32, x4 + 1 = q := ⟨_, rfl⟩
        have zv19 : v19.toInt = (x4.toInt + 1) := by rw [← ev19]; exact (xz_add (X := x4.toInt) (Y := 1) rfl (by decide) (by omega) (by omega)).trans (by omega)
        refine xi_iinc (pc' := 151) (x := x4) (v := v19) (lv' := [(4, .int v19), (0, .ref 115), (1, .int 0), (2, .int 1), (3, .int x3)]) kc_36_148 rfl rfl ev19 rfl (xm_lt ml_36 rfl) ?_
        refine xi_goto (pc' := 28) kc_36_151 rfl ?_
        refine xw_lv (b := [(0, .ref 115), (1, .int 0), (2, .int 1), (3, .int x3), (4, .int v19)]) (lvS_cons (lvS_cons (lvS_cons (lvS_cons (lvS_cons (lvS_nil (show ([4, 0, 1, 2, 3] : List Nat).Nodup by decide)) rfl) rfl) rfl) rfl) rfl) ?_
        exact ih v19 h (by omega) K (by omega)
      · refine xi_cmf (pc' := 48) kc_36_45 rfl (xc_ge_f (X := v17.toInt) (Y := 3) rfl (by decide) (by omega)) ?_
        refine xi_aload_n (pc' := 49) (x := 115) kc_36_48 rfl rfl ?_
        refine xi_iload (pc' := 51) (x := x4) kc_36_49 rfl rfl ?_
        refine xi_iload_n (pc' := 52) (x := 0) kc_36_51 rfl rfl ?_
        refine xi_iload_n (pc' := 53) (x := 1) kc_36_52 rfl rfl ?_
        refine xi_iload_n (pc' := 54) (x := x3) kc_36_53 rfl rfl ?_
        refine xi_virtual (mj := 38) (as := [.int x4, .int 0, .int 1, .int x3]) (st1 := []) (lv0 := [(0, .ref 115), (1, .int x4), (2, .int 0), (3, .int 1), (4, .int x3)]) kc_36_54 rfl rfl rfl rfl rfl A14 (Nat.le_of_ble_eq_true rfl) (hJ _ _ _ _ (by decide)) (xm_le ml_38 rfl) rfl ?_
        refine xi_iload_n (pc' := 1) (x := 1) kc_38_0 rfl rfl ?_
        refine xi_iff (pc' := 4) kc_38_1 rfl rfl ?_
        refine xi_aload_n (pc' := 5) (x := 115) kc_38_4 rfl rfl ?_
        refine xi_getfield (pc' := 8) (v := .ref 139) kc_38_5 rfl rfl rfl A14 rfl ?_
        refine xi_iload_n (pc' := 9) (x := x4) kc_38_8 rfl rfl ?_
        obtain ⟨y20, A20, hy20, ry20⟩ := xk_arr K.1 xD_139
        obtain ⟨v21, ev21, bv21, dv21⟩ := xj_get hy20 ry20 (i := x4) (by omega) (by omega)
        refine xi_baload (pc' := 10) (v := v21) kc_38_9 rfl A20 rfl (xi_in (by omega) (by rw [hy20]; omega)) ev21 ?_
        by_cases c22 : v21.toInt = 0
        · refine xi_ift (pc' := 40) kc_38_10 rfl (xc_eq_t (X := v21.toInt) (Y := 0) rfl (by decide) (by omega)) ?_
          refine xi_iconst (pc' := 41) (v := 0) kc_38_40 rfl rfl ?_
          refine xi_ireturn kc_38_41 mr_38 rfl ?_
          show xw J ov (d + 6) 36 (57, [(0, .ref 115), (1, .int 0), (2, .int 1), (3, .int x3), (4, .int x4)], [.int 0], h) _
          refine xi_ift (pc' := 148) kc_36_57 rfl rfl ?_
          obtain ⟨v23, ev23⟩ : ∃ q : Int32, x4 + 1 = q := ⟨_, rfl⟩
          have zv23 : v23.toInt = (x4.toInt + 1) := by rw [← ev23]; exact (xz_add (X := x4.toInt) (Y := 1) rfl (by decide) (by omega) (by omega)).trans (by omega)
          refine xi_iinc (pc' := 151) (x := x4) (v := v23) (lv' := [(4, .int v23), (0, .ref 115), (1, .int 0), (2, .int 1), (3, .int x3)]) kc_36_148 rfl rfl ev23 rfl (xm_lt ml_36 rfl) ?_
          refine xi_goto (pc' := 28) kc_36_151 rfl ?_
          refine xw_lv (b := [(0, .ref 115), (1, .int 0), (2, .int 1), (3, .int x3), (4, .int v23)]) (lvS_cons (lvS_cons (lvS_cons (lvS_cons (lvS_cons (lvS_nil (show ([4, 0, 1, 2, 3] : List Nat).Nodup by decide)) rfl) rfl) rfl) rfl) rfl) ?_
          exact ih v23 h (by omega) K (by omega)
        · refine xi_iff (pc' := 13) kc_38_10 rfl (xc_eq_f (X := v21.toInt) (Y := 0) rfl (by decide) (by omega)) ?_
          refine xi_goto (pc' := 25) kc_38_13 rfl ?_
          refine xi_aload_n (pc' := 26) (x := 115) kc_38_25 rfl rfl ?_
          refine xi_getfield (pc' := 29) (v := .ref 138) kc_38_26 rfl rfl rfl A14 rfl ?_
          refine xi_iload_n (pc' := 30) (x := x4) kc_38_29 rfl rfl ?_
          obtain ⟨y24, A24, hy24, ry24⟩ := xk_arr K.1 xD_138
          obtain ⟨v25, ev25, bv25, dv25⟩ := xj_get hy24 ry24 (i := x4) (by omega) (by omega)
          refine xi_iaload (pc' := 31) (v := v25) kc_38_30 rfl A24 (by decide) rfl (xi_in (by omega) (by rw [hy24]; omega)) ev25 ?_
          refine xi_iload (pc' := 33) (x := x3) kc_38_31 rfl rfl ?_
          by_cases c26 : x3.toInt < v25.toInt
          · refine xi_cmt (pc' := 40) kc_38_33 rfl (xc_gt_t (X := v25.toInt) (Y := x3.toInt) rfl rfl (by omega)) ?_
            refine xi_iconst (pc' := 41) (v := 0) kc_38_40 rfl rfl ?_
            refine xi_ireturn kc_38_41 mr_38 rfl ?_
            show xw J ov (d + 6) 36 (57, [(0, .ref 115), (1, .int 0), (2, .int 1), (3, .int x3), (4, .int x4)], [.int 0], h) _
            refine xi_ift (pc' := 148) kc_36_57 rfl rfl ?_
            obtain ⟨v27, ev27⟩ : ∃ q : Int32, x4 + 1 = q := ⟨_, rfl⟩
            have zv27 : v27.toInt = (x4.toInt + 1) := by rw [← ev27]; exact (xz_add (X := x4.toInt) (Y := 1) rfl (by decide) (by omega) (by omega)).trans (by omega)
            refine xi_iinc (pc' := 151) (x := x4) (v := v27) (lv' := [(4, .int v27), (0, .ref 115), (1, .int 0), (2, .int 1), (3, .int x3)]) kc_36_148 rfl rfl ev27 rfl (xm_lt ml_36 rfl) ?_
            refine xi_goto (pc' := 28) kc_36_151 rfl ?_
            refine xw_lv (b := [(0, .ref 115), (1, .int 0), (2, .int 1), (3, .int x3), (4, .int v27)]) (lvS_cons (lvS_cons (lvS_cons (lvS_cons (lvS_cons (lvS_nil (show ([4, 0, 1, 2, 3] : List Nat).Nodup by decide)) rfl) rfl) rfl) rfl) rfl) ?_
            exact ih v27 h (by omega) K (by omega)
          · refine xi_cmf (pc' := 36) kc_38_33 rfl (xc_gt_f (X := v25.toInt) (Y := x3.toInt) rfl rfl (by omega)) ?_
            refine xi_iconst (pc' := 37) (v := 1) kc_38_36 rfl rfl ?_
            refine xi_goto (pc' := 41) kc_38_37 rfl ?_
            refine xi_ireturn kc_38_41 mr_38 rfl ?_
            show xw J ov (d + 6) 36 (57, [(0, .ref 115), (1, .int 0), (2, .int 1), (3, .int x3), (4, .int x4)], [.int 1], h) _
            refine xi_iff (pc' := 60) kc_36_57 rfl rfl ?_
            refine xi_aload_n (pc' := 61) (x := 115) kc_36_60 rfl rfl ?_
            refine xi_getfield (pc' := 64) (v := .ref 135) kc_36_61 rfl rfl rfl A14 rfl ?_
            refine xi_iload (pc' := 66) (x := x4) kc_36_64 rfl rfl ?_
            refine xi_iaload (pc' := 67) (v := v17) kc_36_66 rfl A16 (by decide) rfl (xi_in (by omega) (by rw [hy16]; omega)) ev17 ?_
            by_cases c28 : v17.toInt = 0
            · refine xi_iff (pc' := 70) kc_36_67 rfl (xc_ne_f (X := v17.toInt) (Y := 0) rfl (by decide) (by omega)) ?_
              refine xi_aload_n (pc' := 71) (x := 115) kc_36_70 rfl rfl ?_
              refine xi_getfield (pc' := 74) (v := .ref 137) kc_36_71 rfl rfl rfl A14 rfl ?_
              refine xi_iload (pc' := 76) (x := x4) kc_36_74 rfl rfl ?_
              obtain ⟨y29, A29, hy29, ry29⟩ := xk_arr K.1 xD_137
              obtain ⟨v30, ev30, bv30, dv30⟩ := xj_get hy29 ry29 (i := x4) (by omega) (by omega)
              refine xi_iaload (pc' := 77) (v := v30) kc_36_76 rfl A29 (by decide) rfl (xi_in (by omega) (by rw [hy29]; omega)) ev30 ?_
              refine xi_aload_n (pc' := 78) (x := 115) kc_36_77 rfl rfl ?_
              refine xi_getfield (pc' := 81) (v := .int u7) kc_36_78 rfl rfl rfl A14 rfl ?_
              obtain ⟨v31, ev31⟩ : ∃ q : Int32, (v30 : Int32) * u7 = q := ⟨_, rfl⟩
              have rv31 := xc_rng v31
              refine xi_imul (pc' := 82) (v := v31) kc_36_81 rfl ev31 ?_
              refine xi_goto (pc' := 116) kc_36_82 rfl ?_
              refine xi_istore (pc' := 118) (lv' := [(5, .int v31), (0, .ref 115), (1, .int 0), (2, .int 1), (3, .int x3), (4, .int x4)]) kc_36_116 rfl rfl (xm_lt ml_36 rfl) ?_
              refine xi_aload_n (pc' := 119) (x := 115) kc_36_118 rfl rfl ?_
              refine xi_getfield (pc' := 122) (v := .ref 142) kc_36_119 rfl rfl rfl A14 rfl ?_
              refine xi_aload_n (pc' := 123) (x := 115) kc_36_122 rfl rfl ?_
              refine xi_getfield (pc' := 126) (v := .ref 136) kc_36_123 rfl rfl rfl A14 rfl ?_
              refine xi_iload (pc' := 128) (x := x4) kc_36_126 rfl rfl ?_
              obtain ⟨y32, A32, hy32, ry32⟩ := xk_arr K.1 xD_136
              obtain ⟨v33, ev33, bv33, dv33⟩ := xj_get hy32 ry32 (i := x4) (by omega) (by omega)
              refine xi_iaload (pc' := 129) (v := v33) kc_36_128 rfl A32 (by decide) rfl (xi_in (by omega) (by rw [hy32]; omega)) ev33 ?_
              refine xi_aload_n (pc' := 130) (x := 115) kc_36_129 rfl rfl ?_
              refine xi_getfield (pc' := 133) (v := .ref 142) kc_36_130 rfl rfl rfl A14 rfl ?_
              refine xi_aload_n (pc' := 134) (x := 115) kc_36_133 rfl rfl ?_
              refine xi_getfield (pc' := 137) (v := .ref 136) kc_36_134 rfl rfl rfl A14 rfl ?_
              refine xi_iload (pc' := 139) (x := x4) kc_36_137 rfl rfl ?_
              refine xi_iaload (pc' := 140) (v := v33) kc_36_139 rfl A32 (by decide) rfl (xi_in (by omega) (by rw [hy32]; omega)) ev33 ?_
              obtain ⟨y34, A34, hy34, ry34⟩ := xk_arr K.1 xD_142
              obtain ⟨v35, ev35, bv35, dv35⟩ := xj_get hy34 ry34 (i := v33) (by omega) (by omega)
              refine xi_iaload (pc' := 141) (v := v35) kc_36_140 rfl A34 (by decide) rfl (xi_in (by omega) (by rw [hy34]; omega)) ev35 ?_
              refine xi_iload (pc' := 143) (x := v31) kc_36_141 rfl rfl ?_
              obtain ⟨v36, ev36⟩ : ∃ q : Int32, (v35 : Int32) + v31 = q := ⟨_, rfl⟩
              have rv36 := xc_rng v36
              refine xi_iadd (pc' := 144) (v := v36) kc_36_143 rfl ev36 ?_
              refine xi_static (mj := 39) (as := [.int v36]) (st1 := [.int v33, .ref 142]) (lv0 := [(0, .int v36)]) kc_36_144 rfl rfl (Nat.le_of_ble_eq_true rfl) rfl rfl (Nat.le_of_ble_eq_true rfl) (hJ _ _ _ _ (by decide)) (xm_le ml_39 rfl) rfl ?_
              refine xi_iload_n (pc' := 1) (x := v36) kc_39_0 rfl rfl ?_
              by_cases c37 : 0 ≤ v36.toInt
              · refine xi_ift (pc' := 8) kc_39_1 rfl (xc_ge_t (X := v36.toInt) (Y := 0) rfl (by decide) (by omega)) ?_
                refine xi_iload_n (pc' := 9) (x := v36) kc_39_8 rfl rfl ?_
                refine xi_ldc (pc' := 11) (v := 99999) kc_39_9 rfl rfl ?_
                by_cases c38 : v36.toInt ≤ 99999
                · refine xi_cmt (pc' := 19) kc_39_11 rfl (xc_le_t (X := v36.toInt) (Y := 99999) rfl (by decide) (by omega)) ?_
                  refine xi_iload_n (pc' := 20) (x := v36) kc_39_19 rfl rfl ?_
                  refine xi_ireturn kc_39_20 mr_39 rfl ?_
                  show xw J ov (d + 6) 36 (147, [(5, .int v31), (0, .ref 115), (1, .int 0), (2, .int 1), (3, .int x3), (4, .int x4)], [.int v36, .int v33, .ref 142], h) _
                  obtain ⟨y39, s39, hy39, ry39⟩ := xj_set (v := v36) hy34 ry34 v33 (by first | omega | decide) (by first | omega | decide)
                  refine xi_iastore (pc' := 148) (x' := y39) kc_36_147 rfl A34 rfl (xi_in (by omega) (by rw [hy34]; omega)) s39 (fun hh39 eh39 => ?_)
                  have K40 := xk_pa K (xk_wa (by decide +kernel)) xD_142 hy39 ry39 eh39
                  obtain ⟨v41, ev41⟩ : ∃ q : Int32, x4 + 1 = q := ⟨_, rfl⟩
                  have zv41 : v41.toInt = (x4.toInt + 1) := by rw [← ev41]; exact (xz_add (X := x4.toInt) (Y := 1) rfl (by decide) (by omega) (by omega)).trans (by omega)
                  refine xi_iinc (pc' := 151) (x := x4) (v := v41) (lv' := [(4, .int v41), (5, .int v31), (0, .ref 115), (1, .int 0), (2, .int 1), (3, .int x3)]) kc_36_148 rfl rfl ev41 rfl (xm_lt ml_36 rfl) ?_
                  refine xi_goto (pc' := 28) kc_36_151 rfl ?_
                  refine xw_lv (b := [(0, .ref 115), (1, .int 0), (2, .int 1), (3, .int x3), (4, .int v41)]) (lvS_cons (lvS_cons (lvS_cons (lvS_cons (lvS_cons (lvS_nil (show ([4, 5, 0, 1, 2, 3] : List Nat).Nodup by decide)) rfl) rfl) rfl) rfl) rfl) ?_
                  exact ih v41 hh39 (by omega) K40 (by omega)
                · refine xi_cmf (pc' := 14) kc_39_11 rfl (xc_le_f (X := v36.toInt) (Y := 99999) rfl (by decide) (by omega)) ?_
                  refine xi_ldc (pc' := 16) (v := 99999) kc_39_14 rfl rfl ?_
                  refine xi_goto (pc' := 20) kc_39_16 rfl ?_
                  refine xi_ireturn kc_39_20 mr_39 rfl ?_
                  show xw J ov (d + 6) 36 (147, [(5, .int v31), (0, .ref 115), (1, .int 0), (2, .int 1), (3, .int x3), (4, .int x4)], [.int 99999, .int v33, .ref 142], h) _
                  obtain ⟨y42, s42, hy42, ry42⟩ := xj_set (v := 99999) hy34 ry34 v33 (by first | omega | decide) (by first | omega | decide)
                  refine xi_iastore (pc' := 148) (x' := y42) kc_36_147 rfl A34 rfl (xi_in (by omega) (by rw [hy34]; omega)) s42 (fun hh42 eh42 => ?_)
                  have K43 := xk_pa K (xk_wa (by decide +kernel)) xD_142 hy42 ry42 eh42
                  obtain ⟨v44, ev44⟩ : ∃ q : Int32, x4 + 1 = q := ⟨_, rfl⟩
                  have zv44 : v44.toInt = (x4.toInt + 1) := by rw [← ev44]; exact (xz_add (X := x4.toInt) (Y := 1) rfl (by decide) (by omega) (by omega)).trans (by omega)
                  refine xi_iinc (pc' := 151) (x := x4) (v := v44) (lv' := [(4, .int v44), (5, .int v31), (0, .ref 115), (1, .int 0), (2, .int 1), (3, .int x3)]) kc_36_148 rfl rfl ev44 rfl (xm_lt ml_36 rfl) ?_
                  refine xi_goto (pc' := 28) kc_36_151 rfl ?_
                  refine xw_lv (b := [(0, .ref 115), (1, .int 0), (2, .int 1), (3, .int x3), (4, .int v44)]) (lvS_cons (lvS_cons (lvS_cons (lvS_cons (lvS_cons (lvS_nil (show ([4, 5, 0, 1, 2, 3] : List Nat).Nodup by decide)) rfl) rfl) rfl) rfl) rfl) ?_
                  exact ih v44 hh42 (by omega) K43 (by omega)
              · refine xi_iff (pc' := 4) kc_39_1 rfl (xc_ge_f (X := v36.toInt) (Y := 0) rfl (by decide) (by omega)) ?_
                refine xi_iconst (pc' := 5) (v := 0) kc_39_4 rfl rfl ?_
                refine xi_goto (pc' := 20) kc_39_5 rfl ?_
                refine xi_ireturn kc_39_20 mr_39 rfl ?_
                show xw J ov (d + 6) 36 (147, [(5, .int v31), (0, .ref 115), (1, .int 0), (2, .int 1), (3, .int x3), (4, .int x4)], [.int 0, .int v33, .ref 142], h) _
                obtain ⟨y45, s45, hy45, ry45⟩ := xj_set (v := 0) hy34 ry34 v33 (by first | omega | decide) (by first | omega | decide)
                refine xi_iastore (pc' := 148) (x' := y45) kc_36_147 rfl A34 rfl (xi_in (by omega) (by rw [hy34]; omega)) s45 (fun hh45 eh45 => ?_)
                have K46 := xk_pa K (xk_wa (by decide +kernel)) xD_142 hy45 ry45 eh45
                obtain ⟨v47, ev47⟩ : ∃ q : Int32, x4 + 1 = q := ⟨_, rfl⟩
                have zv47 : v47.toInt = (x4.toInt + 1) := by rw [← ev47]; exact (xz_add (X := x4.toInt) (Y := 1) rfl (by decide) (by omega) (by omega)).trans (by omega)
                refine xi_iinc (pc' := 151) (x := x4) (v := v47) (lv' := [(4, .int v47), (5, .int v31), (0, .ref 115), (1, .int 0), (2, .int 1), (3, .int x3)]) kc_36_148 rfl rfl ev47 rfl (xm_lt ml_36 rfl) ?_
                refine xi_goto (pc' := 28) kc_36_151 rfl ?_
                refine xw_lv (b := [(0, .ref 115), (1, .int 0), (2, .int 1), (3, .int x3), (4, .int v47)]) (lvS_cons (lvS_cons (lvS_cons (lvS_cons (lvS_cons (lvS_nil (show ([4, 5, 0, 1, 2, 3] : List Nat).Nodup by decide)) rfl) rfl) rfl) rfl) rfl) ?_
                exact ih v47 hh45 (by omega) K46 (by omega)
            · refine xi_ift (pc' := 85) kc_36_67 rfl (xc_ne_t (X := v17.toInt) (Y := 0) rfl (by decide) (by omega)) ?_
              refine xi_aload_n (pc' := 86) (x := 115) kc_36_85 rfl rfl ?_
              refine xi_getfield (pc' := 89) (v := .ref 135) kc_36_86 rfl rfl rfl A14 rfl ?_
              refine xi_iload (pc' := 91) (x := x4) kc_36_89 rfl rfl ?_
              refine xi_iaload (pc' := 92) (v := v17) kc_36_91 rfl A16 (by decide) rfl (xi_in (by omega) (by rw [hy16]; omega)) ev17 ?_
              refine xi_iconst (pc' := 93) (v := 1) kc_36_92 rfl rfl ?_
              by_cases c48 : v17.toInt = 1
              · refine xi_cmt (pc' := 105) kc_36_93 rfl (xc_eq_t (X := v17.toInt) (Y := 1) rfl (by decide) (by omega)) ?_
                refine xi_aload_n (pc' := 106) (x := 115) kc_36_105 rfl rfl ?_
                refine xi_getfield (pc' := 109) (v := .ref 137) kc_36_106 rfl rfl rfl A14 rfl ?_
                refine xi_iload (pc' := 111) (x := x4) kc_36_109 rfl rfl ?_
                obtain ⟨y49, A49, hy49, ry49⟩ := xk_arr K.1 xD_137
                obtain ⟨v50, ev50, bv50, dv50⟩ := xj_get hy49 ry49 (i := x4) (by omega) (by omega)
                refine xi_iaload (pc' := 112) (v := v50) kc_36_111 rfl A49 (by decide) rfl (xi_in (by omega) (by rw [hy49]; omega)) ev50 ?_
                refine xi_goto (pc' := 116) kc_36_112 rfl ?_
                refine xi_istore (pc' := 118) (lv' := [(5, .int v50), (0, .ref 115), (1, .int 0), (2, .int 1), (3, .int x3), (4, .int x4)]) kc_36_116 rfl rfl (xm_lt ml_36 rfl) ?_
                refine xi_aload_n (pc' := 119) (x := 115) kc_36_118 rfl rfl ?_
                refine xi_getfield (pc' := 122) (v := .ref 142) kc_36_119 rfl rfl rfl A14 rfl ?_
                refine xi_aload_n (pc' := 123) (x := 115) kc_36_122 rfl rfl ?_
                refine xi_getfield (pc' := 126) (v := .ref 136) kc_36_123 rfl rfl rfl A14 rfl ?_
                refine xi_iload (pc' := 128) (x := x4) kc_36_126 rfl rfl ?_
                obtain ⟨y51, A51, hy51, ry51⟩ := xk_arr K.1 xD_136
                obtain ⟨v52, ev52, bv52, dv52⟩ := xj_get hy51 ry51 (i := x4) (by omega) (by omega)
                refine xi_iaload (pc' := 129) (v := v52) kc_36_128 rfl A51 (by decide) rfl (xi_in (by omega) (by rw [hy51]; omega)) ev52 ?_
                refine xi_aload_n (pc' := 130) (x := 115) kc_36_129 rfl rfl ?_
                refine xi_getfield (pc' := 133) (v := .ref 142) kc_36_130 rfl rfl rfl A14 rfl ?_
                refine xi_aload_n (pc' := 134) (x := 115) kc_36_133 rfl rfl ?_
                refine xi_getfield (pc' := 137) (v := .ref 136) kc_36_134 rfl rfl rfl A14 rfl ?_
                refine xi_iload (pc' := 139) (x := x4) kc_36_137 rfl rfl ?_
                refine xi_iaload (pc' := 140) (v := v52) kc_36_139 rfl A51 (by decide) rfl (xi_in (by omega) (by rw [hy51]; omega)) ev52 ?_
                obtain ⟨y53, A53, hy53, ry53⟩ := xk_arr K.1 xD_142
                obtain ⟨v54, ev54, bv54, dv54⟩ := xj_get hy53 ry53 (i := v52) (by omega) (by omega)
                refine xi_iaload (pc' := 141) (v := v54) kc_36_140 rfl A53 (by decide) rfl (xi_in (by omega) (by rw [hy53]; omega)) ev54 ?_
                refine xi_iload (pc' := 143) (x := v50) kc_36_141 rfl rfl ?_
                obtain ⟨v55, ev55⟩ : ∃ q : Int32, (v54 : Int32) + v50 = q := ⟨_, rfl⟩
                have rv55 := xc_rng v55
                refine xi_iadd (pc' := 144) (v := v55) kc_36_143 rfl ev55 ?_
                refine xi_static (mj := 39) (as := [.int v55]) (st1 := [.int v52, .ref 142]) (lv0 := [(0, .int v55)]) kc_36_144 rfl rfl (Nat.le_of_ble_eq_true rfl) rfl rfl (Nat.le_of_ble_eq_true rfl) (hJ _ _ _ _ (by decide)) (xm_le ml_39 rfl) rfl ?_
                refine xi_iload_n (pc' := 1) (x := v55) kc_39_0 rfl rfl ?_
                by_cases c56 : 0 ≤ v55.toInt
                · refine xi_ift (pc' := 8) kc_39_1 rfl (xc_ge_t (X := v55.toInt) (Y := 0) rfl (by decide) (by omega)) ?_
                  refine xi_iload_n (pc' := 9) (x := v55) kc_39_8 rfl rfl ?_
                  refine xi_ldc (pc' := 11) (v := 99999) kc_39_9 rfl rfl ?_
                  by_cases c57 : v55.toInt ≤ 99999
                  · refine xi_cmt (pc' := 19) kc_39_11 rfl (xc_le_t (X := v55.toInt) (Y := 99999) rfl (by decide) (by omega)) ?_
                    refine xi_iload_n (pc' := 20) (x := v55) kc_39_19 rfl rfl ?_
                    refine xi_ireturn kc_39_20 mr_39 rfl ?_
                    show xw J ov (d + 6) 36 (147, [(5, .int v50), (0, .ref 115), (1, .int 0), (2, .int 1), (3, .int x3), (4, .int x4)], [.int v55, .int v52, .ref 142], h) _
                    obtain ⟨y58, s58, hy58, ry58⟩ := xj_set (v := v55) hy53 ry53 v52 (by first | omega | decide) (by first | omega | decide)
                    refine xi_iastore (pc' := 148) (x' := y58) kc_36_147 rfl A53 rfl (xi_in (by omega) (by rw [hy53]; omega)) s58 (fun hh58 eh58 => ?_)
                    have K59 := xk_pa K (xk_wa (by decide +kernel)) xD_142 hy58 ry58 eh58
                    obtain ⟨v60, ev60⟩ : ∃ q : Int32, x4 + 1 = q := ⟨_, rfl⟩
                    have zv60 : v60.toInt = (x4.toInt + 1) := by rw [← ev60]; exact (xz_add (X := x4.toInt) (Y := 1) rfl (by decide) (by omega) (by omega)).trans (by omega)
                    refine xi_iinc (pc' := 151) (x := x4) (v := v60) (lv' := [(4, .int v60), (5, .int v50), (0, .ref 115), (1, .int 0), (2, .int 1), (3, .int x3)]) kc_36_148 rfl rfl ev60 rfl (xm_lt ml_36 rfl) ?_
                    refine xi_goto (pc' := 28) kc_36_151 rfl ?_
                    refine xw_lv (b := [(0, .ref 115), (1, .int 0), (2, .int 1), (3, .int x3), (4, .int v60)]) (lvS_cons (lvS_cons (lvS_cons (lvS_cons (lvS_cons (lvS_nil (show ([4, 5, 0, 1, 2, 3] : List Nat).Nodup by decide)) rfl) rfl) rfl) rfl) rfl) ?_
                    exact ih v60 hh58 (by omega) K59 (by omega)
                  · refine xi_cmf (pc' := 14) kc_39_11 rfl (xc_le_f (X := v55.toInt) (Y := 99999) rfl (by decide) (by omega)) ?_
                    refine xi_ldc (pc' := 16) (v := 99999) kc_39_14 rfl rfl ?_
                    refine xi_goto (pc' := 20) kc_39_16 rfl ?_
                    refine xi_ireturn kc_39_20 mr_39 rfl ?_
                    show xw J ov (d + 6) 36 (147, [(5, .int v50), (0, .ref 115), (1, .int 0), (2, .int 1), (3, .int x3), (4, .int x4)], [.int 99999, .int v52, .ref 142], h) _
                    obtain ⟨y61, s61, hy61, ry61⟩ := xj_set (v := 99999) hy53 ry53 v52 (by first | omega | decide) (by first | omega | decide)
                    refine xi_iastore (pc' := 148) (x' := y61) kc_36_147 rfl A53 rfl (xi_in (by omega) (by rw [hy53]; omega)) s61 (fun hh61 eh61 => ?_)
                    have K62 := xk_pa K (xk_wa (by decide +kernel)) xD_142 hy61 ry61 eh61
                    obtain ⟨v63, ev63⟩ : ∃ q : Int32, x4 + 1 = q := ⟨_, rfl⟩
                    have zv63 : v63.toInt = (x4.toInt + 1) := by rw [← ev63]; exact (xz_add (X := x4.toInt) (Y := 1) rfl (by decide) (by omega) (by omega)).trans (by omega)
                    refine xi_iinc (pc' := 151) (x := x4) (v := v63) (lv' := [(4, .int v63), (5, .int v50), (0, .ref 115), (1, .int 0), (2, .int 1), (3, .int x3)]) kc_36_148 rfl rfl ev63 rfl (xm_lt ml_36 rfl) ?_
                    refine xi_goto (pc' := 28) kc_36_151 rfl ?_
                    refine xw_lv (b := [(0, .ref 115), (1, .int 0), (2, .int 1), (3, .int x3), (4, .int v63)]) (lvS_cons (lvS_cons (lvS_cons (lvS_cons (lvS_cons (lvS_nil (show ([4, 5, 0, 1, 2, 3] : List Nat).Nodup by decide)) rfl) rfl) rfl) rfl) rfl) ?_
                    exact ih v63 hh61 (by omega) K62 (by omega)
                · refine xi_iff (pc' := 4) kc_39_1 rfl (xc_ge_f (X := v55.toInt) (Y := 0) rfl (by decide) (by omega)) ?_
                  refine xi_iconst (pc' := 5) (v := 0) kc_39_4 rfl rfl ?_
                  refine xi_goto (pc' := 20) kc_39_5 rfl ?_
                  refine xi_ireturn kc_39_20 mr_39 rfl ?_
                  show xw J ov (d + 6) 36 (147, [(5, .int v50), (0, .ref 115), (1, .int 0), (2, .int 1), (3, .int x3), (4, .int x4)], [.int 0, .int v52, .ref 142], h) _
                  obtain ⟨y64, s64, hy64, ry64⟩ := xj_set (v := 0) hy53 ry53 v52 (by first | omega | decide) (by first | omega | decide)
                  refine xi_iastore (pc' := 148) (x' := y64) kc_36_147 rfl A53 rfl (xi_in (by omega) (by rw [hy53]; omega)) s64 (fun hh64 eh64 => ?_)
                  have K65 := xk_pa K (xk_wa (by decide +kernel)) xD_142 hy64 ry64 eh64
                  obtain ⟨v66, ev66⟩ : ∃ q : Int32, x4 + 1 = q := ⟨_, rfl⟩
                  have zv66 : v66.toInt = (x4.toInt + 1) := by rw [← ev66]; exact (xz_add (X := x4.toInt) (Y := 1) rfl (by decide) (by omega) (by omega)).trans (by omega)
                  refine xi_iinc (pc' := 151) (x := x4) (v := v66) (lv' := [(4, .int v66), (5, .int v50), (0, .ref 115), (1, .int 0), (2, .int 1), (3, .int x3)]) kc_36_148 rfl rfl ev66 rfl (xm_lt ml_36 rfl) ?_
                  refine xi_goto (pc' := 28) kc_36_151 rfl ?_
                  refine xw_lv (b := [(0, .ref 115), (1, .int 0), (2, .int 1), (3, .int x3), (4, .int v66)]) (lvS_cons (lvS_cons (lvS_cons (lvS_cons (lvS_cons (lvS_nil (show ([4, 5, 0, 1, 2, 3] : List Nat).Nodup by decide)) rfl) rfl) rfl) rfl) rfl) ?_
                  exact ih v66 hh64 (by omega) K65 (by omega)
              · refine xi_cmf (pc' := 96) kc_36_93 rfl (xc_eq_f (X := v17.toInt) (Y := 1) rfl (by decide) (by omega)) ?_
                refine xi_iload_n (pc' := 97) (x := x3) kc_36_96 rfl rfl ?_
                refine xi_bipush (pc' := 99) (v := 24) kc_36_97 rfl rfl ?_
                obtain ⟨v67, ev67⟩ : ∃ q : Int32, x3 - x3 / 24 * 24 = q := ⟨_, rfl⟩
                have dv67 : v67.toInt = x3.toInt % 24 := by rw [← ev67]; exact xz_reme (X := x3.toInt) (Y := 24) rfl (by decide) (by omega) (by decide)
                have bv67 : 0 ≤ v67.toInt ∧ v67.toInt ≤ 23 := by omega
                refine xi_irem (pc' := 100) (v := v67) kc_36_99 rfl ev67 (by decide) ?_
                refine xi_bipush (pc' := 102) (v := 6) kc_36_100 rfl rfl ?_
                by_cases c68 : 6 ≤ v67.toInt
                · refine xi_cmt (pc' := 115) kc_36_102 rfl (xc_ge_t (X := v67.toInt) (Y := 6) rfl (by decide) (by omega)) ?_
                  refine xi_iconst (pc' := 116) (v := 0) kc_36_115 rfl rfl ?_
                  refine xi_istore (pc' := 118) (lv' := [(5, .int 0), (0, .ref 115), (1, .int 0), (2, .int 1), (3, .int x3), (4, .int x4)]) kc_36_116 rfl rfl (xm_lt ml_36 rfl) ?_
                  refine xi_aload_n (pc' := 119) (x := 115) kc_36_118 rfl rfl ?_
                  refine xi_getfield (pc' := 122) (v := .ref 142) kc_36_119 rfl rfl rfl A14 rfl ?_
                  refine xi_aload_n (pc' := 123) (x := 115) kc_36_122 rfl rfl ?_
                  refine xi_getfield (pc' := 126) (v := .ref 136) kc_36_123 rfl rfl rfl A14 rfl ?_
                  refine xi_iload (pc' := 128) (x := x4) kc_36_126 rfl rfl ?_
                  obtain ⟨y69, A69, hy69, ry69⟩ := xk_arr K.1 xD_136
                  obtain ⟨v70, ev70, bv70, dv70⟩ := xj_get hy69 ry69 (i := x4) (by omega) (by omega)
                  refine xi_iaload (pc' := 129) (v := v70) kc_36_128 rfl A69 (by decide) rfl (xi_in (by omega) (by rw [hy69]; omega)) ev70 ?_
                  refine xi_aload_n (pc' := 130) (x := 115) kc_36_129 rfl rfl ?_
                  refine xi_getfield (pc' := 133) (v := .ref 142) kc_36_130 rfl rfl rfl A14 rfl ?_
                  refine xi_aload_n (pc' := 134) (x := 115) kc_36_133 rfl rfl ?_
                  refine xi_getfield (pc' := 137) (v := .ref 136) kc_36_134 rfl rfl rfl A14 rfl ?_
                  refine xi_iload (pc' := 139) (x := x4) kc_36_137 rfl rfl ?_
                  refine xi_iaload (pc' := 140) (v := v70) kc_36_139 rfl A69 (by decide) rfl (xi_in (by omega) (by rw [hy69]; omega)) ev70 ?_
                  obtain ⟨y71, A71, hy71, ry71⟩ := xk_arr K.1 xD_142
                  obtain ⟨v72, ev72, bv72, dv72⟩ := xj_get hy71 ry71 (i := v70) (by omega) (by omega)
                  refine xi_iaload (pc' := 141) (v := v72) kc_36_140 rfl A71 (by decide) rfl (xi_in (by omega) (by rw [hy71]; omega)) ev72 ?_
                  refine xi_iload (pc' := 143) (x := 0) kc_36_141 rfl rfl ?_
                  obtain ⟨v73, ev73⟩ : ∃ q : Int32, v72 + 0 = q := ⟨_, rfl⟩
                  have zv73 : v73.toInt = v72.toInt := by rw [← ev73]; exact (xz_add (X := v72.toInt) (Y := 0) rfl (by decide) (by omega) (by omega)).trans (by omega)
                  refine xi_iadd (pc' := 144) (v := v73) kc_36_143 rfl ev73 ?_
                  refine xi_static (mj := 39) (as := [.int v73]) (st1 := [.int v70, .ref 142]) (lv0 := [(0, .int v73)]) kc_36_144 rfl rfl (Nat.le_of_ble_eq_true rfl) rfl rfl (Nat.le_of_ble_eq_true rfl) (hJ _ _ _ _ (by decide)) (xm_le ml_39 rfl) rfl ?_
                  refine xi_iload_n (pc' := 1) (x := v73) kc_39_0 rfl rfl ?_
                  by_cases c74 : 0 ≤ v72.toInt
                  · refine xi_ift (pc' := 8) kc_39_1 rfl (xc_ge_t (X := v72.toInt) (Y := 0) zv73 (by decide) (by omega)) ?_
                    refine xi_iload_n (pc' := 9) (x := v73) kc_39_8 rfl rfl ?_
                    refine xi_ldc (pc' := 11) (v := 99999) kc_39_9 rfl rfl ?_
                    by_cases c75 : v72.toInt ≤ 99999
                    · refine xi_cmt (pc' := 19) kc_39_11 rfl (xc_le_t (X := v72.toInt) (Y := 99999) zv73 (by decide) (by omega)) ?_
                      refine xi_iload_n (pc' := 20) (x := v73) kc_39_19 rfl rfl ?_
                      refine xi_ireturn kc_39_20 mr_39 rfl ?_
                      show xw J ov (d + 6) 36 (147, [(5, .int 0), (0, .ref 115), (1, .int 0), (2, .int 1), (3, .int x3), (4, .int x4)], [.int v73, .int v70, .ref 142], h) _
                      obtain ⟨y76, s76, hy76, ry76⟩ := xj_set (v := v73) hy71 ry71 v70 (by first | omega | decide) (by first | omega | decide)
                      refine xi_iastore (pc' := 148) (x' := y76) kc_36_147 rfl A71 rfl (xi_in (by omega) (by rw [hy71]; omega)) s76 (fun hh76 eh76 => ?_)
                      have K77 := xk_pa K (xk_wa (by decide +kernel)) xD_142 hy76 ry76 eh76
                      obtain ⟨v78, ev78⟩ : ∃ q : Int32, x4 + 1 = q := ⟨_, rfl⟩
                      have zv78 : v78.toInt = (x4.toInt + 1) := by rw [← ev78]; exact (xz_add (X := x4.toInt) (Y := 1) rfl (by decide) (by omega) (by omega)).trans (by omega)
                      refine xi_iinc (pc' := 151) (x := x4) (v := v78) (lv' := [(4, .int v78), (5, .int 0), (0, .ref 115), (1, .int 0), (2, .int 1), (3, .int x3)]) kc_36_148 rfl rfl ev78 rfl (xm_lt ml_36 rfl) ?_
                      refine xi_goto (pc' := 28) kc_36_151 rfl ?_
                      refine xw_lv (b := [(0, .ref 115), (1, .int 0), (2, .int 1), (3, .int x3), (4, .int v78)]) (lvS_cons (lvS_cons (lvS_cons (lvS_cons (lvS_cons (lvS_nil (show ([4, 5, 0, 1, 2, 3] : List Nat).Nodup by decide)) rfl) rfl) rfl) rfl) rfl) ?_
                      exact ih v78 hh76 (by omega) K77 (by omega)
                    · refine xi_cmf (pc' := 14) kc_39_11 rfl (xc_le_f (X := v72.toInt) (Y := 99999) zv73 (by decide) (by omega)) ?_
                      refine xi_ldc (pc' := 16) (v := 99999) kc_39_14 rfl rfl ?_
                      refine xi_goto (pc' := 20) kc_39_16 rfl ?_
                      refine xi_ireturn kc_39_20 mr_39 rfl ?_
                      show xw J ov (d + 6) 36 (147, [(5, .int 0), (0, .ref 115), (1, .int 0), (2, .int 1), (3, .int x3), (4, .int x4)], [.int 99999, .int v70, .ref 142], h) _
                      obtain ⟨y79, s79, hy79, ry79⟩ := xj_set (v := 99999) hy71 ry71 v70 (by first | omega | decide) (by first | omega | decide)
                      refine xi_iastore (pc' := 148) (x' := y79) kc_36_147 rfl A71 rfl (xi_in (by omega) (by rw [hy71]; omega)) s79 (fun hh79 eh79 => ?_)
                      have K80 := xk_pa K (xk_wa (by decide +kernel)) xD_142 hy79 ry79 eh79
                      obtain ⟨v81, ev81⟩ : ∃ q : Int32, x4 + 1 = q := ⟨_, rfl⟩
                      have zv81 : v81.toInt = (x4.toInt + 1) := by rw [← ev81]; exact (xz_add (X := x4.toInt) (Y := 1) rfl (by decide) (by omega) (by omega)).trans (by omega)
                      refine xi_iinc (pc' := 151) (x := x4) (v := v81) (lv' := [(4, .int v81), (5, .int 0), (0, .ref 115), (1, .int 0), (2, .int 1), (3, .int x3)]) kc_36_148 rfl rfl ev81 rfl (xm_lt ml_36 rfl) ?_
                      refine xi_goto (pc' := 28) kc_36_151 rfl ?_
                      refine xw_lv (b := [(0, .ref 115), (1, .int 0), (2, .int 1), (3, .int x3), (4, .int v81)]) (lvS_cons (lvS_cons (lvS_cons (lvS_cons (lvS_cons (lvS_nil (show ([4, 5, 0, 1, 2, 3] : List Nat).Nodup by decide)) rfl) rfl) rfl) rfl) rfl) ?_
                      exact ih v81 hh79 (by omega) K80 (by omega)
                  · refine xi_iff (pc' := 4) kc_39_1 rfl (xc_ge_f (X := v72.toInt) (Y := 0) zv73 (by decide) (by omega)) ?_
                    refine xi_iconst (pc' := 5) (v := 0) kc_39_4 rfl rfl ?_
                    refine xi_goto (pc' := 20) kc_39_5 rfl ?_
                    refine xi_ireturn kc_39_20 mr_39 rfl ?_
                    show xw J ov (d + 6) 36 (147, [(5, .int 0), (0, .ref 115), (1, .int 0), (2, .int 1), (3, .int x3), (4, .int x4)], [.int 0, .int v70, .ref 142], h) _
                    obtain ⟨y82, s82, hy82, ry82⟩ := xj_set (v := 0) hy71 ry71 v70 (by first | omega | decide) (by first | omega | decide)
                    refine xi_iastore (pc' := 148) (x' := y82) kc_36_147 rfl A71 rfl (xi_in (by omega) (by rw [hy71]; omega)) s82 (fun hh82 eh82 => ?_)
                    have K83 := xk_pa K (xk_wa (by decide +kernel)) xD_142 hy82 ry82 eh82
                    obtain ⟨v84, ev84⟩ : ∃ q : Int32, x4 + 1 = q := ⟨_, rfl⟩
                    have zv84 : v84.toInt = (x4.toInt + 1) := by rw [← ev84]; exact (xz_add (X := x4.toInt) (Y := 1) rfl (by decide) (by omega) (by omega)).trans (by omega)
                    refine xi_iinc (pc' := 151) (x := x4) (v := v84) (lv' := [(4, .int v84), (5, .int 0), (0, .ref 115), (1, .int 0), (2, .int 1), (3, .int x3)]) kc_36_148 rfl rfl ev84 rfl (xm_lt ml_36 rfl) ?_
                    refine xi_goto (pc' := 28) kc_36_151 rfl ?_
                    refine xw_lv (b := [(0, .ref 115), (1, .int 0), (2, .int 1), (3, .int x3), (4, .int v84)]) (lvS_cons (lvS_cons (lvS_cons (lvS_cons (lvS_cons (lvS_nil (show ([4, 5, 0, 1, 2, 3] : List Nat).Nodup by decide)) rfl) rfl) rfl) rfl) rfl) ?_
                    exact ih v84 hh82 (by omega) K83 (by omega)
                · refine xi_cmf (pc' := 105) kc_36_102 rfl (xc_ge_f (X := v67.toInt) (Y := 6) rfl (by decide) (by omega)) ?_
                  refine xi_aload_n (pc' := 106) (x := 115) kc_36_105 rfl rfl ?_
                  refine xi_getfield (pc' := 109) (v := .ref 137) kc_36_106 rfl rfl rfl A14 rfl ?_
                  refine xi_iload (pc' := 111) (x := x4) kc_36_109 rfl rfl ?_
                  obtain ⟨y85, A85, hy85, ry85⟩ := xk_arr K.1 xD_137
                  obtain ⟨v86, ev86, bv86, dv86⟩ := xj_get hy85 ry85 (i := x4) (by omega) (by omega)
                  refine xi_iaload (pc' := 112) (v := v86) kc_36_111 rfl A85 (by decide) rfl (xi_in (by omega) (by rw [hy85]; omega)) ev86 ?_
                  refine xi_goto (pc' := 116) kc_36_112 rfl ?_
                  refine xi_istore (pc' := 118) (lv' := [(5, .int v86), (0, .ref 115), (1, .int 0), (2, .int 1), (3, .int x3), (4, .int x4)]) kc_36_116 rfl rfl (xm_lt ml_36 rfl) ?_
                  refine xi_aload_n (pc' := 119) (x := 115) kc_36_118 rfl rfl ?_
                  refine xi_getfield (pc' := 122) (v := .ref 142) kc_36_119 rfl rfl rfl A14 rfl ?_
                  refine xi_aload_n (pc' := 123) (x := 115) kc_36_122 rfl rfl ?_
                  refine xi_getfield (pc' := 126) (v := .ref 136) kc_36_123 rfl rfl rfl A14 rfl ?_
                  refine xi_iload (pc' := 128) (x := x4) kc_36_126 rfl rfl ?_
                  obtain ⟨y87, A87, hy87, ry87⟩ := xk_arr K.1 xD_136
                  obtain ⟨v88, ev88, bv88, dv88⟩ := xj_get hy87 ry87 (i := x4) (by omega) (by omega)
                  refine xi_iaload (pc' := 129) (v := v88) kc_36_128 rfl A87 (by decide) rfl (xi_in (by omega) (by rw [hy87]; omega)) ev88 ?_
                  refine xi_aload_n (pc' := 130) (x := 115) kc_36_129 rfl rfl ?_
                  refine xi_getfield (pc' := 133) (v := .ref 142) kc_36_130 rfl rfl rfl A14 rfl ?_
                  refine xi_aload_n (pc' := 134) (x := 115) kc_36_133 rfl rfl ?_
                  refine xi_getfield (pc' := 137) (v := .ref 136) kc_36_134 rfl rfl rfl A14 rfl ?_
                  refine xi_iload (pc' := 139) (x := x4) kc_36_137 rfl rfl ?_
                  refine xi_iaload (pc' := 140) (v := v88) kc_36_139 rfl A87 (by decide) rfl (xi_in (by omega) (by rw [hy87]; omega)) ev88 ?_
                  obtain ⟨y89, A89, hy89, ry89⟩ := xk_arr K.1 xD_142
                  obtain ⟨v90, ev90, bv90, dv90⟩ := xj_get hy89 ry89 (i := v88) (by omega) (by omega)
                  refine xi_iaload (pc' := 141) (v := v90) kc_36_140 rfl A89 (by decide) rfl (xi_in (by omega) (by rw [hy89]; omega)) ev90 ?_
                  refine xi_iload (pc' := 143) (x := v86) kc_36_141 rfl rfl ?_
                  obtain ⟨v91, ev91⟩ : ∃ q : Int32, (v90 : Int32) + v86 = q := ⟨_, rfl⟩
                  have rv91 := xc_rng v91
                  refine xi_iadd (pc' := 144) (v := v91) kc_36_143 rfl ev91 ?_
                  refine xi_static (mj := 39) (as := [.int v91]) (st1 := [.int v88, .ref 142]) (lv0 := [(0, .int v91)]) kc_36_144 rfl rfl (Nat.le_of_ble_eq_true rfl) rfl rfl (Nat.le_of_ble_eq_true rfl) (hJ _ _ _ _ (by decide)) (xm_le ml_39 rfl) rfl ?_
                  refine xi_iload_n (pc' := 1) (x := v91) kc_39_0 rfl rfl ?_
                  by_cases c92 : 0 ≤ v91.toInt
                  · refine xi_ift (pc' := 8) kc_39_1 rfl (xc_ge_t (X := v91.toInt) (Y := 0) rfl (by decide) (by omega)) ?_
                    refine xi_iload_n (pc' := 9) (x := v91) kc_39_8 rfl rfl ?_
                    refine xi_ldc (pc' := 11) (v := 99999) kc_39_9 rfl rfl ?_
                    by_cases c93 : v91.toInt ≤ 99999
                    · refine xi_cmt (pc' := 19) kc_39_11 rfl (xc_le_t (X := v91.toInt) (Y := 99999) rfl (by decide) (by omega)) ?_
                      refine xi_iload_n (pc' := 20) (x := v91) kc_39_19 rfl rfl ?_
                      refine xi_ireturn kc_39_20 mr_39 rfl ?_
                      show xw J ov (d + 6) 36 (147, [(5, .int v86), (0, .ref 115), (1, .int 0), (2, .int 1), (3, .int x3), (4, .int x4)], [.int v91, .int v88, .ref 142], h) _
                      obtain ⟨y94, s94, hy94, ry94⟩ := xj_set (v := v91) hy89 ry89 v88 (by first | omega | decide) (by first | omega | decide)
                      refine xi_iastore (pc' := 148) (x' := y94) kc_36_147 rfl A89 rfl (xi_in (by omega) (by rw [hy89]; omega)) s94 (fun hh94 eh94 => ?_)
                      have K95 := xk_pa K (xk_wa (by decide +kernel)) xD_142 hy94 ry94 eh94
                      obtain ⟨v96, ev96⟩ : ∃ q : Int32, x4 + 1 = q := ⟨_, rfl⟩
                      have zv96 : v96.toInt = (x4.toInt + 1) := by rw [← ev96]; exact (xz_add (X := x4.toInt) (Y := 1) rfl (by decide) (by omega) (by omega)).trans (by omega)
                      refine xi_iinc (pc' := 151) (x := x4) (v := v96) (lv' := [(4, .int v96), (5, .int v86), (0, .ref 115), (1, .int 0), (2, .int 1), (3, .int x3)]) kc_36_148 rfl rfl ev96 rfl (xm_lt ml_36 rfl) ?_
                      refine xi_goto (pc' := 28) kc_36_151 rfl ?_
                      refine xw_lv (b := [(0, .ref 115), (1, .int 0), (2, .int 1), (3, .int x3), (4, .int v96)]) (lvS_cons (lvS_cons (lvS_cons (lvS_cons (lvS_cons (lvS_nil (show ([4, 5, 0, 1, 2, 3] : List Nat).Nodup by decide)) rfl) rfl) rfl) rfl) rfl) ?_
                      exact ih v96 hh94 (by omega) K95 (by omega)
                    · refine xi_cmf (pc' := 14) kc_39_11 rfl (xc_le_f (X := v91.toInt) (Y := 99999) rfl (by decide) (by omega)) ?_
                      refine xi_ldc (pc' := 16) (v := 99999) kc_39_14 rfl rfl ?_
                      refine xi_goto (pc' := 20) kc_39_16 rfl ?_
                      refine xi_ireturn kc_39_20 mr_39 rfl ?_
                      show xw J ov (d + 6) 36 (147, [(5, .int v86), (0, .ref 115), (1, .int 0), (2, .int 1), (3, .int x3), (4, .int x4)], [.int 99999, .int v88, .ref 142], h) _
                      obtain ⟨y97, s97, hy97, ry97⟩ := xj_set (v := 99999) hy89 ry89 v88 (by first | omega | decide) (by first | omega | decide)
                      refine xi_iastore (pc' := 148) (x' := y97) kc_36_147 rfl A89 rfl (xi_in (by omega) (by rw [hy89]; omega)) s97 (fun hh97 eh97 => ?_)
                      have K98 := xk_pa K (xk_wa (by decide +kernel)) xD_142 hy97 ry97 eh97
                      obtain ⟨v99, ev99⟩ : ∃ q : Int32, x4 + 1 = q := ⟨_, rfl⟩
                      have zv99 : v99.toInt = (x4.toInt + 1) := by rw [← ev99]; exact (xz_add (X := x4.toInt) (Y := 1) rfl (by decide) (by omega) (by omega)).trans (by omega)
                      refine xi_iinc (pc' := 151) (x := x4) (v := v99) (lv' := [(4, .int v99), (5, .int v86), (0, .ref 115), (1, .int 0), (2, .int 1), (3, .int x3)]) kc_36_148 rfl rfl ev99 rfl (xm_lt ml_36 rfl) ?_
                      refine xi_goto (pc' := 28) kc_36_151 rfl ?_
                      refine xw_lv (b := [(0, .ref 115), (1, .int 0), (2, .int 1), (3, .int x3), (4, .int v99)]) (lvS_cons (lvS_cons (lvS_cons (lvS_cons (lvS_cons (lvS_nil (show ([4, 5, 0, 1, 2, 3] : List Nat).Nodup by decide)) rfl) rfl) rfl) rfl) rfl) ?_
                      exact ih v99 hh97 (by omega) K98 (by omega)
                  · refine xi_iff (pc' := 4) kc_39_1 rfl (xc_ge_f (X := v91.toInt) (Y := 0) rfl (by decide) (by omega)) ?_
                    refine xi_iconst (pc' := 5) (v := 0) kc_39_4 rfl rfl ?_
                    refine xi_goto (pc' := 20) kc_39_5 rfl ?_
                    refine xi_ireturn kc_39_20 mr_39 rfl ?_
                    show xw J ov (d + 6) 36 (147, [(5, .int v86), (0, .ref 115), (1, .int 0), (2, .int 1), (3, .int x3), (4, .int x4)], [.int 0, .int v88, .ref 142], h) _
                    obtain ⟨y100, s100, hy100, ry100⟩ := xj_set (v := 0) hy89 ry89 v88 (by first | omega | decide) (by first | omega | decide)
                    refine xi_iastore (pc' := 148) (x' := y100) kc_36_147 rfl A89 rfl (xi_in (by omega) (by rw [hy89]; omega)) s100 (fun hh100 eh100 => ?_)
                    have K101 := xk_pa K (xk_wa (by decide +kernel)) xD_142 hy100 ry100 eh100
                    obtain ⟨v102, ev102⟩ : ∃ q : Int32, x4 + 1 = q := ⟨_, rfl⟩
                    have zv102 : v102.toInt = (x4.toInt + 1) := by rw [← ev102]; exact (xz_add (X := x4.toInt) (Y := 1) rfl (by decide) (by omega) (by omega)).trans (by omega)
                    refine xi_iinc (pc' := 151) (x := x4) (v := v102) (lv' := [(4, .int v102), (5, .int v86), (0, .ref 115), (1, .int 0), (2, .int 1), (3, .int x3)]) kc_36_148 rfl rfl ev102 rfl (xm_lt ml_36 rfl) ?_
                    refine xi_goto (pc' := 28) kc_36_151 rfl ?_
                    refine xw_lv (b := [(0, .ref 115), (1, .int 0), (2, .int 1), (3, .int x3), (4, .int v102)]) (lvS_cons (lvS_cons (lvS_cons (lvS_cons (lvS_cons (lvS_nil (show ([4, 5, 0, 1, 2, 3] : List Nat).Nodup by decide)) rfl) rfl) rfl) rfl) rfl) ?_
                    exact ih v102 hh100 (by omega) K101 (by omega)
set_option maxHeartbeats 4000000 in
theorem pm_3 {J : xe_J} {ov : List (List Int32)} (hJ : ∀ d mj as h, mj ≠ xe_loff → J d mj as h = none) (hov1 : ov[1]? = some [10, 0, 0, 0, 0, 0]) (hov2 : ov[2]? = some [99, 30, 50, 50, 1, 99999]) {d : Nat} {Q : Option Value → xe_H → Prop} {hb : xe_H} {C st : xFn} {w : Nat → Int} {hr : Int} {x3 : Int32} (C0 : xcM hb C) (hC : xcr C) (I5 : xr5 hb st) (hq : xsq st) (hw : xwr 6 99999 w) (Fc : xfi hb 115 32 (C 10 hr.toNat)) (b3 : 0 ≤ x3.toInt ∧ x3.toInt ≤ 599) (eh : x3.toInt = hr) (kk : ∀ h' : xe_H, xk xP_15 hb h' → xra h' 141 6 (xwn C hr st w) → Q none h') : ∀ (m : Nat) (x4 : Int32) (h : xe_H), (0 ≤ x4.toInt ∧ x4.toInt ≤ 6) → xk xP_15 hb h → xra h 141 6 (xwm x4.toNatClampNeg (xwn C hr st w) w) → 6 - x4.toInt < (m : Int) → xw J ov (d + 6) 36 (3, [(0, .ref 115), (1, .int 0), (2, .int 1), (3, .int x3), (4, .int x4)], [], h) Q := by
  intro m
  induction m with
  | zero => intro x4 h b4 K IA hm; exfalso; omega
  | succ m ih =>
    intro x4 h b4 K IA hm
    have qx4 := xj_tn b4.1
    refine xi_iload (pc' := 5) (x := x4) kc_36_3 rfl rfl ?_
    refine xi_bipush (pc' := 7) (v := 6) kc_36_5 rfl rfl ?_
    by_cases c1 : 6 ≤ x4.toInt
    · refine xi_cmt (pc' := 25) kc_36_7 rfl (xc_ge_t (X := x4.toInt) (Y := 6) rfl (by decide) (by omega)) ?_
      refine xi_iconst (pc' := 26) (v := 0) kc_36_25 rfl rfl ?_
      refine xi_istore (pc' := 28) (lv' := [(4, .int 0), (0, .ref 115), (1, .int 0), (2, .int 1), (3, .int x3)]) kc_36_26 rfl rfl (xm_lt ml_36 rfl) ?_
      refine xw_lv (b := [(0, .ref 115), (1, .int 0), (2, .int 1), (3, .int x3), (4, .int 0)]) (lvS_cons (lvS_cons (lvS_cons (lvS_cons (lvS_cons (lvS_nil (show ([4, 0, 1, 2, 3] : List Nat).Nodup by decide)) rfl) rfl) rfl) rfl) rfl) ?_
      have zc0 : (0 : Int32).toInt = 0 := by decide
      have e6 : x4.toNatClampNeg = 6 := by omega
      rw [e6] at IA
      exact pm_28 hJ hov1 hov2 b3 (fun h' K' => kk h' (xk_tr K K' (by decide +kernel)) (xra_fr (xra_cg IA xwm_e) (K'.2.1 (141, 0) (by decide +kernel)))) 11 0 h (by omega) (xk_re K.1) (by omega)
    · refine xi_cmf (pc' := 10) kc_36_7 rfl (xc_ge_f (X := x4.toInt) (Y := 6) rfl (by decide) (by omega)) ?_
      refine xi_aload_n (pc' := 11) (x := 115) kc_36_10 rfl rfl ?_
      refine xi_iload (pc' := 13) (x := x4) kc_36_11 rfl rfl ?_
      refine xi_iload_n (pc' := 14) (x := 0) kc_36_13 rfl rfl ?_
      refine xi_iload_n (pc' := 15) (x := 1) kc_36_14 rfl rfl ?_
      refine xi_iload_n (pc' := 16) (x := x3) kc_36_15 rfl rfl ?_
      obtain ⟨u2, u3, u4, u5, u6, u7, u8, u9, u10, u11, u12, u13, u14, bu2, bu3, bu4, bu5, bu6, bu7, bu8, bu9, bu10, bu11, bu12, bu13, bu14, A15⟩ := xq_115 K.1
      have C16 : xcM h C := xcM_k C0 K (by decide +kernel)
      have hfu6 : u6.toInt = (C 11 0) := xfi_ld C16.1 A15 rfl
      have hfu9 : u9.toInt = (C 12 0) := xfi_ld C16.2.1 A15 rfl
      refine xi_virtual (mj := 37) (as := [.int x4, .int 0, .int 1, .int x3]) (st1 := []) (lv0 := [(0, .ref 115), (1, .int x4), (2, .int 0), (3, .int 1), (4, .int x3)]) kc_36_16 rfl rfl rfl rfl rfl A15 (Nat.le_of_ble_eq_true rfl) (hJ _ _ _ _ (by decide)) (xm_le ml_37 rfl) rfl ?_
      have hwm : xwr 6 99999 (xwm x4.toNatClampNeg (xwn C hr st w) w) := xwm_r (xwn_r hC hq hw (by omega) (by omega)) hw
      refine xw_pr hJ hov1 hov2 (d := d) (hr := hr) K.1 (xcM_k C0 K (by decide +kernel)) hC (xr5_k I5 K (by decide +kernel)) hq IA hwm (xfi_fr Fc (K.2.1 (115, 32) (by decide +kernel))) (by omega) b3 eh (fun hh17 K18 IA19 => ?_)
      have K20 := xk_tr K K18 (xsb_ok _ _ (by decide +kernel))
      obtain ⟨u21, u22, u23, u24, u25, u26, u27, u28, u29, u30, u31, u32, u33, bu21, bu22, bu23, bu24, bu25, bu26, bu27, bu28, bu29, bu30, bu31, bu32, bu33, A34⟩ := xq_115 K20.1
      have C35 : xcM hh17 C := xcM_k C0 K20 (by decide +kernel)
      have hfu25 : u25.toInt = (C 11 0) := xfi_ld C35.1 A34 rfl
      have hfu28 : u28.toInt = (C 12 0) := xfi_ld C35.2.1 A34 rfl
      have e36 : u3 = u22 := xk_eqi (q := 1) K18 (by decide +kernel) A15 A34 rfl rfl
      subst e36
      have e37 : u6 = u25 := xk_eqi (q := 23) K18 (by decide +kernel) A15 A34 rfl rfl
      subst e37
      have e38 : u9 = u28 := xk_eqi (q := 34) K18 (by decide +kernel) A15 A34 rfl rfl
      subst e38
      have e39 : u7 = u26 := xk_eqi (q := 32) K18 (by decide +kernel) A15 A34 rfl rfl
      subst e39
      show xw J ov (d + 6) 36 (19, [(0, .ref 115), (1, .int 0), (2, .int 1), (3, .int x3), (4, .int x4)], [], hh17) _
      obtain ⟨v40, ev40⟩ : ∃ q : Int32, x4 + 1 = q := ⟨_, rfl⟩
      have zv40 : v40.toInt = (x4.toInt + 1) := by rw [← ev40]; exact (xz_add (X := x4.toInt) (Y := 1) rfl (by decide) (by omega) (by omega)).trans (by omega)
      refine xi_iinc (pc' := 22) (x := x4) (v := v40) (lv' := [(4, .int v40), (0, .ref 115), (1, .int 0), (2, .int 1), (3, .int x3)]) kc_36_19 rfl rfl ev40 rfl (xm_lt ml_36 rfl) ?_
      refine xi_goto (pc' := 3) kc_36_22 rfl ?_
      refine xw_lv (b := [(0, .ref 115), (1, .int 0), (2, .int 1), (3, .int x3), (4, .int v40)]) (lvS_cons (lvS_cons (lvS_cons (lvS_cons (lvS_cons (lvS_nil (show ([4, 0, 1, 2, 3] : List Nat).Nodup by decide)) rfl) rfl) rfl) rfl) rfl) ?_
      have en : v40.toNatClampNeg = x4.toNatClampNeg + 1 := xcl2 b4.1 (by omega)
      rw [xwm_at] at IA19
      exact ih v40 hh17 (by omega) K20 (by rw [en]; exact xra_cg IA19 (xwm_s rfl)) (by omega)
theorem xw_phm {J : xe_J} {ov : List (List Int32)} (hJ : ∀ d mj as h, mj ≠ xe_loff → J d mj as h = none) (hov1 : ov[1]? = some [10, 0, 0, 0, 0, 0]) (hov2 : ov[2]? = some [99, 30, 50, 50, 1, 99999]) {d : Nat} {Q : Option Value → xe_H → Prop} {hb : xe_H} {C st : xFn} {w : Nat → Int} {hr : Int} {x3 : Int32} (C0 : xcM hb C) (hC : xcr C) (I5 : xr5 hb st) (hq : xsq st) (hw : xwr 6 99999 w) (Fc : xfi hb 115 32 (C 10 hr.toNat)) (b3 : 0 ≤ x3.toInt ∧ x3.toInt ≤ 599) (eh : x3.toInt = hr) (kk : ∀ h' : xe_H, xk xP_15 hb h' → xra h' 141 6 (xwn C hr st w) → Q none h') (T : xt hb) (IA : xra hb 141 6 w) : xw J ov (d + 6) 36 (0, [(0, .ref 115), (1, .int 0), (2, .int 1), (3, .int x3)], [], hb) Q := by
  have zc0 : (0 : Int32).toInt = 0 := by decide
  refine xi_iconst (pc' := 1) (v := 0) kc_36_0 rfl rfl ?_
  refine xi_istore (pc' := 3) (lv' := [(4, .int 0), (0, .ref 115), (1, .int 0), (2, .int 1), (3, .int x3)]) kc_36_1 rfl rfl (xm_lt ml_36 rfl) ?_
  refine xw_lv (b := [(0, .ref 115), (1, .int 0), (2, .int 1), (3, .int x3), (4, .int 0)]) (lvS_cons (lvS_cons (lvS_cons (lvS_cons (lvS_cons (lvS_nil (show ([4, 0, 1, 2, 3] : List Nat).Nodup by decide)) rfl) rfl) rfl) rfl) rfl) ?_
  exact pm_3 hJ hov1 hov2 C0 hC I5 hq hw Fc b3 eh kk 7 0 hb (by omega) (xk_re T) (xra_cg IA xwm_0) (by omega)
set_option maxHeartbeats 8000000 in
theorem ps_286 {J : xe_J} {ov : List (List Int32)} (hJ : ∀ d mj as h, mj ≠ xe_loff → J d mj as h = none) (hov1 : ov[1]? = some [10, 0, 0, 0, 0, 0]) (hov2 : ov[2]? = some [99, 30, 50, 50, 1, 99999]) {d : Nat} {Q : Option Value → xe_H → Prop} {hb : xe_H} {C : xFn} {s : xSt} {hr : Int} (C0 : xcM hb C) (hC : xcr C) (hT : xct C) (hs : xsr s) (b : 0 ≤ hr ∧ hr ≤ 599) (kk : ∀ h' : xe_H, xk xP_16 hb h' → xfi h' 115 1 (hr + 1) → xra h' 121 6 (xstep C hr s).1 → xr5 h' (xstep C hr s).2.1 → xra h' 148 20 (xstep C hr s).2.2 → Q none h') : ∀ (m : Nat) (x1 : Int32) (h : xe_H), (0 ≤ x1.toInt ∧ x1.toInt ≤ C 12 0) → xk xP_16 hb h → xfi h 115 1 (hr + 1) → xra h 121 6 (xwn C hr (xtb C hr s.2.1 s.2.2 (C 12 0).toNat).1 s.1) → xr5 h (xte C (hr + 1) (xtb C hr s.2.1 s.2.2 (C 12 0).toNat).1 (xtb C hr s.2.1 s.2.2 (C 12 0).toNat).2 x1.toNatClampNeg) → xra h 148 20 (xtb C hr s.2.1 s.2.2 (C 12 0).toNat).2 → 20 - x1.toInt < (m : Int) → xw J ov (d + 7) 35 (286, [(0, .ref 115), (1, .int x1)], [], h) Q := by
  intro m
  induction m with
  | zero => intro x1 h b1 K Fh FW F5 FS hm; have c12 := hC.2.1; exfalso; omega
  | succ m ih =>
    intro x1 h b1 K Fh FW F5 FS hm
    have c12 := hC.2.1
    have qx1 := xj_tn b1.1
    have hqB := xtb_r (hr := hr) hC hs.2.1 hs.2.2 (C 12 0).toNat (by omega)
    obtain ⟨y1, A1, hy1, ry1⟩ := xk_arr K.1 xD_148
    have R2 : xrp y1 20 (xtb C hr s.2.1 s.2.2 (C 12 0).toNat).2 := xra_ld FS A1
    refine xi_iload_n (pc' := 287) (x := x1) kc_35_286 rfl rfl ?_
    refine xi_aload_n (pc' := 288) (x := 115) kc_35_287 rfl rfl ?_
    obtain ⟨u3, u4, u5, u6, u7, u8, u9, u10, u11, u12, u13, u14, u15, bu3, bu4, bu5, bu6, bu7, bu8, bu9, bu10, bu11, bu12, bu13, bu14, bu15, A16⟩ := xq_115 K.1
    have C17 : xcM h C := xcM_k C0 K (by decide +kernel)
    have hfu7 : u7.toInt = (C 11 0) := xfi_ld C17.1 A16 rfl
    have hfu10 : u10.toInt = (C 12 0) := xfi_ld C17.2.1 A16 rfl
    have hfu4 : u4.toInt = (hr + 1) := xfi_ld Fh A16 rfl
    refine xi_getfield (pc' := 291) (v := .int u10) kc_35_288 rfl rfl rfl A16 rfl ?_
    by_cases c18 : u10.toInt ≤ x1.toInt
    · refine xi_cmt (pc' := 343) kc_35_291 rfl (xc_ge_t (X := x1.toInt) (Y := u10.toInt) rfl rfl (by omega)) ?_
      refine xi_aload_n (pc' := 344) (x := 115) kc_35_343 rfl rfl ?_
      refine xi_iconst (pc' := 345) (v := 0) kc_35_344 rfl rfl ?_
      refine xi_putfield (pc' := 348) (fs' := [.int u3, .int u4, .ref 116, .ref 117, .ref 118, .ref 119, .ref 120, .ref 121, .ref 122, .ref 123, .ref 124, .ref 125, .ref 126, .ref 127, .ref 128, .ref 129, .int u5, .ref 130, .int u6, .ref 131, .ref 132, .ref 133, .ref 134, .int u7, .ref 135, .ref 136, .ref 137, .ref 138, .ref 139, .ref 140, .ref 141, .ref 142, .int u8, .int u9, .int u10, .ref 143, .ref 144, .ref 145, .ref 146, .ref 147, .ref 148, .int 0, .ref 149, .ref 150, .ref 151, .int u12, .ref 152, .ref 153, .ref 154, .ref 155, .ref 156, .ref 157, .ref 158, .ref 159, .int u13, .ref 160, .int u14, .ref 161, .ref 162, .ref 163, .ref 164, .int u15, .ref 165, .ref 166]) kc_35_345 rfl rfl rfl A16 rfl rfl rfl (Nat.le_of_ble_eq_true rfl) rfl (fun hh20 eh19 => ?_)
      have K21 := xk_pf (k := 41) (v := 0) K (xk_wf (by decide +kernel)) xD_115 A16 rfl (by first | omega | decide) (by first | omega | decide) eh19 rfl
      refine xi_return kc_35_348 mr_35 ?_
      have e1 : x1.toNatClampNeg = (C 12 0).toNat := by omega
      rw [e1] at F5
      have F23 := xra_fr FW (xl_c (eh19.2.1 121 (by decide)))
      have F24 := xr5_c F5 (fun c hc => eh19.2.1 c (Ne.symm (xk_nc hc rfl)))
      have F25 := xra_fr FS (xl_c (eh19.2.1 148 (by decide)))
      have Fh2 : xfi hh20 115 1 (hr + 1) := xfi_mk eh19.1 rfl (by omega)
      exact kk hh20 K21 Fh2 F23 F24 F25
    · refine xi_cmf (pc' := 294) kc_35_291 rfl (xc_ge_f (X := x1.toInt) (Y := u10.toInt) rfl rfl (by omega)) ?_
      refine xi_aload_n (pc' := 295) (x := 115) kc_35_294 rfl rfl ?_
      refine xi_getfield (pc' := 298) (v := .ref 147) kc_35_295 rfl rfl rfl A16 rfl ?_
      refine xi_iload_n (pc' := 299) (x := x1) kc_35_298 rfl rfl ?_
      obtain ⟨y26, A26, hy26, ry26⟩ := xk_arr K.1 xD_147
      have R27 : xrp y26 20 (C 7) := xra_ld C17.2.2.2.2.2.2.2.2.2.2.2.1 A26
      obtain ⟨v28, ev28, bv28, dv28⟩ := xj_get hy26 ry26 (i := x1) (by omega) (by omega)
      refine xi_iaload (pc' := 300) (v := v28) kc_35_299 rfl A26 (by decide) rfl (xi_in (by omega) (by rw [hy26]; omega)) ev28 ?_
      have hlv28 : v28.toInt = (C 7) (Int32.toNatClampNeg x1) := xrp_ld R27 (by omega) (by omega) ev28
      refine xi_aload_n (pc' := 301) (x := 115) kc_35_300 rfl rfl ?_
      refine xi_getfield (pc' := 304) (v := .int u4) kc_35_301 rfl rfl rfl A16 rfl ?_
      by_cases c29 : v28.toInt = u4.toInt
      · refine xi_cmf (pc' := 307) kc_35_304 rfl (xc_ne_f (X := v28.toInt) (Y := u4.toInt) rfl rfl (by omega)) ?_
        refine xi_aload_n (pc' := 308) (x := 115) kc_35_307 rfl rfl ?_
        refine xi_aload_n (pc' := 309) (x := 115) kc_35_308 rfl rfl ?_
        refine xi_getfield (pc' := 312) (v := .ref 143) kc_35_309 rfl rfl rfl A16 rfl ?_
        refine xi_iload_n (pc' := 313) (x := x1) kc_35_312 rfl rfl ?_
        obtain ⟨y30, A30, hy30, ry30⟩ := xk_arr K.1 xD_143
        have R31 : xrp y30 20 (C 5) := xra_ld C17.2.2.2.2.2.2.2.2.2.1 A30
        obtain ⟨v32, ev32, bv32, dv32⟩ := xj_get hy30 ry30 (i := x1) (by omega) (by omega)
        refine xi_iaload (pc' := 314) (v := v32) kc_35_313 rfl A30 (by decide) rfl (xi_in (by omega) (by rw [hy30]; omega)) ev32 ?_
        have hlv32 : v32.toInt = (C 5) (Int32.toNatClampNeg x1) := xrp_ld R31 (by omega) (by omega) ev32
        refine xi_aload_n (pc' := 315) (x := 115) kc_35_314 rfl rfl ?_
        refine xi_getfield (pc' := 318) (v := .ref 144) kc_35_315 rfl rfl rfl A16 rfl ?_
        refine xi_iload_n (pc' := 319) (x := x1) kc_35_318 rfl rfl ?_
        obtain ⟨y33, A33, hy33, ry33⟩ := xk_arr K.1 xD_144
        have R34 : xrp y33 20 (C 13) := xra_ld C17.2.2.2.2.2.2.2.2.2.2.2.2.1 A33
        obtain ⟨v35, ev35, bv35, dv35⟩ := xj_get hy33 ry33 (i := x1) (by omega) (by omega)
        refine xi_iaload (pc' := 320) (v := v35) kc_35_319 rfl A33 (by decide) rfl (xi_in (by omega) (by rw [hy33]; omega)) ev35 ?_
        have hlv35 : v35.toInt = (C 13) (Int32.toNatClampNeg x1) := xrp_ld R34 (by omega) (by omega) ev35
        have hct := hT x1.toNatClampNeg (by omega)
        have hci := hC.2.2.2.1 x1.toNatClampNeg (by omega)
        by_cases c36 : v35.toInt = 0
        · refine xi_iff (pc' := 323) kc_35_320 rfl (xc_ne_f (X := v35.toInt) (Y := 0) rfl (by decide) (by omega)) ?_
          refine xi_iconst (pc' := 324) (v := 4) kc_35_323 rfl rfl ?_
          refine xi_goto (pc' := 328) kc_35_324 rfl ?_
          refine xi_aload_n (pc' := 329) (x := 115) kc_35_328 rfl rfl ?_
          refine xi_getfield (pc' := 332) (v := .ref 148) kc_35_329 rfl rfl rfl A16 rfl ?_
          refine xi_iload_n (pc' := 333) (x := x1) kc_35_332 rfl rfl ?_
          obtain ⟨v37, ev37, bv37, dv37⟩ := xj_get hy1 ry1 (i := x1) (by omega) (by omega)
          refine xi_iaload (pc' := 334) (v := v37) kc_35_333 rfl A1 (by decide) rfl (xi_in (by omega) (by rw [hy1]; omega)) ev37 ?_
          have hlv37 : v37.toInt = (xtb C hr s.2.1 s.2.2 (C 12 0).toNat).2 (Int32.toNatClampNeg x1) := xrp_ld R2 (by omega) (by omega) ev37
          have brv37 : 0 ≤ v37.toInt ∧ v37.toInt ≤ 50 := by have := hqB.2 x1.toNatClampNeg (by omega); omega
          refine xi_virtual (mj := 14) (as := [.int v32, .int 4, .int v37]) (st1 := []) (lv0 := [(0, .ref 115), (1, .int v32), (2, .int 4), (3, .int v37)]) kc_35_334 rfl rfl rfl rfl rfl A16 (Nat.le_of_ble_eq_true rfl) (hJ _ _ _ _ (by decide)) (xm_le ml_14 rfl) rfl ?_
          have F42 := xra_mk A1 R2
          refine xw_te4 hJ hov1 hov2 (d := d + 5) (x1 := v32) (x3 := v37) K.1 F5 FW (by omega) (by omega) (fun hh38 K39 F40 F41 => ?_)
          have F43 := xfi_fr Fh (K39.2.1 (115, 1) (by decide +kernel))
          have F44 := xra_fr F42 (K39.2.1 (148, 0) (by decide +kernel))
          have K45 := xk_tr K K39 (xsb_ok _ _ (by decide +kernel))
          have A46 := xk_eqa (q := 0) K39 (by decide +kernel) A1
          obtain ⟨u47, u48, u49, u50, u51, u52, u53, u54, u55, u56, u57, u58, u59, bu47, bu48, bu49, bu50, bu51, bu52, bu53, bu54, bu55, bu56, bu57, bu58, bu59, A60⟩ := xq_115 K45.1
          have C61 : xcM hh38 C := xcM_k C0 K45 (by decide +kernel)
          have hfu51 : u51.toInt = (C 11 0) := xfi_ld C61.1 A60 rfl
          have hfu54 : u54.toInt = (C 12 0) := xfi_ld C61.2.1 A60 rfl
          have hfu48 : u48.toInt = (hr + 1) := xfi_ld F43 A60 rfl
          have e62 : u4 = u48 := xk_eqi (q := 1) K39 (by decide +kernel) A16 A60 rfl rfl
          subst e62
          have e63 : u7 = u51 := xk_eqi (q := 23) K39 (by decide +kernel) A16 A60 rfl rfl
          subst e63
          have e64 : u10 = u54 := xk_eqi (q := 34) K39 (by decide +kernel) A16 A60 rfl rfl
          subst e64
          have e65 : u8 = u52 := xk_eqi (q := 32) K39 (by decide +kernel) A16 A60 rfl rfl
          subst e65
          have A66 := xk_eqa (q := 0) K39 (by decide +kernel) A26
          have A67 := xk_eqa (q := 0) K39 (by decide +kernel) A30
          have A68 := xk_eqa (q := 0) K39 (by decide +kernel) A33
          show xw J ov (d + 7) 35 (337, [(0, .ref 115), (1, .int x1)], [], hh38) _
          obtain ⟨v69, ev69⟩ : ∃ q : Int32, x1 + 1 = q := ⟨_, rfl⟩
          have zv69 : v69.toInt = (x1.toInt + 1) := by rw [← ev69]; exact (xz_add (X := x1.toInt) (Y := 1) rfl (by decide) (by omega) (by omega)).trans (by omega)
          refine xi_iinc (pc' := 340) (x := x1) (v := v69) (lv' := [(1, .int v69), (0, .ref 115)]) kc_35_337 rfl rfl ev69 rfl (xm_lt ml_35 rfl) ?_
          refine xi_goto (pc' := 286) kc_35_340 rfl ?_
          refine xw_lv (b := [(0, .ref 115), (1, .int v69)]) (lvS_cons (lvS_cons (lvS_nil (show ([1, 0] : List Nat).Nodup by decide)) rfl) rfl) ?_
          have en : v69.toNatClampNeg = x1.toNatClampNeg + 1 := xcl2 b1.1 (by omega)
          have ea : Int32.toNatClampNeg v32 = (C 5 x1.toNatClampNeg).toNat := xcl3 (by omega) (by omega)
          have e8 : 4 = (C 8 x1.toNatClampNeg).toNat := by omega
          have ev : (v37 : Int32).toInt = (xtb C hr s.2.1 s.2.2 (C 12 0).toNat).2 x1.toNatClampNeg := by omega
          have ey := xte_y (C := C) (hr := hr + 1) (st := (xtb C hr s.2.1 s.2.2 (C 12 0).toNat).1) (wz := (xtb C hr s.2.1 s.2.2 (C 12 0).toNat).2) (i := x1.toNatClampNeg) (by omega)
          have G5 := F40
          rw [ea, ev, e8] at G5
          exact ih v69 hh38 (by omega) K45 F43 F41 (by rw [en, ey]; exact G5) F44 (by omega)
        · refine xi_ift (pc' := 327) kc_35_320 rfl (xc_ne_t (X := v35.toInt) (Y := 0) rfl (by decide) (by omega)) ?_
          refine xi_iconst (pc' := 328) (v := 2) kc_35_327 rfl rfl ?_
          refine xi_aload_n (pc' := 329) (x := 115) kc_35_328 rfl rfl ?_
          refine xi_getfield (pc' := 332) (v := .ref 148) kc_35_329 rfl rfl rfl A16 rfl ?_
          refine xi_iload_n (pc' := 333) (x := x1) kc_35_332 rfl rfl ?_
          obtain ⟨v70, ev70, bv70, dv70⟩ := xj_get hy1 ry1 (i := x1) (by omega) (by omega)
          refine xi_iaload (pc' := 334) (v := v70) kc_35_333 rfl A1 (by decide) rfl (xi_in (by omega) (by rw [hy1]; omega)) ev70 ?_
          have hlv70 : v70.toInt = (xtb C hr s.2.1 s.2.2 (C 12 0).toNat).2 (Int32.toNatClampNeg x1) := xrp_ld R2 (by omega) (by omega) ev70
          have brv70 : 0 ≤ v70.toInt ∧ v70.toInt ≤ 50 := by have := hqB.2 x1.toNatClampNeg (by omega); omega
          refine xi_virtual (mj := 14) (as := [.int v32, .int 2, .int v70]) (st1 := []) (lv0 := [(0, .ref 115), (1, .int v32), (2, .int 2), (3, .int v70)]) kc_35_334 rfl rfl rfl rfl rfl A16 (Nat.le_of_ble_eq_true rfl) (hJ _ _ _ _ (by decide)) (xm_le ml_14 rfl) rfl ?_
          have F75 := xra_mk A1 R2
          refine xw_te2 hJ hov1 hov2 (d := d + 5) (x1 := v32) (x3 := v70) K.1 F5 FW (by omega) (by omega) (fun hh71 K72 F73 F74 => ?_)
          have F76 := xfi_fr Fh (K72.2.1 (115, 1) (by decide +kernel))
          have F77 := xra_fr F75 (K72.2.1 (148, 0) (by decide +kernel))
          have K78 := xk_tr K K72 (xsb_ok _ _ (by decide +kernel))
          have A79 := xk_eqa (q := 0) K72 (by decide +kernel) A1
          obtain ⟨u80, u81, u82, u83, u84, u85, u86, u87, u88, u89, u90, u91, u92, bu80, bu81, bu82, bu83, bu84, bu85, bu86, bu87, bu88, bu89, bu90, bu91, bu92, A93⟩ := xq_115 K78.1
          have C94 : xcM hh71 C := xcM_k C0 K78 (by decide +kernel)
          have hfu84 : u84.toInt = (C 11 0) := xfi_ld C94.1 A93 rfl
          have hfu87 : u87.toInt = (C 12 0) := xfi_ld C94.2.1 A93 rfl
          have hfu81 : u81.toInt = (hr + 1) := xfi_ld F76 A93 rfl
          have e95 : u4 = u81 := xk_eqi (q := 1) K72 (by decide +kernel) A16 A93 rfl rfl
          subst e95
          have e96 : u7 = u84 := xk_eqi (q := 23) K72 (by decide +kernel) A16 A93 rfl rfl
          subst e96
          have e97 : u10 = u87 := xk_eqi (q := 34) K72 (by decide +kernel) A16 A93 rfl rfl
          subst e97
          have e98 : u8 = u85 := xk_eqi (q := 32) K72 (by decide +kernel) A16 A93 rfl rfl
          subst e98
          have A99 := xk_eqa (q := 0) K72 (by decide +kernel) A26
          have A100 := xk_eqa (q := 0) K72 (by decide +kernel) A30
          have A101 := xk_eqa (q := 0) K72 (by decide +kernel) A33
          show xw J ov (d + 7) 35 (337, [(0, .ref 115), (1, .int x1)], [], hh71) _
          obtain ⟨v102, ev102⟩ : ∃ q : Int32, x1 + 1 = q := ⟨_, rfl⟩
          have zv102 : v102.toInt = (x1.toInt + 1) := by rw [← ev102]; exact (xz_add (X := x1.toInt) (Y := 1) rfl (by decide) (by omega) (by omega)).trans (by omega)
          refine xi_iinc (pc' := 340) (x := x1) (v := v102) (lv' := [(1, .int v102), (0, .ref 115)]) kc_35_337 rfl rfl ev102 rfl (xm_lt ml_35 rfl) ?_
          refine xi_goto (pc' := 286) kc_35_340 rfl ?_
          refine xw_lv (b := [(0, .ref 115), (1, .int v102)]) (lvS_cons (lvS_cons (lvS_nil (show ([1, 0] : List Nat).Nodup by decide)) rfl) rfl) ?_
          have en : v102.toNatClampNeg = x1.toNatClampNeg + 1 := xcl2 b1.1 (by omega)
          have ea : Int32.toNatClampNeg v32 = (C 5 x1.toNatClampNeg).toNat := xcl3 (by omega) (by omega)
          have e8 : 2 = (C 8 x1.toNatClampNeg).toNat := by omega
          have ev : (v70 : Int32).toInt = (xtb C hr s.2.1 s.2.2 (C 12 0).toNat).2 x1.toNatClampNeg := by omega
          have ey := xte_y (C := C) (hr := hr + 1) (st := (xtb C hr s.2.1 s.2.2 (C 12 0).toNat).1) (wz := (xtb C hr s.2.1 s.2.2 (C 12 0).toNat).2) (i := x1.toNatClampNeg) (by omega)
          have G5 := F73
          rw [ea, ev, e8] at G5
          exact ih v102 hh71 (by omega) K78 F76 F74 (by rw [en, ey]; exact G5) F77 (by omega)
      · refine xi_cmt (pc' := 337) kc_35_304 rfl (xc_ne_t (X := v28.toInt) (Y := u4.toInt) rfl rfl (by omega)) ?_
        obtain ⟨v103, ev103⟩ : ∃ q : Int32, x1 + 1 = q := ⟨_, rfl⟩
        have zv103 : v103.toInt = (x1.toInt + 1) := by rw [← ev103]; exact (xz_add (X := x1.toInt) (Y := 1) rfl (by decide) (by omega) (by omega)).trans (by omega)
        refine xi_iinc (pc' := 340) (x := x1) (v := v103) (lv' := [(1, .int v103), (0, .ref 115)]) kc_35_337 rfl rfl ev103 rfl (xm_lt ml_35 rfl) ?_
        refine xi_goto (pc' := 286) kc_35_340 rfl ?_
        refine xw_lv (b := [(0, .ref 115), (1, .int v103)]) (lvS_cons (lvS_cons (lvS_nil (show ([1, 0] : List Nat).Nodup by decide)) rfl) rfl) ?_
        have en : v103.toNatClampNeg = x1.toNatClampNeg + 1 := xcl2 b1.1 (by omega)
        have ey := xte_n (C := C) (hr := hr + 1) (st := (xtb C hr s.2.1 s.2.2 (C 12 0).toNat).1) (wz := (xtb C hr s.2.1 s.2.2 (C 12 0).toNat).2) (i := x1.toNatClampNeg) (by omega)
        exact ih v103 h (by omega) K Fh FW (by rw [en, ey]; exact F5) FS (by omega)
set_option maxHeartbeats 8000000 in
theorem ps_205 {J : xe_J} {ov : List (List Int32)} (hJ : ∀ d mj as h, mj ≠ xe_loff → J d mj as h = none) (hov1 : ov[1]? = some [10, 0, 0, 0, 0, 0]) (hov2 : ov[2]? = some [99, 30, 50, 50, 1, 99999]) {d : Nat} {Q : Option Value → xe_H → Prop} {hb : xe_H} {C : xFn} {s : xSt} {hr : Int} (C0 : xcM hb C) (hC : xcr C) (hT : xct C) (hs : xsr s) (b : 0 ≤ hr ∧ hr ≤ 599) (kk : ∀ h' : xe_H, xk xP_16 hb h' → xfi h' 115 1 (hr + 1) → xra h' 121 6 (xstep C hr s).1 → xr5 h' (xstep C hr s).2.1 → xra h' 148 20 (xstep C hr s).2.2 → Q none h') : ∀ (m : Nat) (x1 : Int32) (h : xe_H), (0 ≤ x1.toInt ∧ x1.toInt ≤ 12) → xk xP_16 hb h → xfi h 115 1 hr → xra h 121 6 (xwn C hr (xtb C hr s.2.1 s.2.2 (C 12 0).toNat).1 s.1) → xr5 h (xtb C hr s.2.1 s.2.2 (C 12 0).toNat).1 → xra h 148 20 (xtb C hr s.2.1 s.2.2 (C 12 0).toNat).2 → 12 - x1.toInt < (m : Int) → xw J ov (d + 7) 35 (205, [(0, .ref 115), (1, .int x1)], [], h) Q := by
  intro m
  induction m with
  | zero => intro x1 h b1 K Fh FW F5 FS hm; have c12 := hC.2.1; exfalso; omega
  | succ m ih =>
    intro x1 h b1 K Fh FW F5 FS hm
    have c12 := hC.2.1
    have qx1 := xj_tn b1.1
    have hqB := xtb_r (hr := hr) hC hs.2.1 hs.2.2 (C 12 0).toNat (by omega)
    refine xi_iload_n (pc' := 206) (x := x1) kc_35_205 rfl rfl ?_
    refine xi_bipush (pc' := 208) (v := 12) kc_35_206 rfl rfl ?_
    by_cases c1 : 12 ≤ x1.toInt
    · refine xi_cmt (pc' := 274) kc_35_208 rfl (xc_ge_t (X := x1.toInt) (Y := 12) rfl (by decide) (by omega)) ?_
      refine xi_aload_n (pc' := 275) (x := 115) kc_35_274 rfl rfl ?_
      refine xi_dup (pc' := 276) kc_35_275 rfl rfl ?_
      obtain ⟨u2, u3, u4, u5, u6, u7, u8, u9, u10, u11, u12, u13, u14, bu2, bu3, bu4, bu5, bu6, bu7, bu8, bu9, bu10, bu11, bu12, bu13, bu14, A15⟩ := xq_115 K.1
      have C16 : xcM h C := xcM_k C0 K (by decide +kernel)
      have hfu6 : u6.toInt = (C 11 0) := xfi_ld C16.1 A15 rfl
      have hfu9 : u9.toInt = (C 12 0) := xfi_ld C16.2.1 A15 rfl
      have hfu3 : u3.toInt = hr := xfi_ld Fh A15 rfl
      have bru3 : 0 ≤ u3.toInt ∧ u3.toInt ≤ 599 := by omega
      refine xi_getfield (pc' := 279) (v := .int u3) kc_35_276 rfl rfl rfl A15 rfl ?_
      refine xi_iconst (pc' := 280) (v := 1) kc_35_279 rfl rfl ?_
      obtain ⟨v17, ev17⟩ : ∃ q : Int32, u3 + 1 = q := ⟨_, rfl⟩
      have zv17 : v17.toInt = (u3.toInt + 1) := by rw [← ev17]; exact (xz_add (X := u3.toInt) (Y := 1) rfl (by decide) (by omega) (by omega)).trans (by omega)
      refine xi_iadd (pc' := 281) (v := v17) kc_35_280 rfl ev17 ?_
      refine xi_putfield (pc' := 284) (fs' := [.int u2, .int v17, .ref 116, .ref 117, .ref 118, .ref 119, .ref 120, .ref 121, .ref 122, .ref 123, .ref 124, .ref 125, .ref 126, .ref 127, .ref 128, .ref 129, .int u4, .ref 130, .int u5, .ref 131, .ref 132, .ref 133, .ref 134, .int u6, .ref 135, .ref 136, .ref 137, .ref 138, .ref 139, .ref 140, .ref 141, .ref 142, .int u7, .int u8, .int u9, .ref 143, .ref 144, .ref 145, .ref 146, .ref 147, .ref 148, .int u10, .ref 149, .ref 150, .ref 151, .int u11, .ref 152, .ref 153, .ref 154, .ref 155, .ref 156, .ref 157, .ref 158, .ref 159, .int u12, .ref 160, .int u13, .ref 161, .ref 162, .ref 163, .ref 164, .int u14, .ref 165, .ref 166]) kc_35_281 rfl rfl rfl A15 rfl rfl rfl (Nat.le_of_ble_eq_true rfl) rfl (fun hh19 eh18 => ?_)
      have K20 := xk_pf (k := 1) (v := v17) K (xk_wf (by decide +kernel)) xD_115 A15 rfl (by first | omega | decide) (by first | omega | decide) eh18 rfl
      refine xi_iconst (pc' := 285) (v := 0) kc_35_284 rfl rfl ?_
      refine xi_istore_n (pc' := 286) (lv' := [(1, .int 0), (0, .ref 115)]) kc_35_285 rfl rfl (xm_lt ml_35 rfl) ?_
      refine xw_lv (b := [(0, .ref 115), (1, .int 0)]) (lvS_cons (lvS_cons (lvS_nil (show ([1, 0] : List Nat).Nodup by decide)) rfl) rfl) ?_
      have zc0 : (0 : Int32).toInt = 0 := by decide
      have F22 := xra_fr FW (xl_c (eh18.2.1 121 (by decide)))
      have F23 := xr5_c F5 (fun c hc => eh18.2.1 c (Ne.symm (xk_nc hc rfl)))
      have F24 := xra_fr FS (xl_c (eh18.2.1 148 (by decide)))
      have Fh2 : xfi hh19 115 1 (hr + 1) := xfi_mk eh18.1 rfl (by omega)
      exact ps_286 hJ hov1 hov2 C0 hC hT hs b kk 21 0 hh19 (by omega) K20 Fh2 F22 F23 F24 (by omega)
    · refine xi_cmf (pc' := 211) kc_35_208 rfl (xc_ge_f (X := x1.toInt) (Y := 12) rfl (by decide) (by omega)) ?_
      refine xi_aload_n (pc' := 212) (x := 115) kc_35_211 rfl rfl ?_
      obtain ⟨u25, u26, u27, u28, u29, u30, u31, u32, u33, u34, u35, u36, u37, bu25, bu26, bu27, bu28, bu29, bu30, bu31, bu32, bu33, bu34, bu35, bu36, bu37, A38⟩ := xq_115 K.1
      have C39 : xcM h C := xcM_k C0 K (by decide +kernel)
      have hfu29 : u29.toInt = (C 11 0) := xfi_ld C39.1 A38 rfl
      have hfu32 : u32.toInt = (C 12 0) := xfi_ld C39.2.1 A38 rfl
      have hfu26 : u26.toInt = hr := xfi_ld Fh A38 rfl
      have bru26 : 0 ≤ u26.toInt ∧ u26.toInt ≤ 599 := by omega
      refine xi_getfield (pc' := 215) (v := .ref 128) kc_35_212 rfl rfl rfl A38 rfl ?_
      refine xi_iload_n (pc' := 216) (x := x1) kc_35_215 rfl rfl ?_
      refine xi_aload_n (pc' := 217) (x := 115) kc_35_216 rfl rfl ?_
      refine xi_getfield (pc' := 220) (v := .ref 142) kc_35_217 rfl rfl rfl A38 rfl ?_
      refine xi_iload_n (pc' := 221) (x := x1) kc_35_220 rfl rfl ?_
      obtain ⟨y40, A40, hy40, ry40⟩ := xk_arr K.1 xD_142
      obtain ⟨v41, ev41, bv41, dv41⟩ := xj_get hy40 ry40 (i := x1) (by omega) (by omega)
      refine xi_iaload (pc' := 222) (v := v41) kc_35_221 rfl A40 (by decide) rfl (xi_in (by omega) (by rw [hy40]; omega)) ev41 ?_
      obtain ⟨y42, A42, hy42, ry42⟩ := xk_arr K.1 xD_128
      obtain ⟨y43, s43, hy43, ry43⟩ := xj_set (v := v41) hy42 ry42 x1 (by first | omega | decide) (by first | omega | decide)
      refine xi_iastore (pc' := 223) (x' := y43) kc_35_222 rfl A42 rfl (xi_in (by omega) (by rw [hy42]; omega)) s43 (fun hh43 eh43 => ?_)
      have K44 := xk_pa K (xk_wa (by decide +kernel)) xD_128 hy43 ry43 eh43
      refine xi_aload_n (pc' := 224) (x := 115) kc_35_223 rfl rfl ?_
      have A45 := ((eh43.2.1 115 (by decide)).trans A38)
      refine xi_getfield (pc' := 227) (v := .ref 129) kc_35_224 rfl rfl rfl A45 rfl ?_
      refine xi_iload_n (pc' := 228) (x := x1) kc_35_227 rfl rfl ?_
      refine xi_dup2 (pc' := 229) kc_35_228 rfl ⟨rfl, rfl⟩ ?_
      obtain ⟨y46, A46, hy46, ry46⟩ := xk_arr K44.1 xD_129
      obtain ⟨v47, ev47, bv47, dv47⟩ := xj_get hy46 ry46 (i := x1) (by omega) (by omega)
      refine xi_iaload (pc' := 230) (v := v47) kc_35_229 rfl A46 (by decide) rfl (xi_in (by omega) (by rw [hy46]; omega)) ev47 ?_
      refine xi_aload_n (pc' := 231) (x := 115) kc_35_230 rfl rfl ?_
      refine xi_getfield (pc' := 234) (v := .ref 128) kc_35_231 rfl rfl rfl A45 rfl ?_
      refine xi_iload_n (pc' := 235) (x := x1) kc_35_234 rfl rfl ?_
      obtain ⟨v48, ev48, bv48, dv48⟩ := xj_get hy43 ry43 (i := x1) (by omega) (by omega)
      refine xi_iaload (pc' := 236) (v := v48) kc_35_235 rfl eh43.1 (by decide) rfl (xi_in (by omega) (by rw [hy43]; omega)) ev48 ?_
      refine xi_bipush (pc' := 238) (v := 50) kc_35_236 rfl rfl ?_
      by_cases c49 : v48.toInt < 50
      · refine xi_cmt (pc' := 245) kc_35_238 rfl (xc_lt_t (X := v48.toInt) (Y := 50) rfl (by decide) (by omega)) ?_
        refine xi_iconst (pc' := 246) (v := 0) kc_35_245 rfl rfl ?_
        obtain ⟨v50, ev50⟩ : ∃ q : Int32, v47 + 0 = q := ⟨_, rfl⟩
        have zv50 : v50.toInt = v47.toInt := by rw [← ev50]; exact (xz_add (X := v47.toInt) (Y := 0) rfl (by decide) (by omega) (by omega)).trans (by omega)
        refine xi_iadd (pc' := 247) (v := v50) kc_35_246 rfl ev50 ?_
        obtain ⟨y51, s51, hy51, ry51⟩ := xj_set (v := v50) hy46 ry46 x1 (by first | omega | decide) (by first | omega | decide)
        refine xi_iastore (pc' := 248) (x' := y51) kc_35_247 rfl A46 rfl (xi_in (by omega) (by rw [hy46]; omega)) s51 (fun hh51 eh51 => ?_)
        have K52 := xk_pa K44 (xk_wa (by decide +kernel)) xD_129 hy51 ry51 eh51
        refine xi_aload_n (pc' := 249) (x := 115) kc_35_248 rfl rfl ?_
        have A53 := ((eh51.2.1 115 (by decide)).trans A45)
        refine xi_getfield (pc' := 252) (v := .ref 130) kc_35_249 rfl rfl rfl A53 rfl ?_
        refine xi_bipush (pc' := 254) (v := 12) kc_35_252 rfl rfl ?_
        refine xi_aload_n (pc' := 255) (x := 115) kc_35_254 rfl rfl ?_
        refine xi_getfield (pc' := 258) (v := .int u26) kc_35_255 rfl rfl rfl A53 rfl ?_
        obtain ⟨v54, ev54⟩ : ∃ q : Int32, 12 * u26 = q := ⟨_, rfl⟩
        have zv54 : v54.toInt = (12) * u26.toInt := by rw [← ev54]; exact (xz_mul (X := 12) (Y := u26.toInt) (by decide) rfl (by omega) (by omega)).trans (by omega)
        refine xi_imul (pc' := 259) (v := v54) kc_35_258 rfl ev54 ?_
        refine xi_iload_n (pc' := 260) (x := x1) kc_35_259 rfl rfl ?_
        obtain ⟨v55, ev55⟩ : ∃ q : Int32, v54 + x1 = q := ⟨_, rfl⟩
        have zv55 : v55.toInt = ((12) * u26.toInt + x1.toInt) := by rw [← ev55]; exact (xz_add (X := (12) * u26.toInt) (Y := x1.toInt) zv54 rfl (by omega) (by omega)).trans (by omega)
        refine xi_iadd (pc' := 261) (v := v55) kc_35_260 rfl ev55 ?_
        refine xi_aload_n (pc' := 262) (x := 115) kc_35_261 rfl rfl ?_
        refine xi_getfield (pc' := 265) (v := .ref 128) kc_35_262 rfl rfl rfl A53 rfl ?_
        refine xi_iload_n (pc' := 266) (x := x1) kc_35_265 rfl rfl ?_
        have A56 := ((eh51.2.1 128 (by decide)).trans eh43.1)
        refine xi_iaload (pc' := 267) (v := v48) kc_35_266 rfl A56 (by decide) rfl (xi_in (by omega) (by rw [hy43]; omega)) ev48 ?_
        obtain ⟨y57, A57, hy57, ry57⟩ := xk_arr K52.1 xD_130
        obtain ⟨y58, s58, hy58, ry58⟩ := xj_set (v := v48) hy57 ry57 v55 (by first | omega | decide) (by first | omega | decide)
        refine xi_iastore (pc' := 268) (x' := y58) kc_35_267 rfl A57 rfl (xi_in (by rw [zv55]; omega) (by rw [hy57]; rw [zv55]; omega)) s58 (fun hh58 eh58 => ?_)
        have K59 := xk_pa K52 (xk_wa (by decide +kernel)) xD_130 hy58 ry58 eh58
        obtain ⟨v60, ev60⟩ : ∃ q : Int32, x1 + 1 = q := ⟨_, rfl⟩
        have zv60 : v60.toInt = (x1.toInt + 1) := by rw [← ev60]; exact (xz_add (X := x1.toInt) (Y := 1) rfl (by decide) (by omega) (by omega)).trans (by omega)
        refine xi_iinc (pc' := 271) (x := x1) (v := v60) (lv' := [(1, .int v60), (0, .ref 115)]) kc_35_268 rfl rfl ev60 rfl (xm_lt ml_35 rfl) ?_
        refine xi_goto (pc' := 205) kc_35_271 rfl ?_
        refine xw_lv (b := [(0, .ref 115), (1, .int v60)]) (lvS_cons (lvS_cons (lvS_nil (show ([1, 0] : List Nat).Nodup by decide)) rfl) rfl) ?_
        have en : v60.toNatClampNeg = x1.toNatClampNeg + 1 := xcl2 b1.1 (by omega)
        have F61 := xfi_fr Fh (xl_c (eh43.2.1 115 (by decide)))
        have F62 := xra_fr FW (xl_c (eh43.2.1 121 (by decide)))
        have F63 := xr5_c F5 (fun c hc => eh43.2.1 c (Ne.symm (xk_nc hc rfl)))
        have F64 := xra_fr FS (xl_c (eh43.2.1 148 (by decide)))
        have F65 := xfi_fr F61 (xl_c (eh51.2.1 115 (by decide)))
        have F66 := xra_fr F62 (xl_c (eh51.2.1 121 (by decide)))
        have F67 := xr5_c F63 (fun c hc => eh51.2.1 c (Ne.symm (xk_nc hc rfl)))
        have F68 := xra_fr F64 (xl_c (eh51.2.1 148 (by decide)))
        have F69 := xfi_fr F65 (xl_c (eh58.2.1 115 (by decide)))
        have F70 := xra_fr F66 (xl_c (eh58.2.1 121 (by decide)))
        have F71 := xr5_c F67 (fun c hc => eh58.2.1 c (Ne.symm (xk_nc hc rfl)))
        have F72 := xra_fr F68 (xl_c (eh58.2.1 148 (by decide)))
        exact ih v60 hh58 (by omega) K59 F69 F70 F71 F72 (by omega)
      · refine xi_cmf (pc' := 241) kc_35_238 rfl (xc_lt_f (X := v48.toInt) (Y := 50) rfl (by decide) (by omega)) ?_
        refine xi_iconst (pc' := 242) (v := 1) kc_35_241 rfl rfl ?_
        refine xi_goto (pc' := 246) kc_35_242 rfl ?_
        obtain ⟨v73, ev73⟩ : ∃ q : Int32, (v47 : Int32) + 1 = q := ⟨_, rfl⟩
        have rv73 := xc_rng v73
        refine xi_iadd (pc' := 247) (v := v73) kc_35_246 rfl ev73 ?_
        obtain ⟨y74, s74, hy74, ry74⟩ := xj_set (v := v73) hy46 ry46 x1 (by first | omega | decide) (by first | omega | decide)
        refine xi_iastore (pc' := 248) (x' := y74) kc_35_247 rfl A46 rfl (xi_in (by omega) (by rw [hy46]; omega)) s74 (fun hh74 eh74 => ?_)
        have K75 := xk_pa K44 (xk_wa (by decide +kernel)) xD_129 hy74 ry74 eh74
        refine xi_aload_n (pc' := 249) (x := 115) kc_35_248 rfl rfl ?_
        have A76 := ((eh74.2.1 115 (by decide)).trans A45)
        refine xi_getfield (pc' := 252) (v := .ref 130) kc_35_249 rfl rfl rfl A76 rfl ?_
        refine xi_bipush (pc' := 254) (v := 12) kc_35_252 rfl rfl ?_
        refine xi_aload_n (pc' := 255) (x := 115) kc_35_254 rfl rfl ?_
        refine xi_getfield (pc' := 258) (v := .int u26) kc_35_255 rfl rfl rfl A76 rfl ?_
        obtain ⟨v77, ev77⟩ : ∃ q : Int32, 12 * u26 = q := ⟨_, rfl⟩
        have zv77 : v77.toInt = (12) * u26.toInt := by rw [← ev77]; exact (xz_mul (X := 12) (Y := u26.toInt) (by decide) rfl (by omega) (by omega)).trans (by omega)
        refine xi_imul (pc' := 259) (v := v77) kc_35_258 rfl ev77 ?_
        refine xi_iload_n (pc' := 260) (x := x1) kc_35_259 rfl rfl ?_
        obtain ⟨v78, ev78⟩ : ∃ q : Int32, v77 + x1 = q := ⟨_, rfl⟩
        have zv78 : v78.toInt = ((12) * u26.toInt + x1.toInt) := by rw [← ev78]; exact (xz_add (X := (12) * u26.toInt) (Y := x1.toInt) zv77 rfl (by omega) (by omega)).trans (by omega)
        refine xi_iadd (pc' := 261) (v := v78) kc_35_260 rfl ev78 ?_
        refine xi_aload_n (pc' := 262) (x := 115) kc_35_261 rfl rfl ?_
        refine xi_getfield (pc' := 265) (v := .ref 128) kc_35_262 rfl rfl rfl A76 rfl ?_
        refine xi_iload_n (pc' := 266) (x := x1) kc_35_265 rfl rfl ?_
        have A79 := ((eh74.2.1 128 (by decide)).trans eh43.1)
        refine xi_iaload (pc' := 267) (v := v48) kc_35_266 rfl A79 (by decide) rfl (xi_in (by omega) (by rw [hy43]; omega)) ev48 ?_
        obtain ⟨y80, A80, hy80, ry80⟩ := xk_arr K75.1 xD_130
        obtain ⟨y81, s81, hy81, ry81⟩ := xj_set (v := v48) hy80 ry80 v78 (by first | omega | decide) (by first | omega | decide)
        refine xi_iastore (pc' := 268) (x' := y81) kc_35_267 rfl A80 rfl (xi_in (by rw [zv78]; omega) (by rw [hy80]; rw [zv78]; omega)) s81 (fun hh81 eh81 => ?_)
        have K82 := xk_pa K75 (xk_wa (by decide +kernel)) xD_130 hy81 ry81 eh81
        obtain ⟨v83, ev83⟩ : ∃ q : Int32, x1 + 1 = q := ⟨_, rfl⟩
        have zv83 : v83.toInt = (x1.toInt + 1) := by rw [← ev83]; exact (xz_add (X := x1.toInt) (Y := 1) rfl (by decide) (by omega) (by omega)).trans (by omega)
        refine xi_iinc (pc' := 271) (x := x1) (v := v83) (lv' := [(1, .int v83), (0, .ref 115)]) kc_35_268 rfl rfl ev83 rfl (xm_lt ml_35 rfl) ?_
        refine xi_goto (pc' := 205) kc_35_271 rfl ?_
        refine xw_lv (b := [(0, .ref 115), (1, .int v83)]) (lvS_cons (lvS_cons (lvS_nil (show ([1, 0] : List Nat).Nodup by decide)) rfl) rfl) ?_
        have en : v83.toNatClampNeg = x1.toNatClampNeg + 1 := xcl2 b1.1 (by omega)
        have F84 := xfi_fr Fh (xl_c (eh43.2.1 115 (by decide)))
        have F85 := xra_fr FW (xl_c (eh43.2.1 121 (by decide)))
        have F86 := xr5_c F5 (fun c hc => eh43.2.1 c (Ne.symm (xk_nc hc rfl)))
        have F87 := xra_fr FS (xl_c (eh43.2.1 148 (by decide)))
        have F88 := xfi_fr F84 (xl_c (eh74.2.1 115 (by decide)))
        have F89 := xra_fr F85 (xl_c (eh74.2.1 121 (by decide)))
        have F90 := xr5_c F86 (fun c hc => eh74.2.1 c (Ne.symm (xk_nc hc rfl)))
        have F91 := xra_fr F87 (xl_c (eh74.2.1 148 (by decide)))
        have F92 := xfi_fr F88 (xl_c (eh81.2.1 115 (by decide)))
        have F93 := xra_fr F89 (xl_c (eh81.2.1 121 (by decide)))
        have F94 := xr5_c F90 (fun c hc => eh81.2.1 c (Ne.symm (xk_nc hc rfl)))
        have F95 := xra_fr F91 (xl_c (eh81.2.1 148 (by decide)))
        exact ih v83 hh81 (by omega) K82 F92 F93 F94 F95 (by omega)
set_option maxHeartbeats 8000000 in
theorem ps_179 {J : xe_J} {ov : List (List Int32)} (hJ : ∀ d mj as h, mj ≠ xe_loff → J d mj as h = none) (hov1 : ov[1]? = some [10, 0, 0, 0, 0, 0]) (hov2 : ov[2]? = some [99, 30, 50, 50, 1, 99999]) {d : Nat} {Q : Option Value → xe_H → Prop} {hb : xe_H} {C : xFn} {s : xSt} {hr : Int} (C0 : xcM hb C) (hC : xcr C) (hT : xct C) (hs : xsr s) (b : 0 ≤ hr ∧ hr ≤ 599) (kk : ∀ h' : xe_H, xk xP_16 hb h' → xfi h' 115 1 (hr + 1) → xra h' 121 6 (xstep C hr s).1 → xr5 h' (xstep C hr s).2.1 → xra h' 148 20 (xstep C hr s).2.2 → Q none h') : ∀ (m : Nat) (x1 : Int32) (h : xe_H), (0 ≤ x1.toInt ∧ x1.toInt ≤ 6) → xk xP_16 hb h → xfi h 115 1 hr → xra h 121 6 (xwm x1.toNatClampNeg (xwn C hr (xtb C hr s.2.1 s.2.2 (C 12 0).toNat).1 s.1) s.1) → xr5 h (xtb C hr s.2.1 s.2.2 (C 12 0).toNat).1 → xra h 148 20 (xtb C hr s.2.1 s.2.2 (C 12 0).toNat).2 → xra h 141 6 (xwn C hr (xtb C hr s.2.1 s.2.2 (C 12 0).toNat).1 s.1) → 6 - x1.toInt < (m : Int) → xw J ov (d + 7) 35 (179, [(0, .ref 115), (1, .int x1)], [], h) Q := by
  intro m
  induction m with
  | zero => intro x1 h b1 K Fh FW F5 FS FA hm; have c12 := hC.2.1; exfalso; omega
  | succ m ih =>
    intro x1 h b1 K Fh FW F5 FS FA hm
    have c12 := hC.2.1
    have qx1 := xj_tn b1.1
    have hqB := xtb_r (hr := hr) hC hs.2.1 hs.2.2 (C 12 0).toNat (by omega)
    obtain ⟨y1, A1, hy1, ry1⟩ := xk_arr K.1 xD_121
    have R2 : xrp y1 6 (xwm x1.toNatClampNeg (xwn C hr (xtb C hr s.2.1 s.2.2 (C 12 0).toNat).1 s.1) s.1) := xra_ld FW A1
    obtain ⟨y3, A3, hy3, ry3⟩ := xk_arr K.1 xD_141
    have R4 : xrp y3 6 (xwn C hr (xtb C hr s.2.1 s.2.2 (C 12 0).toNat).1 s.1) := xra_ld FA A3
    refine xi_iload_n (pc' := 180) (x := x1) kc_35_179 rfl rfl ?_
    refine xi_bipush (pc' := 182) (v := 6) kc_35_180 rfl rfl ?_
    by_cases c5 : 6 ≤ x1.toInt
    · refine xi_cmt (pc' := 203) kc_35_182 rfl (xc_ge_t (X := x1.toInt) (Y := 6) rfl (by decide) (by omega)) ?_
      refine xi_iconst (pc' := 204) (v := 0) kc_35_203 rfl rfl ?_
      refine xi_istore_n (pc' := 205) (lv' := [(1, .int 0), (0, .ref 115)]) kc_35_204 rfl rfl (xm_lt ml_35 rfl) ?_
      refine xw_lv (b := [(0, .ref 115), (1, .int 0)]) (lvS_cons (lvS_cons (lvS_nil (show ([1, 0] : List Nat).Nodup by decide)) rfl) rfl) ?_
      have zc0 : (0 : Int32).toInt = 0 := by decide
      have e1 : x1.toNatClampNeg = 6 := by omega
      rw [e1] at FW
      exact ps_205 hJ hov1 hov2 C0 hC hT hs b kk 13 0 h (by omega) K Fh (xra_cg FW xwm_e) F5 FS (by omega)
    · refine xi_cmf (pc' := 185) kc_35_182 rfl (xc_ge_f (X := x1.toInt) (Y := 6) rfl (by decide) (by omega)) ?_
      refine xi_aload_n (pc' := 186) (x := 115) kc_35_185 rfl rfl ?_
      obtain ⟨u6, u7, u8, u9, u10, u11, u12, u13, u14, u15, u16, u17, u18, bu6, bu7, bu8, bu9, bu10, bu11, bu12, bu13, bu14, bu15, bu16, bu17, bu18, A19⟩ := xq_115 K.1
      have C20 : xcM h C := xcM_k C0 K (by decide +kernel)
      have hfu10 : u10.toInt = (C 11 0) := xfi_ld C20.1 A19 rfl
      have hfu13 : u13.toInt = (C 12 0) := xfi_ld C20.2.1 A19 rfl
      have hfu7 : u7.toInt = hr := xfi_ld Fh A19 rfl
      have bru7 : 0 ≤ u7.toInt ∧ u7.toInt ≤ 599 := by omega
      refine xi_getfield (pc' := 189) (v := .ref 121) kc_35_186 rfl rfl rfl A19 rfl ?_
      refine xi_iload_n (pc' := 190) (x := x1) kc_35_189 rfl rfl ?_
      refine xi_aload_n (pc' := 191) (x := 115) kc_35_190 rfl rfl ?_
      refine xi_getfield (pc' := 194) (v := .ref 141) kc_35_191 rfl rfl rfl A19 rfl ?_
      refine xi_iload_n (pc' := 195) (x := x1) kc_35_194 rfl rfl ?_
      obtain ⟨v21, ev21, bv21, dv21⟩ := xj_get hy3 ry3 (i := x1) (by omega) (by omega)
      refine xi_iaload (pc' := 196) (v := v21) kc_35_195 rfl A3 (by decide) rfl (xi_in (by omega) (by rw [hy3]; omega)) ev21 ?_
      have hlv21 : v21.toInt = (xwn C hr (xtb C hr s.2.1 s.2.2 (C 12 0).toNat).1 s.1) (Int32.toNatClampNeg x1) := xrp_ld R4 (by omega) (by omega) ev21
      have brv21 : 0 ≤ v21.toInt ∧ v21.toInt ≤ 99999 := by have := xwn_r (hr := hr) hC hqB.1 hs.1 (by omega) (by omega) x1.toNatClampNeg (by omega); omega
      obtain ⟨y22, s22, hy22, ry22⟩ := xj_set (v := v21) hy1 ry1 x1 (by first | omega | decide) (by first | omega | decide)
      refine xi_iastore (pc' := 197) (x' := y22) kc_35_196 rfl A1 rfl (xi_in (by omega) (by rw [hy1]; omega)) s22 (fun hh22 eh22 => ?_)
      have K23 := xk_pa K (xk_wa (by decide +kernel)) xD_121 hy22 ry22 eh22
      have R24 : xrp y22 6 (xup (xwm x1.toNatClampNeg (xwn C hr (xtb C hr s.2.1 s.2.2 (C 12 0).toNat).1 s.1) s.1) (Int32.toNatClampNeg x1) (v21 : Int32).toInt) := xrp_set R2 s22
      obtain ⟨v25, ev25⟩ : ∃ q : Int32, x1 + 1 = q := ⟨_, rfl⟩
      have zv25 : v25.toInt = (x1.toInt + 1) := by rw [← ev25]; exact (xz_add (X := x1.toInt) (Y := 1) rfl (by decide) (by omega) (by omega)).trans (by omega)
      refine xi_iinc (pc' := 200) (x := x1) (v := v25) (lv' := [(1, .int v25), (0, .ref 115)]) kc_35_197 rfl rfl ev25 rfl (xm_lt ml_35 rfl) ?_
      refine xi_goto (pc' := 179) kc_35_200 rfl ?_
      refine xw_lv (b := [(0, .ref 115), (1, .int v25)]) (lvS_cons (lvS_cons (lvS_nil (show ([1, 0] : List Nat).Nodup by decide)) rfl) rfl) ?_
      have en : v25.toNatClampNeg = x1.toNatClampNeg + 1 := xcl2 b1.1 (by omega)
      have F26 := xfi_fr Fh (xl_c (eh22.2.1 115 (by decide)))
      have F28 := xr5_c F5 (fun c hc => eh22.2.1 c (Ne.symm (xk_nc hc rfl)))
      have F29 := xra_fr FS (xl_c (eh22.2.1 148 (by decide)))
      have F30 := xra_fr FA (xl_c (eh22.2.1 141 (by decide)))
      have F31 := xra_mk eh22.1 (xrp_cg R24 (xwm_s (by omega)))
      exact ih v25 hh22 (by omega) K23 F26 (by rw [en]; exact F31) F28 F29 F30 (by omega)
set_option maxHeartbeats 8000000 in
theorem ps_119 {J : xe_J} {ov : List (List Int32)} (hJ : ∀ d mj as h, mj ≠ xe_loff → J d mj as h = none) (hov1 : ov[1]? = some [10, 0, 0, 0, 0, 0]) (hov2 : ov[2]? = some [99, 30, 50, 50, 1, 99999]) {d : Nat} {Q : Option Value → xe_H → Prop} {hb : xe_H} {C : xFn} {s : xSt} {hr : Int} (C0 : xcM hb C) (hC : xcr C) (hT : xct C) (hs : xsr s) (b : 0 ≤ hr ∧ hr ≤ 599) (kk : ∀ h' : xe_H, xk xP_16 hb h' → xfi h' 115 1 (hr + 1) → xra h' 121 6 (xstep C hr s).1 → xr5 h' (xstep C hr s).2.1 → xra h' 148 20 (xstep C hr s).2.2 → Q none h') : ∀ (m : Nat) (x1 : Int32) (h : xe_H), (0 ≤ x1.toInt ∧ x1.toInt ≤ 12) → xk xP_16 hb h → xfi h 115 1 hr → xra h 121 6 s.1 → xr5 h (xtb C hr s.2.1 s.2.2 (C 12 0).toNat).1 → xra h 148 20 (xtb C hr s.2.1 s.2.2 (C 12 0).toNat).2 → xra h 141 6 s.1 → 12 - x1.toInt < (m : Int) → xw J ov (d + 7) 35 (119, [(0, .ref 115), (1, .int x1)], [], h) Q := by
  intro m
  induction m with
  | zero => intro x1 h b1 K Fh FW F5 FS FA hm; have c12 := hC.2.1; exfalso; omega
  | succ m ih =>
    intro x1 h b1 K Fh FW F5 FS FA hm
    have c12 := hC.2.1
    have qx1 := xj_tn b1.1
    have hqB := xtb_r (hr := hr) hC hs.2.1 hs.2.2 (C 12 0).toNat (by omega)
    refine xi_iload_n (pc' := 120) (x := x1) kc_35_119 rfl rfl ?_
    refine xi_bipush (pc' := 122) (v := 12) kc_35_120 rfl rfl ?_
    by_cases c1 : 12 ≤ x1.toInt
    · refine xi_cmt (pc' := 143) kc_35_122 rfl (xc_ge_t (X := x1.toInt) (Y := 12) rfl (by decide) (by omega)) ?_
      refine xi_aload_n (pc' := 144) (x := 115) kc_35_143 rfl rfl ?_
      refine xi_aload_n (pc' := 145) (x := 115) kc_35_144 rfl rfl ?_
      refine xi_aload_n (pc' := 146) (x := 115) kc_35_145 rfl rfl ?_
      obtain ⟨u2, u3, u4, u5, u6, u7, u8, u9, u10, u11, u12, u13, u14, bu2, bu3, bu4, bu5, bu6, bu7, bu8, bu9, bu10, bu11, bu12, bu13, bu14, A15⟩ := xq_115 K.1
      have C16 : xcM h C := xcM_k C0 K (by decide +kernel)
      have hfu6 : u6.toInt = (C 11 0) := xfi_ld C16.1 A15 rfl
      have hfu9 : u9.toInt = (C 12 0) := xfi_ld C16.2.1 A15 rfl
      have hfu3 : u3.toInt = hr := xfi_ld Fh A15 rfl
      have bru3 : 0 ≤ u3.toInt ∧ u3.toInt ≤ 599 := by omega
      refine xi_getfield (pc' := 149) (v := .int u3) kc_35_146 rfl rfl rfl A15 rfl ?_
      refine xi_virtual (mj := 19) (as := [.int u3]) (st1 := [.ref 115]) (lv0 := [(0, .ref 115), (1, .int u3)]) kc_35_149 rfl rfl rfl rfl rfl A15 (Nat.le_of_ble_eq_true rfl) (hJ _ _ _ _ (by decide)) (xm_le ml_19 rfl) rfl ?_
      obtain ⟨y17, A17, hy17, ry17⟩ := xk_arr K.1 xD_123
      have qh := xj_tn (i := u3) (by omega)
      obtain ⟨v18, ev18⟩ : ∃ q : Int32, xlat y17 5 (Int32.toNatClampNeg u3 + 1) = q := ⟨_, rfl⟩
      have hvv18 : v18.toInt = C 10 hr.toNat := by rw [← ev18, xco_ld C16.2.2.2.1 A17 _ (by omega), show Int32.toNatClampNeg u3 = hr.toNat by omega]
      have rv18 := xc_rng v18
      refine xw_cold0 (x1 := u3) (v := v18) A15 rfl A17 hy17 (by omega) (by omega) ev18 ?_
      show xw J ov (d + 7) 35 (152, [(0, .ref 115), (1, .int x1)], [.int v18, .ref 115], h) _
      refine xi_putfield (pc' := 155) (fs' := [.int u2, .int u3, .ref 116, .ref 117, .ref 118, .ref 119, .ref 120, .ref 121, .ref 122, .ref 123, .ref 124, .ref 125, .ref 126, .ref 127, .ref 128, .ref 129, .int u4, .ref 130, .int u5, .ref 131, .ref 132, .ref 133, .ref 134, .int u6, .ref 135, .ref 136, .ref 137, .ref 138, .ref 139, .ref 140, .ref 141, .ref 142, .int v18, .int u8, .int u9, .ref 143, .ref 144, .ref 145, .ref 146, .ref 147, .ref 148, .int u10, .ref 149, .ref 150, .ref 151, .int u11, .ref 152, .ref 153, .ref 154, .ref 155, .ref 156, .ref 157, .ref 158, .ref 159, .int u12, .ref 160, .int u13, .ref 161, .ref 162, .ref 163, .ref 164, .int u14, .ref 165, .ref 166]) kc_35_152 rfl rfl rfl A15 rfl rfl rfl (Nat.le_of_ble_eq_true rfl) rfl (fun hh20 eh19 => ?_)
      have K21 := xk_pf (k := 32) (v := v18) K (xk_wf (by decide +kernel)) xD_115 A15 rfl (by first | omega | decide) (by first | omega | decide) eh19 rfl
      refine xi_aload_n (pc' := 156) (x := 115) kc_35_155 rfl rfl ?_
      refine xi_aload_n (pc' := 157) (x := 115) kc_35_156 rfl rfl ?_
      refine xi_aload_n (pc' := 158) (x := 115) kc_35_157 rfl rfl ?_
      refine xi_getfield (pc' := 161) (v := .int u3) kc_35_158 rfl rfl rfl eh19.1 rfl ?_
      refine xi_virtual (mj := 20) (as := [.int u3]) (st1 := [.ref 115]) (lv0 := [(0, .ref 115), (1, .int u3)]) kc_35_161 rfl rfl rfl rfl rfl eh19.1 (Nat.le_of_ble_eq_true rfl) (hJ _ _ _ _ (by decide)) (xm_le ml_20 rfl) rfl ?_
      have F23 := xra_fr FW (xl_c (eh19.2.1 121 (by decide)))
      have F24 := xr5_c F5 (fun c hc => eh19.2.1 c (Ne.symm (xk_nc hc rfl)))
      have F25 := xra_fr FS (xl_c (eh19.2.1 148 (by decide)))
      have F26 := xra_fr FA (xl_c (eh19.2.1 141 (by decide)))
      have F27 : xfi hh20 115 1 hr := xfi_mk eh19.1 rfl (by omega)
      have F28 : xfi hh20 115 32 (C 10 hr.toNat) := xfi_mk eh19.1 rfl (by omega)
      refine mt_20_0 hJ hov1 hov2 (d := d + 5) (x1 := u3) K21.1 (by first | omega | decide) (fun r29 hh30 K31 => ?_)
      have br29 := xc_rng r29
      have A32 := ((eh19.2.1 123 (by decide)).trans A17)
      have K33 := xk_tr K21 K31 (xsb_ok _ _ (by decide +kernel))
      obtain ⟨u34, u35, u36, u37, u38, u39, u40, u41, u42, u43, u44, u45, u46, bu34, bu35, bu36, bu37, bu38, bu39, bu40, bu41, bu42, bu43, bu44, bu45, bu46, A47⟩ := xq_115 K33.1
      have C48 : xcM hh30 C := xcM_k C0 K33 (by decide +kernel)
      have hfu38 : u38.toInt = (C 11 0) := xfi_ld C48.1 A47 rfl
      have hfu41 : u41.toInt = (C 12 0) := xfi_ld C48.2.1 A47 rfl
      have e49 : u3 = u35 := xk_eqi (q := 1) K31 (by decide +kernel) eh19.1 A47 rfl rfl
      subst e49
      have e50 : u6 = u38 := xk_eqi (q := 23) K31 (by decide +kernel) eh19.1 A47 rfl rfl
      subst e50
      have e51 : u9 = u41 := xk_eqi (q := 34) K31 (by decide +kernel) eh19.1 A47 rfl rfl
      subst e51
      have e52 : v18 = u39 := xk_eqi (q := 32) K31 (by decide +kernel) eh19.1 A47 rfl rfl
      subst e52
      have A53 := xk_eqa (q := 0) K31 (by decide +kernel) A32
      have F54 := xfi_fr F27 (K31.2.1 (115, 1) (by decide +kernel))
      have F55 := xra_fr F23 (K31.2.1 (121, 0) (by decide +kernel))
      have F56 := xr5_k F24 K31 (by decide +kernel)
      have F57 := xra_fr F25 (K31.2.1 (148, 0) (by decide +kernel))
      have F58 := xra_fr F26 (K31.2.1 (141, 0) (by decide +kernel))
      have F59 := xfi_fr F28 (K31.2.1 (115, 32) (by decide +kernel))
      show xw J ov (d + 7) 35 (164, [(0, .ref 115), (1, .int x1)], [.int r29, .ref 115], hh30) _
      refine xi_putfield (pc' := 167) (fs' := [.int u34, .int u3, .ref 116, .ref 117, .ref 118, .ref 119, .ref 120, .ref 121, .ref 122, .ref 123, .ref 124, .ref 125, .ref 126, .ref 127, .ref 128, .ref 129, .int u36, .ref 130, .int u37, .ref 131, .ref 132, .ref 133, .ref 134, .int u6, .ref 135, .ref 136, .ref 137, .ref 138, .ref 139, .ref 140, .ref 141, .ref 142, .int v18, .int r29, .int u9, .ref 143, .ref 144, .ref 145, .ref 146, .ref 147, .ref 148, .int u42, .ref 149, .ref 150, .ref 151, .int u43, .ref 152, .ref 153, .ref 154, .ref 155, .ref 156, .ref 157, .ref 158, .ref 159, .int u44, .ref 160, .int u45, .ref 161, .ref 162, .ref 163, .ref 164, .int u46, .ref 165, .ref 166]) kc_35_164 rfl rfl rfl A47 rfl rfl rfl (Nat.le_of_ble_eq_true rfl) rfl (fun hh61 eh60 => ?_)
      have K62 := xk_pf (k := 33) (v := r29) K33 (xk_wf (by decide +kernel)) xD_115 A47 rfl (by first | omega | decide) (by first | omega | decide) eh60 rfl
      refine xi_aload_n (pc' := 168) (x := 115) kc_35_167 rfl rfl ?_
      refine xi_iconst (pc' := 169) (v := 0) kc_35_168 rfl rfl ?_
      refine xi_iconst (pc' := 170) (v := 1) kc_35_169 rfl rfl ?_
      refine xi_aload_n (pc' := 171) (x := 115) kc_35_170 rfl rfl ?_
      refine xi_getfield (pc' := 174) (v := .int u3) kc_35_171 rfl rfl rfl eh60.1 rfl ?_
      refine xi_virtual (mj := 36) (as := [.int 0, .int 1, .int u3]) (st1 := []) (lv0 := [(0, .ref 115), (1, .int 0), (2, .int 1), (3, .int u3)]) kc_35_174 rfl rfl rfl rfl rfl eh60.1 (Nat.le_of_ble_eq_true rfl) (hJ _ _ _ _ (by decide)) (xm_le ml_36 rfl) rfl ?_
      have F64 := xra_fr F55 (xl_c (eh60.2.1 121 (by decide)))
      have F65 := xr5_c F56 (fun c hc => eh60.2.1 c (Ne.symm (xk_nc hc rfl)))
      have F66 := xra_fr F57 (xl_c (eh60.2.1 148 (by decide)))
      have F67 := xra_fr F58 (xl_c (eh60.2.1 141 (by decide)))
      have F68 : xfi hh61 115 1 hr := xfi_mk eh60.1 rfl (by omega)
      have F69 : xfi hh61 115 32 (C 10 hr.toNat) := xfi_mk eh60.1 rfl (by omega)
      have C73 : xcM hh61 C := xcM_k C0 K62 (by decide +kernel)
      refine xw_phm hJ hov1 hov2 (d := d) (hr := hr) C73 hC F65 hqB.1 hs.1 F69 (by omega) (by omega) (fun hh70 K71 F72 => ?_) K62.1 F67
      have F74 := xfi_fr F68 (K71.2.1 (115, 1) (by decide +kernel))
      have F75 := xra_fr F64 (K71.2.1 (121, 0) (by decide +kernel))
      have F76 := xr5_k F65 K71 (by decide +kernel)
      have F77 := xra_fr F66 (K71.2.1 (148, 0) (by decide +kernel))
      have A78 := ((eh60.2.1 123 (by decide)).trans A53)
      have K79 := xk_tr K62 K71 (xsb_ok _ _ (by decide +kernel))
      obtain ⟨u80, u81, u82, u83, u84, u85, u86, u87, u88, u89, u90, u91, u92, bu80, bu81, bu82, bu83, bu84, bu85, bu86, bu87, bu88, bu89, bu90, bu91, bu92, A93⟩ := xq_115 K79.1
      have C94 : xcM hh70 C := xcM_k C0 K79 (by decide +kernel)
      have hfu84 : u84.toInt = (C 11 0) := xfi_ld C94.1 A93 rfl
      have hfu87 : u87.toInt = (C 12 0) := xfi_ld C94.2.1 A93 rfl
      have hfu81 : u81.toInt = hr := xfi_ld F74 A93 rfl
      have bru81 : 0 ≤ u81.toInt ∧ u81.toInt ≤ 599 := by omega
      have e95 : u3 = u81 := xk_eqi (q := 1) K71 (by decide +kernel) eh60.1 A93 rfl rfl
      subst e95
      have e96 : u6 = u84 := xk_eqi (q := 23) K71 (by decide +kernel) eh60.1 A93 rfl rfl
      subst e96
      have e97 : u9 = u87 := xk_eqi (q := 34) K71 (by decide +kernel) eh60.1 A93 rfl rfl
      subst e97
      have e98 : v18 = u85 := xk_eqi (q := 32) K71 (by decide +kernel) eh60.1 A93 rfl rfl
      subst e98
      have A99 := xk_eqa (q := 0) K71 (by decide +kernel) A78
      show xw J ov (d + 7) 35 (177, [(0, .ref 115), (1, .int x1)], [], hh70) _
      refine xi_iconst (pc' := 178) (v := 0) kc_35_177 rfl rfl ?_
      refine xi_istore_n (pc' := 179) (lv' := [(1, .int 0), (0, .ref 115)]) kc_35_178 rfl rfl (xm_lt ml_35 rfl) ?_
      refine xw_lv (b := [(0, .ref 115), (1, .int 0)]) (lvS_cons (lvS_cons (lvS_nil (show ([1, 0] : List Nat).Nodup by decide)) rfl) rfl) ?_
      have zc0 : (0 : Int32).toInt = 0 := by decide
      exact ps_179 hJ hov1 hov2 C0 hC hT hs b kk 7 0 hh70 (by omega) K79 F74 (xra_cg F75 xwm_0) F76 F77 F72 (by omega)
    · refine xi_cmf (pc' := 125) kc_35_122 rfl (xc_ge_f (X := x1.toInt) (Y := 12) rfl (by decide) (by omega)) ?_
      refine xi_aload_n (pc' := 126) (x := 115) kc_35_125 rfl rfl ?_
      obtain ⟨u100, u101, u102, u103, u104, u105, u106, u107, u108, u109, u110, u111, u112, bu100, bu101, bu102, bu103, bu104, bu105, bu106, bu107, bu108, bu109, bu110, bu111, bu112, A113⟩ := xq_115 K.1
      have C114 : xcM h C := xcM_k C0 K (by decide +kernel)
      have hfu104 : u104.toInt = (C 11 0) := xfi_ld C114.1 A113 rfl
      have hfu107 : u107.toInt = (C 12 0) := xfi_ld C114.2.1 A113 rfl
      have hfu101 : u101.toInt = hr := xfi_ld Fh A113 rfl
      have bru101 : 0 ≤ u101.toInt ∧ u101.toInt ≤ 599 := by omega
      refine xi_getfield (pc' := 129) (v := .ref 142) kc_35_126 rfl rfl rfl A113 rfl ?_
      refine xi_iload_n (pc' := 130) (x := x1) kc_35_129 rfl rfl ?_
      refine xi_aload_n (pc' := 131) (x := 115) kc_35_130 rfl rfl ?_
      refine xi_getfield (pc' := 134) (v := .ref 128) kc_35_131 rfl rfl rfl A113 rfl ?_
      refine xi_iload_n (pc' := 135) (x := x1) kc_35_134 rfl rfl ?_
      obtain ⟨y115, A115, hy115, ry115⟩ := xk_arr K.1 xD_128
      obtain ⟨v116, ev116, bv116, dv116⟩ := xj_get hy115 ry115 (i := x1) (by omega) (by omega)
      refine xi_iaload (pc' := 136) (v := v116) kc_35_135 rfl A115 (by decide) rfl (xi_in (by omega) (by rw [hy115]; omega)) ev116 ?_
      obtain ⟨y117, A117, hy117, ry117⟩ := xk_arr K.1 xD_142
      obtain ⟨y118, s118, hy118, ry118⟩ := xj_set (v := v116) hy117 ry117 x1 (by first | omega | decide) (by first | omega | decide)
      refine xi_iastore (pc' := 137) (x' := y118) kc_35_136 rfl A117 rfl (xi_in (by omega) (by rw [hy117]; omega)) s118 (fun hh118 eh118 => ?_)
      have K119 := xk_pa K (xk_wa (by decide +kernel)) xD_142 hy118 ry118 eh118
      obtain ⟨v120, ev120⟩ : ∃ q : Int32, x1 + 1 = q := ⟨_, rfl⟩
      have zv120 : v120.toInt = (x1.toInt + 1) := by rw [← ev120]; exact (xz_add (X := x1.toInt) (Y := 1) rfl (by decide) (by omega) (by omega)).trans (by omega)
      refine xi_iinc (pc' := 140) (x := x1) (v := v120) (lv' := [(1, .int v120), (0, .ref 115)]) kc_35_137 rfl rfl ev120 rfl (xm_lt ml_35 rfl) ?_
      refine xi_goto (pc' := 119) kc_35_140 rfl ?_
      refine xw_lv (b := [(0, .ref 115), (1, .int v120)]) (lvS_cons (lvS_cons (lvS_nil (show ([1, 0] : List Nat).Nodup by decide)) rfl) rfl) ?_
      have en : v120.toNatClampNeg = x1.toNatClampNeg + 1 := xcl2 b1.1 (by omega)
      have F121 := xfi_fr Fh (xl_c (eh118.2.1 115 (by decide)))
      have F122 := xra_fr FW (xl_c (eh118.2.1 121 (by decide)))
      have F123 := xr5_c F5 (fun c hc => eh118.2.1 c (Ne.symm (xk_nc hc rfl)))
      have F124 := xra_fr FS (xl_c (eh118.2.1 148 (by decide)))
      have F125 := xra_fr FA (xl_c (eh118.2.1 141 (by decide)))
      exact ih v120 hh118 (by omega) K119 F121 F122 F123 F124 F125 (by omega)
set_option maxHeartbeats 8000000 in
theorem ps_93 {J : xe_J} {ov : List (List Int32)} (hJ : ∀ d mj as h, mj ≠ xe_loff → J d mj as h = none) (hov1 : ov[1]? = some [10, 0, 0, 0, 0, 0]) (hov2 : ov[2]? = some [99, 30, 50, 50, 1, 99999]) {d : Nat} {Q : Option Value → xe_H → Prop} {hb : xe_H} {C : xFn} {s : xSt} {hr : Int} (C0 : xcM hb C) (hC : xcr C) (hT : xct C) (hs : xsr s) (b : 0 ≤ hr ∧ hr ≤ 599) (kk : ∀ h' : xe_H, xk xP_16 hb h' → xfi h' 115 1 (hr + 1) → xra h' 121 6 (xstep C hr s).1 → xr5 h' (xstep C hr s).2.1 → xra h' 148 20 (xstep C hr s).2.2 → Q none h') {f0 : Nat → Int} : ∀ (m : Nat) (x1 : Int32) (h : xe_H), (0 ≤ x1.toInt ∧ x1.toInt ≤ 6) → xk xP_16 hb h → xfi h 115 1 hr → xra h 121 6 s.1 → xr5 h (xtb C hr s.2.1 s.2.2 (C 12 0).toNat).1 → xra h 148 20 (xtb C hr s.2.1 s.2.2 (C 12 0).toNat).2 → xra h 141 6 (xwm x1.toNatClampNeg s.1 f0) → 6 - x1.toInt < (m : Int) → xw J ov (d + 7) 35 (93, [(0, .ref 115), (1, .int x1)], [], h) Q := by
  intro m
  induction m with
  | zero => intro x1 h b1 K Fh FW F5 FS FA hm; have c12 := hC.2.1; exfalso; omega
  | succ m ih =>
    intro x1 h b1 K Fh FW F5 FS FA hm
    have c12 := hC.2.1
    have qx1 := xj_tn b1.1
    have hqB := xtb_r (hr := hr) hC hs.2.1 hs.2.2 (C 12 0).toNat (by omega)
    obtain ⟨y1, A1, hy1, ry1⟩ := xk_arr K.1 xD_121
    have R2 : xrp y1 6 s.1 := xra_ld FW A1
    obtain ⟨y3, A3, hy3, ry3⟩ := xk_arr K.1 xD_141
    have R4 : xrp y3 6 (xwm x1.toNatClampNeg s.1 f0) := xra_ld FA A3
    refine xi_iload_n (pc' := 94) (x := x1) kc_35_93 rfl rfl ?_
    refine xi_bipush (pc' := 96) (v := 6) kc_35_94 rfl rfl ?_
    by_cases c5 : 6 ≤ x1.toInt
    · refine xi_cmt (pc' := 117) kc_35_96 rfl (xc_ge_t (X := x1.toInt) (Y := 6) rfl (by decide) (by omega)) ?_
      refine xi_iconst (pc' := 118) (v := 0) kc_35_117 rfl rfl ?_
      refine xi_istore_n (pc' := 119) (lv' := [(1, .int 0), (0, .ref 115)]) kc_35_118 rfl rfl (xm_lt ml_35 rfl) ?_
      refine xw_lv (b := [(0, .ref 115), (1, .int 0)]) (lvS_cons (lvS_cons (lvS_nil (show ([1, 0] : List Nat).Nodup by decide)) rfl) rfl) ?_
      have zc0 : (0 : Int32).toInt = 0 := by decide
      have e1 : x1.toNatClampNeg = 6 := by omega
      rw [e1] at FA
      exact ps_119 hJ hov1 hov2 C0 hC hT hs b kk 13 0 h (by omega) K Fh FW F5 FS (xra_cg FA xwm_e) (by omega)
    · refine xi_cmf (pc' := 99) kc_35_96 rfl (xc_ge_f (X := x1.toInt) (Y := 6) rfl (by decide) (by omega)) ?_
      refine xi_aload_n (pc' := 100) (x := 115) kc_35_99 rfl rfl ?_
      obtain ⟨u6, u7, u8, u9, u10, u11, u12, u13, u14, u15, u16, u17, u18, bu6, bu7, bu8, bu9, bu10, bu11, bu12, bu13, bu14, bu15, bu16, bu17, bu18, A19⟩ := xq_115 K.1
      have C20 : xcM h C := xcM_k C0 K (by decide +kernel)
      have hfu10 : u10.toInt = (C 11 0) := xfi_ld C20.1 A19 rfl
      have hfu13 : u13.toInt = (C 12 0) := xfi_ld C20.2.1 A19 rfl
      have hfu7 : u7.toInt = hr := xfi_ld Fh A19 rfl
      have bru7 : 0 ≤ u7.toInt ∧ u7.toInt ≤ 599 := by omega
      refine xi_getfield (pc' := 103) (v := .ref 141) kc_35_100 rfl rfl rfl A19 rfl ?_
      refine xi_iload_n (pc' := 104) (x := x1) kc_35_103 rfl rfl ?_
      refine xi_aload_n (pc' := 105) (x := 115) kc_35_104 rfl rfl ?_
      refine xi_getfield (pc' := 108) (v := .ref 121) kc_35_105 rfl rfl rfl A19 rfl ?_
      refine xi_iload_n (pc' := 109) (x := x1) kc_35_108 rfl rfl ?_
      obtain ⟨v21, ev21, bv21, dv21⟩ := xj_get hy1 ry1 (i := x1) (by omega) (by omega)
      refine xi_iaload (pc' := 110) (v := v21) kc_35_109 rfl A1 (by decide) rfl (xi_in (by omega) (by rw [hy1]; omega)) ev21 ?_
      have hlv21 : v21.toInt = s.1 (Int32.toNatClampNeg x1) := xrp_ld R2 (by omega) (by omega) ev21
      have brv21 : 0 ≤ v21.toInt ∧ v21.toInt ≤ 99999 := by have := hs.1 x1.toNatClampNeg (by omega); omega
      obtain ⟨y22, s22, hy22, ry22⟩ := xj_set (v := v21) hy3 ry3 x1 (by first | omega | decide) (by first | omega | decide)
      refine xi_iastore (pc' := 111) (x' := y22) kc_35_110 rfl A3 rfl (xi_in (by omega) (by rw [hy3]; omega)) s22 (fun hh22 eh22 => ?_)
      have K23 := xk_pa K (xk_wa (by decide +kernel)) xD_141 hy22 ry22 eh22
      have R24 : xrp y22 6 (xup (xwm x1.toNatClampNeg s.1 f0) (Int32.toNatClampNeg x1) (v21 : Int32).toInt) := xrp_set R4 s22
      obtain ⟨v25, ev25⟩ : ∃ q : Int32, x1 + 1 = q := ⟨_, rfl⟩
      have zv25 : v25.toInt = (x1.toInt + 1) := by rw [← ev25]; exact (xz_add (X := x1.toInt) (Y := 1) rfl (by decide) (by omega) (by omega)).trans (by omega)
      refine xi_iinc (pc' := 114) (x := x1) (v := v25) (lv' := [(1, .int v25), (0, .ref 115)]) kc_35_111 rfl rfl ev25 rfl (xm_lt ml_35 rfl) ?_
      refine xi_goto (pc' := 93) kc_35_114 rfl ?_
      refine xw_lv (b := [(0, .ref 115), (1, .int v25)]) (lvS_cons (lvS_cons (lvS_nil (show ([1, 0] : List Nat).Nodup by decide)) rfl) rfl) ?_
      have en : v25.toNatClampNeg = x1.toNatClampNeg + 1 := xcl2 b1.1 (by omega)
      have F26 := xfi_fr Fh (xl_c (eh22.2.1 115 (by decide)))
      have F27 := xra_fr FW (xl_c (eh22.2.1 121 (by decide)))
      have F28 := xr5_c F5 (fun c hc => eh22.2.1 c (Ne.symm (xk_nc hc rfl)))
      have F29 := xra_fr FS (xl_c (eh22.2.1 148 (by decide)))
      have F31 := xra_mk eh22.1 (xrp_cg R24 (xwm_s (by omega)))
      exact ih v25 hh22 (by omega) K23 F26 F27 F28 F29 (by rw [en]; exact F31) (by omega)
set_option maxHeartbeats 8000000 in
theorem ps_2 {J : xe_J} {ov : List (List Int32)} (hJ : ∀ d mj as h, mj ≠ xe_loff → J d mj as h = none) (hov1 : ov[1]? = some [10, 0, 0, 0, 0, 0]) (hov2 : ov[2]? = some [99, 30, 50, 50, 1, 99999]) {d : Nat} {Q : Option Value → xe_H → Prop} {hb : xe_H} {C : xFn} {s : xSt} {hr : Int} (C0 : xcM hb C) (hC : xcr C) (hT : xct C) (hs : xsr s) (b : 0 ≤ hr ∧ hr ≤ 599) (kk : ∀ h' : xe_H, xk xP_16 hb h' → xfi h' 115 1 (hr + 1) → xra h' 121 6 (xstep C hr s).1 → xr5 h' (xstep C hr s).2.1 → xra h' 148 20 (xstep C hr s).2.2 → Q none h') : ∀ (m : Nat) (x1 : Int32) (h : xe_H), (0 ≤ x1.toInt ∧ x1.toInt ≤ C 12 0) → xk xP_16 hb h → xfi h 115 1 hr → xra h 121 6 s.1 → xr5 h (xtb C hr s.2.1 s.2.2 x1.toNatClampNeg).1 → xra h 148 20 (xtb C hr s.2.1 s.2.2 x1.toNatClampNeg).2 → 20 - x1.toInt < (m : Int) → xw J ov (d + 7) 35 (2, [(0, .ref 115), (1, .int x1)], [], h) Q := by
  intro m
  induction m with
  | zero => intro x1 h b1 K Fh FW F5 FS hm; have c12 := hC.2.1; exfalso; omega
  | succ m ih =>
    intro x1 h b1 K Fh FW F5 FS hm
    have c12 := hC.2.1
    have qx1 := xj_tn b1.1
    have hqB := xtb_r (hr := hr) hC hs.2.1 hs.2.2 (C 12 0).toNat (by omega)
    obtain ⟨y1, A1, hy1, ry1⟩ := xk_arr K.1 xD_148
    have R2 : xrp y1 20 (xtb C hr s.2.1 s.2.2 x1.toNatClampNeg).2 := xra_ld FS A1
    refine xi_iload_n (pc' := 3) (x := x1) kc_35_2 rfl rfl ?_
    refine xi_aload_n (pc' := 4) (x := 115) kc_35_3 rfl rfl ?_
    obtain ⟨u3, u4, u5, u6, u7, u8, u9, u10, u11, u12, u13, u14, u15, bu3, bu4, bu5, bu6, bu7, bu8, bu9, bu10, bu11, bu12, bu13, bu14, bu15, A16⟩ := xq_115 K.1
    have C17 : xcM h C := xcM_k C0 K (by decide +kernel)
    have hfu7 : u7.toInt = (C 11 0) := xfi_ld C17.1 A16 rfl
    have hfu10 : u10.toInt = (C 12 0) := xfi_ld C17.2.1 A16 rfl
    have hfu4 : u4.toInt = hr := xfi_ld Fh A16 rfl
    have bru4 : 0 ≤ u4.toInt ∧ u4.toInt ≤ 599 := by omega
    refine xi_getfield (pc' := 7) (v := .int u10) kc_35_4 rfl rfl rfl A16 rfl ?_
    by_cases c18 : u10.toInt ≤ x1.toInt
    · refine xi_cmt (pc' := 91) kc_35_7 rfl (xc_ge_t (X := x1.toInt) (Y := u10.toInt) rfl rfl (by omega)) ?_
      refine xi_iconst (pc' := 92) (v := 0) kc_35_91 rfl rfl ?_
      refine xi_istore_n (pc' := 93) (lv' := [(1, .int 0), (0, .ref 115)]) kc_35_92 rfl rfl (xm_lt ml_35 rfl) ?_
      refine xw_lv (b := [(0, .ref 115), (1, .int 0)]) (lvS_cons (lvS_cons (lvS_nil (show ([1, 0] : List Nat).Nodup by decide)) rfl) rfl) ?_
      have zc0 : (0 : Int32).toInt = 0 := by decide
      have e1 : x1.toNatClampNeg = (C 12 0).toNat := by omega
      rw [e1] at F5 FS
      obtain ⟨ya, Aa, hya, rya⟩ := xk_arr K.1 xD_141
      exact ps_93 hJ hov1 hov2 C0 hC hT hs b kk 7 0 h (by omega) K Fh FW F5 FS (xra_cg (xra_mk Aa (xrp_of hya)) xwm_0) (by omega)
    · refine xi_cmf (pc' := 10) kc_35_7 rfl (xc_ge_f (X := x1.toInt) (Y := u10.toInt) rfl rfl (by omega)) ?_
      refine xi_aload_n (pc' := 11) (x := 115) kc_35_10 rfl rfl ?_
      refine xi_getfield (pc' := 14) (v := .ref 146) kc_35_11 rfl rfl rfl A16 rfl ?_
      refine xi_iload_n (pc' := 15) (x := x1) kc_35_14 rfl rfl ?_
      obtain ⟨y19, A19, hy19, ry19⟩ := xk_arr K.1 xD_146
      have R20 : xrp y19 20 (C 6) := xra_ld C17.2.2.2.2.2.2.2.2.2.2.1 A19
      obtain ⟨v21, ev21, bv21, dv21⟩ := xj_get hy19 ry19 (i := x1) (by omega) (by omega)
      refine xi_iaload (pc' := 16) (v := v21) kc_35_15 rfl A19 (by decide) rfl (xi_in (by omega) (by rw [hy19]; omega)) ev21 ?_
      have hlv21 : v21.toInt = (C 6) (Int32.toNatClampNeg x1) := xrp_ld R20 (by omega) (by omega) ev21
      refine xi_aload_n (pc' := 17) (x := 115) kc_35_16 rfl rfl ?_
      refine xi_getfield (pc' := 20) (v := .int u4) kc_35_17 rfl rfl rfl A16 rfl ?_
      by_cases c22 : v21.toInt = u4.toInt
      · refine xi_cmf (pc' := 23) kc_35_20 rfl (xc_ne_f (X := v21.toInt) (Y := u4.toInt) rfl rfl (by omega)) ?_
        refine xi_aload_n (pc' := 24) (x := 115) kc_35_23 rfl rfl ?_
        refine xi_getfield (pc' := 27) (v := .ref 144) kc_35_24 rfl rfl rfl A16 rfl ?_
        refine xi_iload_n (pc' := 28) (x := x1) kc_35_27 rfl rfl ?_
        obtain ⟨y23, A23, hy23, ry23⟩ := xk_arr K.1 xD_144
        have R24 : xrp y23 20 (C 13) := xra_ld C17.2.2.2.2.2.2.2.2.2.2.2.2.1 A23
        obtain ⟨v25, ev25, bv25, dv25⟩ := xj_get hy23 ry23 (i := x1) (by omega) (by omega)
        refine xi_iaload (pc' := 29) (v := v25) kc_35_28 rfl A23 (by decide) rfl (xi_in (by omega) (by rw [hy23]; omega)) ev25 ?_
        have hlv25 : v25.toInt = (C 13) (Int32.toNatClampNeg x1) := xrp_ld R24 (by omega) (by omega) ev25
        have hct := hT x1.toNatClampNeg (by omega)
        have hci := hC.2.2.2.1 x1.toNatClampNeg (by omega)
        by_cases c26 : v25.toInt = 0
        · refine xi_iff (pc' := 32) kc_35_29 rfl (xc_ne_f (X := v25.toInt) (Y := 0) rfl (by decide) (by omega)) ?_
          refine xi_iconst (pc' := 33) (v := 4) kc_35_32 rfl rfl ?_
          refine xi_goto (pc' := 37) kc_35_33 rfl ?_
          refine xi_istore_n (pc' := 38) (lv' := [(2, .int 4), (0, .ref 115), (1, .int x1)]) kc_35_37 rfl rfl (xm_lt ml_35 rfl) ?_
          refine xi_aload_n (pc' := 39) (x := 115) kc_35_38 rfl rfl ?_
          refine xi_getfield (pc' := 42) (v := .ref 148) kc_35_39 rfl rfl rfl A16 rfl ?_
          refine xi_iload_n (pc' := 43) (x := x1) kc_35_42 rfl rfl ?_
          refine xi_aload_n (pc' := 44) (x := 115) kc_35_43 rfl rfl ?_
          refine xi_aload_n (pc' := 45) (x := 115) kc_35_44 rfl rfl ?_
          refine xi_getfield (pc' := 48) (v := .ref 143) kc_35_45 rfl rfl rfl A16 rfl ?_
          refine xi_iload_n (pc' := 49) (x := x1) kc_35_48 rfl rfl ?_
          obtain ⟨y27, A27, hy27, ry27⟩ := xk_arr K.1 xD_143
          have R28 : xrp y27 20 (C 5) := xra_ld C17.2.2.2.2.2.2.2.2.2.1 A27
          obtain ⟨v29, ev29, bv29, dv29⟩ := xj_get hy27 ry27 (i := x1) (by omega) (by omega)
          refine xi_iaload (pc' := 50) (v := v29) kc_35_49 rfl A27 (by decide) rfl (xi_in (by omega) (by rw [hy27]; omega)) ev29 ?_
          have hlv29 : v29.toInt = (C 5) (Int32.toNatClampNeg x1) := xrp_ld R28 (by omega) (by omega) ev29
          refine xi_iload_n (pc' := 51) (x := 4) kc_35_50 rfl rfl ?_
          refine xi_virtual (mj := 13) (as := [.int v29, .int 4]) (st1 := [.int x1, .ref 148]) (lv0 := [(0, .ref 115), (1, .int v29), (2, .int 4)]) kc_35_51 rfl rfl rfl rfl rfl A16 (Nat.le_of_ble_eq_true rfl) (hJ _ _ _ _ (by decide)) (xm_le ml_13 rfl) rfl ?_
          have zc4 : (4 : Int32).toInt = 4 := by decide
          refine xw_rn hJ hov1 hov2 (d := d + 5) (x1 := v29) (x2 := 4) K.1 F5 (by omega) (by omega) (fun r30 hr30 => ?_)
          have nqr30 : Int32.toNatClampNeg 4 = 4 := by decide
          rw [nqr30] at hr30
          have ear30 : Int32.toNatClampNeg v29 = (C 5 x1.toNatClampNeg).toNat := xcl3 (by omega) (by omega)
          rw [ear30] at hr30
          have hxi := xtb_r (hr := hr) hC hs.2.1 hs.2.2 x1.toNatClampNeg (by omega)
          have brr30 : 0 ≤ r30.toInt ∧ r30.toInt ≤ 50 := by have := xsq_at (q := 4) hxi.1 (show (C 5 x1.toNatClampNeg).toNat < 6 by omega) (by omega); omega
          show xw J ov (d + 7) 35 (54, [(2, .int 4), (0, .ref 115), (1, .int x1)], [.int r30, .int x1, .ref 148], h) _
          obtain ⟨y31, s31, hy31, ry31⟩ := xj_set (v := r30) hy1 ry1 x1 (by first | omega | decide) (by first | omega | decide)
          refine xi_iastore (pc' := 55) (x' := y31) kc_35_54 rfl A1 rfl (xi_in (by omega) (by rw [hy1]; omega)) s31 (fun hh31 eh31 => ?_)
          have K32 := xk_pa K (xk_wa (by decide +kernel)) xD_148 hy31 ry31 eh31
          have R33 : xrp y31 20 (xup (xtb C hr s.2.1 s.2.2 x1.toNatClampNeg).2 (Int32.toNatClampNeg x1) (r30 : Int32).toInt) := xrp_set R2 s31
          refine xi_aload_n (pc' := 56) (x := 115) kc_35_55 rfl rfl ?_
          refine xi_aload_n (pc' := 57) (x := 115) kc_35_56 rfl rfl ?_
          have A34 := ((eh31.2.1 115 (by decide)).trans A16)
          refine xi_getfield (pc' := 60) (v := .ref 143) kc_35_57 rfl rfl rfl A34 rfl ?_
          refine xi_iload_n (pc' := 61) (x := x1) kc_35_60 rfl rfl ?_
          have A35 := ((eh31.2.1 143 (by decide)).trans A27)
          refine xi_iaload (pc' := 62) (v := v29) kc_35_61 rfl A35 (by decide) rfl (xi_in (by omega) (by rw [hy27]; omega)) ev29 ?_
          refine xi_iload_n (pc' := 63) (x := 4) kc_35_62 rfl rfl ?_
          refine xi_aload_n (pc' := 64) (x := 115) kc_35_63 rfl rfl ?_
          refine xi_getfield (pc' := 67) (v := .ref 144) kc_35_64 rfl rfl rfl A34 rfl ?_
          refine xi_iload_n (pc' := 68) (x := x1) kc_35_67 rfl rfl ?_
          have A36 := ((eh31.2.1 144 (by decide)).trans A23)
          refine xi_iaload (pc' := 69) (v := v25) kc_35_68 rfl A36 (by decide) rfl (xi_in (by omega) (by rw [hy23]; omega)) ev25 ?_
          refine xi_iff (pc' := 72) kc_35_69 rfl (xc_ne_f (X := v25.toInt) (Y := 0) rfl (by decide) (by omega)) ?_
          refine xi_iconst (pc' := 73) (v := 1) kc_35_72 rfl rfl ?_
          refine xi_goto (pc' := 82) kc_35_73 rfl ?_
          refine xi_virtual (mj := 14) (as := [.int v29, .int 4, .int 1]) (st1 := []) (lv0 := [(0, .ref 115), (1, .int v29), (2, .int 4), (3, .int 1)]) kc_35_82 rfl rfl rfl rfl rfl A34 (Nat.le_of_ble_eq_true rfl) (hJ _ _ _ _ (by decide)) (xm_le ml_14 rfl) rfl ?_
          have F41 := xr5_c F5 (fun c hc => eh31.2.1 c (Ne.symm (xk_nc hc rfl)))
          have F42 := xra_fr FW (xl_c (eh31.2.1 121 (by decide)))
          have F43 := xfi_fr Fh (xl_c (eh31.2.1 115 (by decide)))
          have zc1 : (1 : Int32).toInt = 1 := by decide
          have F44 := xra_mk eh31.1 R33
          refine xw_te4 hJ hov1 hov2 (d := d + 5) (x1 := v29) (x3 := 1) K32.1 F41 F42 (by omega) (by omega) (fun hh37 K38 F39 F40 => ?_)
          have F45 := xfi_fr F43 (K38.2.1 (115, 1) (by decide +kernel))
          have F46 := xra_fr F44 (K38.2.1 (148, 0) (by decide +kernel))
          have A47 := ((eh31.2.1 146 (by decide)).trans A19)
          have K48 := xk_tr K32 K38 (xsb_ok _ _ (by decide +kernel))
          have A49 := xk_eqa (q := 0) K38 (by decide +kernel) eh31.1
          obtain ⟨u50, u51, u52, u53, u54, u55, u56, u57, u58, u59, u60, u61, u62, bu50, bu51, bu52, bu53, bu54, bu55, bu56, bu57, bu58, bu59, bu60, bu61, bu62, A63⟩ := xq_115 K48.1
          have C64 : xcM hh37 C := xcM_k C0 K48 (by decide +kernel)
          have hfu54 : u54.toInt = (C 11 0) := xfi_ld C64.1 A63 rfl
          have hfu57 : u57.toInt = (C 12 0) := xfi_ld C64.2.1 A63 rfl
          have hfu51 : u51.toInt = hr := xfi_ld F45 A63 rfl
          have bru51 : 0 ≤ u51.toInt ∧ u51.toInt ≤ 599 := by omega
          have e65 : u4 = u51 := xk_eqi (q := 1) K38 (by decide +kernel) A34 A63 rfl rfl
          subst e65
          have e66 : u7 = u54 := xk_eqi (q := 23) K38 (by decide +kernel) A34 A63 rfl rfl
          subst e66
          have e67 : u10 = u57 := xk_eqi (q := 34) K38 (by decide +kernel) A34 A63 rfl rfl
          subst e67
          have e68 : u8 = u55 := xk_eqi (q := 32) K38 (by decide +kernel) A34 A63 rfl rfl
          subst e68
          have A69 := xk_eqa (q := 0) K38 (by decide +kernel) A47
          have A70 := xk_eqa (q := 0) K38 (by decide +kernel) A36
          have A71 := xk_eqa (q := 0) K38 (by decide +kernel) A35
          show xw J ov (d + 7) 35 (85, [(2, .int 4), (0, .ref 115), (1, .int x1)], [], hh37) _
          obtain ⟨v72, ev72⟩ : ∃ q : Int32, x1 + 1 = q := ⟨_, rfl⟩
          have zv72 : v72.toInt = (x1.toInt + 1) := by rw [← ev72]; exact (xz_add (X := x1.toInt) (Y := 1) rfl (by decide) (by omega) (by omega)).trans (by omega)
          refine xi_iinc (pc' := 88) (x := x1) (v := v72) (lv' := [(1, .int v72), (2, .int 4), (0, .ref 115)]) kc_35_85 rfl rfl ev72 rfl (xm_lt ml_35 rfl) ?_
          refine xi_goto (pc' := 2) kc_35_88 rfl ?_
          refine xw_lv (b := [(0, .ref 115), (1, .int v72)]) (lvS_cons (lvS_cons (lvS_nil (show ([1, 2, 0] : List Nat).Nodup by decide)) rfl) rfl) ?_
          have en : v72.toNatClampNeg = x1.toNatClampNeg + 1 := xcl2 b1.1 (by omega)
          have ea : Int32.toNatClampNeg v29 = (C 5 x1.toNatClampNeg).toNat := xcl3 (by omega) (by omega)
          have e8 : 4 = (C 8 x1.toNatClampNeg).toNat := by omega
          have ev : (1 : Int32).toInt = C 9 x1.toNatClampNeg := by omega
          have ey := xtb_y (C := C) (hr := hr) (st := s.2.1) (wz := s.2.2) (i := x1.toNatClampNeg) (by omega)
          have G5 := F39
          rw [ea, ev, e8] at G5
          have GS := F46
          rw [e8] at hr30
          rw [hr30] at GS
          exact ih v72 hh37 (by omega) K48 F45 F40 (by rw [en, ey]; exact G5) (by rw [en, ey]; exact GS) (by omega)
        · refine xi_ift (pc' := 36) kc_35_29 rfl (xc_ne_t (X := v25.toInt) (Y := 0) rfl (by decide) (by omega)) ?_
          refine xi_iconst (pc' := 37) (v := 2) kc_35_36 rfl rfl ?_
          refine xi_istore_n (pc' := 38) (lv' := [(2, .int 2), (0, .ref 115), (1, .int x1)]) kc_35_37 rfl rfl (xm_lt ml_35 rfl) ?_
          refine xi_aload_n (pc' := 39) (x := 115) kc_35_38 rfl rfl ?_
          refine xi_getfield (pc' := 42) (v := .ref 148) kc_35_39 rfl rfl rfl A16 rfl ?_
          refine xi_iload_n (pc' := 43) (x := x1) kc_35_42 rfl rfl ?_
          refine xi_aload_n (pc' := 44) (x := 115) kc_35_43 rfl rfl ?_
          refine xi_aload_n (pc' := 45) (x := 115) kc_35_44 rfl rfl ?_
          refine xi_getfield (pc' := 48) (v := .ref 143) kc_35_45 rfl rfl rfl A16 rfl ?_
          refine xi_iload_n (pc' := 49) (x := x1) kc_35_48 rfl rfl ?_
          obtain ⟨y73, A73, hy73, ry73⟩ := xk_arr K.1 xD_143
          have R74 : xrp y73 20 (C 5) := xra_ld C17.2.2.2.2.2.2.2.2.2.1 A73
          obtain ⟨v75, ev75, bv75, dv75⟩ := xj_get hy73 ry73 (i := x1) (by omega) (by omega)
          refine xi_iaload (pc' := 50) (v := v75) kc_35_49 rfl A73 (by decide) rfl (xi_in (by omega) (by rw [hy73]; omega)) ev75 ?_
          have hlv75 : v75.toInt = (C 5) (Int32.toNatClampNeg x1) := xrp_ld R74 (by omega) (by omega) ev75
          refine xi_iload_n (pc' := 51) (x := 2) kc_35_50 rfl rfl ?_
          refine xi_virtual (mj := 13) (as := [.int v75, .int 2]) (st1 := [.int x1, .ref 148]) (lv0 := [(0, .ref 115), (1, .int v75), (2, .int 2)]) kc_35_51 rfl rfl rfl rfl rfl A16 (Nat.le_of_ble_eq_true rfl) (hJ _ _ _ _ (by decide)) (xm_le ml_13 rfl) rfl ?_
          have zc2 : (2 : Int32).toInt = 2 := by decide
          refine xw_rn hJ hov1 hov2 (d := d + 5) (x1 := v75) (x2 := 2) K.1 F5 (by omega) (by omega) (fun r76 hr76 => ?_)
          have nqr76 : Int32.toNatClampNeg 2 = 2 := by decide
          rw [nqr76] at hr76
          have ear76 : Int32.toNatClampNeg v75 = (C 5 x1.toNatClampNeg).toNat := xcl3 (by omega) (by omega)
          rw [ear76] at hr76
          have hxi := xtb_r (hr := hr) hC hs.2.1 hs.2.2 x1.toNatClampNeg (by omega)
          have brr76 : 0 ≤ r76.toInt ∧ r76.toInt ≤ 50 := by have := xsq_at (q := 2) hxi.1 (show (C 5 x1.toNatClampNeg).toNat < 6 by omega) (by omega); omega
          show xw J ov (d + 7) 35 (54, [(2, .int 2), (0, .ref 115), (1, .int x1)], [.int r76, .int x1, .ref 148], h) _
          obtain ⟨y77, s77, hy77, ry77⟩ := xj_set (v := r76) hy1 ry1 x1 (by first | omega | decide) (by first | omega | decide)
          refine xi_iastore (pc' := 55) (x' := y77) kc_35_54 rfl A1 rfl (xi_in (by omega) (by rw [hy1]; omega)) s77 (fun hh77 eh77 => ?_)
          have K78 := xk_pa K (xk_wa (by decide +kernel)) xD_148 hy77 ry77 eh77
          have R79 : xrp y77 20 (xup (xtb C hr s.2.1 s.2.2 x1.toNatClampNeg).2 (Int32.toNatClampNeg x1) (r76 : Int32).toInt) := xrp_set R2 s77
          refine xi_aload_n (pc' := 56) (x := 115) kc_35_55 rfl rfl ?_
          refine xi_aload_n (pc' := 57) (x := 115) kc_35_56 rfl rfl ?_
          have A80 := ((eh77.2.1 115 (by decide)).trans A16)
          refine xi_getfield (pc' := 60) (v := .ref 143) kc_35_57 rfl rfl rfl A80 rfl ?_
          refine xi_iload_n (pc' := 61) (x := x1) kc_35_60 rfl rfl ?_
          have A81 := ((eh77.2.1 143 (by decide)).trans A73)
          refine xi_iaload (pc' := 62) (v := v75) kc_35_61 rfl A81 (by decide) rfl (xi_in (by omega) (by rw [hy73]; omega)) ev75 ?_
          refine xi_iload_n (pc' := 63) (x := 2) kc_35_62 rfl rfl ?_
          refine xi_aload_n (pc' := 64) (x := 115) kc_35_63 rfl rfl ?_
          refine xi_getfield (pc' := 67) (v := .ref 144) kc_35_64 rfl rfl rfl A80 rfl ?_
          refine xi_iload_n (pc' := 68) (x := x1) kc_35_67 rfl rfl ?_
          have A82 := ((eh77.2.1 144 (by decide)).trans A23)
          refine xi_iaload (pc' := 69) (v := v25) kc_35_68 rfl A82 (by decide) rfl (xi_in (by omega) (by rw [hy23]; omega)) ev25 ?_
          refine xi_ift (pc' := 76) kc_35_69 rfl (xc_ne_t (X := v25.toInt) (Y := 0) rfl (by decide) (by omega)) ?_
          refine xi_aload_n (pc' := 77) (x := 115) kc_35_76 rfl rfl ?_
          refine xi_getfield (pc' := 80) (v := .ref 145) kc_35_77 rfl rfl rfl A80 rfl ?_
          refine xi_iload_n (pc' := 81) (x := x1) kc_35_80 rfl rfl ?_
          obtain ⟨y83, A83, hy83, ry83⟩ := xk_arr K78.1 xD_145
          have C84 : xcM hh77 C := xcM_k C0 K78 (by decide +kernel)
          have R85 : xrp y83 20 (C 14) := xra_ld C84.2.2.2.2.2.2.2.2.2.2.2.2.2 A83
          obtain ⟨v86, ev86, bv86, dv86⟩ := xj_get hy83 ry83 (i := x1) (by omega) (by omega)
          refine xi_iaload (pc' := 82) (v := v86) kc_35_81 rfl A83 (by decide) rfl (xi_in (by omega) (by rw [hy83]; omega)) ev86 ?_
          have hlv86 : v86.toInt = (C 14) (Int32.toNatClampNeg x1) := xrp_ld R85 (by omega) (by omega) ev86
          refine xi_virtual (mj := 14) (as := [.int v75, .int 2, .int v86]) (st1 := []) (lv0 := [(0, .ref 115), (1, .int v75), (2, .int 2), (3, .int v86)]) kc_35_82 rfl rfl rfl rfl rfl A80 (Nat.le_of_ble_eq_true rfl) (hJ _ _ _ _ (by decide)) (xm_le ml_14 rfl) rfl ?_
          have F91 := xr5_c F5 (fun c hc => eh77.2.1 c (Ne.symm (xk_nc hc rfl)))
          have F92 := xra_fr FW (xl_c (eh77.2.1 121 (by decide)))
          have F93 := xfi_fr Fh (xl_c (eh77.2.1 115 (by decide)))
          have F94 := xra_mk eh77.1 R79
          refine xw_te2 hJ hov1 hov2 (d := d + 5) (x1 := v75) (x3 := v86) K78.1 F91 F92 (by omega) (by omega) (fun hh87 K88 F89 F90 => ?_)
          have F95 := xfi_fr F93 (K88.2.1 (115, 1) (by decide +kernel))
          have F96 := xra_fr F94 (K88.2.1 (148, 0) (by decide +kernel))
          have A97 := ((eh77.2.1 146 (by decide)).trans A19)
          have K98 := xk_tr K78 K88 (xsb_ok _ _ (by decide +kernel))
          have A99 := xk_eqa (q := 0) K88 (by decide +kernel) eh77.1
          obtain ⟨u100, u101, u102, u103, u104, u105, u106, u107, u108, u109, u110, u111, u112, bu100, bu101, bu102, bu103, bu104, bu105, bu106, bu107, bu108, bu109, bu110, bu111, bu112, A113⟩ := xq_115 K98.1
          have C114 : xcM hh87 C := xcM_k C0 K98 (by decide +kernel)
          have hfu104 : u104.toInt = (C 11 0) := xfi_ld C114.1 A113 rfl
          have hfu107 : u107.toInt = (C 12 0) := xfi_ld C114.2.1 A113 rfl
          have hfu101 : u101.toInt = hr := xfi_ld F95 A113 rfl
          have bru101 : 0 ≤ u101.toInt ∧ u101.toInt ≤ 599 := by omega
          have e115 : u4 = u101 := xk_eqi (q := 1) K88 (by decide +kernel) A80 A113 rfl rfl
          subst e115
          have e116 : u7 = u104 := xk_eqi (q := 23) K88 (by decide +kernel) A80 A113 rfl rfl
          subst e116
          have e117 : u10 = u107 := xk_eqi (q := 34) K88 (by decide +kernel) A80 A113 rfl rfl
          subst e117
          have e118 : u8 = u105 := xk_eqi (q := 32) K88 (by decide +kernel) A80 A113 rfl rfl
          subst e118
          have A119 := xk_eqa (q := 0) K88 (by decide +kernel) A97
          have A120 := xk_eqa (q := 0) K88 (by decide +kernel) A82
          have A121 := xk_eqa (q := 0) K88 (by decide +kernel) A81
          have A122 := xk_eqa (q := 0) K88 (by decide +kernel) A83
          show xw J ov (d + 7) 35 (85, [(2, .int 2), (0, .ref 115), (1, .int x1)], [], hh87) _
          obtain ⟨v123, ev123⟩ : ∃ q : Int32, x1 + 1 = q := ⟨_, rfl⟩
          have zv123 : v123.toInt = (x1.toInt + 1) := by rw [← ev123]; exact (xz_add (X := x1.toInt) (Y := 1) rfl (by decide) (by omega) (by omega)).trans (by omega)
          refine xi_iinc (pc' := 88) (x := x1) (v := v123) (lv' := [(1, .int v123), (2, .int 2), (0, .ref 115)]) kc_35_85 rfl rfl ev123 rfl (xm_lt ml_35 rfl) ?_
          refine xi_goto (pc' := 2) kc_35_88 rfl ?_
          refine xw_lv (b := [(0, .ref 115), (1, .int v123)]) (lvS_cons (lvS_cons (lvS_nil (show ([1, 2, 0] : List Nat).Nodup by decide)) rfl) rfl) ?_
          have en : v123.toNatClampNeg = x1.toNatClampNeg + 1 := xcl2 b1.1 (by omega)
          have ea : Int32.toNatClampNeg v75 = (C 5 x1.toNatClampNeg).toNat := xcl3 (by omega) (by omega)
          have e8 : 2 = (C 8 x1.toNatClampNeg).toNat := by omega
          have ev : (v86 : Int32).toInt = C 9 x1.toNatClampNeg := by omega
          have ey := xtb_y (C := C) (hr := hr) (st := s.2.1) (wz := s.2.2) (i := x1.toNatClampNeg) (by omega)
          have G5 := F89
          rw [ea, ev, e8] at G5
          have GS := F96
          rw [e8] at hr76
          rw [hr76] at GS
          exact ih v123 hh87 (by omega) K98 F95 F90 (by rw [en, ey]; exact G5) (by rw [en, ey]; exact GS) (by omega)
      · refine xi_cmt (pc' := 85) kc_35_20 rfl (xc_ne_t (X := v21.toInt) (Y := u4.toInt) rfl rfl (by omega)) ?_
        obtain ⟨v124, ev124⟩ : ∃ q : Int32, x1 + 1 = q := ⟨_, rfl⟩
        have zv124 : v124.toInt = (x1.toInt + 1) := by rw [← ev124]; exact (xz_add (X := x1.toInt) (Y := 1) rfl (by decide) (by omega) (by omega)).trans (by omega)
        refine xi_iinc (pc' := 88) (x := x1) (v := v124) (lv' := [(1, .int v124), (0, .ref 115)]) kc_35_85 rfl rfl ev124 rfl (xm_lt ml_35 rfl) ?_
        refine xi_goto (pc' := 2) kc_35_88 rfl ?_
        refine xw_lv (b := [(0, .ref 115), (1, .int v124)]) (lvS_cons (lvS_cons (lvS_nil (show ([1, 0] : List Nat).Nodup by decide)) rfl) rfl) ?_
        have en : v124.toNatClampNeg = x1.toNatClampNeg + 1 := xcl2 b1.1 (by omega)
        have ey := xtb_n (C := C) (hr := hr) (st := s.2.1) (wz := s.2.2) (i := x1.toNatClampNeg) (by omega)
        exact ih v124 h (by omega) K Fh FW (by rw [en, ey]; exact F5) (by rw [en, ey]; exact FS) (by omega)
theorem xw_ps {J : xe_J} {ov : List (List Int32)} (hJ : ∀ d mj as h, mj ≠ xe_loff → J d mj as h = none) (hov1 : ov[1]? = some [10, 0, 0, 0, 0, 0]) (hov2 : ov[2]? = some [99, 30, 50, 50, 1, 99999]) {d : Nat} {Q : Option Value → xe_H → Prop} {hb : xe_H} {C : xFn} {s : xSt} {hr : Int} (C0 : xcM hb C) (hC : xcr C) (hT : xct C) (hs : xsr s) (b : 0 ≤ hr ∧ hr ≤ 599) (kk : ∀ h' : xe_H, xk xP_16 hb h' → xfi h' 115 1 (hr + 1) → xra h' 121 6 (xstep C hr s).1 → xr5 h' (xstep C hr s).2.1 → xra h' 148 20 (xstep C hr s).2.2 → Q none h') (T : xt hb) (Fh : xfi hb 115 1 hr) (FW : xra hb 121 6 s.1) (F5 : xr5 hb s.2.1) (FS : xra hb 148 20 s.2.2) : xw J ov (d + 7) 35 (0, [(0, .ref 115)], [], hb) Q := by
  have zc0 : (0 : Int32).toInt = 0 := by decide
  have c12 := hC.2.1
  refine xi_iconst (pc' := 1) (v := 0) kc_35_0 rfl rfl ?_
  refine xi_istore_n (pc' := 2) (lv' := [(1, .int 0), (0, .ref 115)]) kc_35_1 rfl rfl (xm_lt ml_35 rfl) ?_
  refine xw_lv (b := [(0, .ref 115), (1, .int 0)]) (lvS_cons (lvS_cons (lvS_nil (show ([1, 0] : List Nat).Nodup by decide)) rfl) rfl) ?_
  exact ps_2 hJ hov1 hov2 C0 hC hT hs b kk 21 0 hb (by omega) (xk_re T) Fh FW F5 FS (by omega)
set_option maxHeartbeats 4000000 in
theorem hm_lp {J : xe_J} {ov : List (List Int32)} (hJ : ∀ d mj as h, mj ≠ xe_loff → J d mj as h = none) (hov1 : ov[1]? = some [10, 0, 0, 0, 0, 0]) (hov2 : ov[2]? = some [99, 30, 50, 50, 1, 99999]) {d : Nat} {Q : Option Value → xe_H → Prop} {hb : xe_H} {C : xFn} {s : xSt} {hr : Int} {x1 : Int32} (C0 : xcM hb C) (hC : xcr C) (hT : xct C) (hs : xsr s) (b : 0 ≤ hr ∧ hr + x1.toInt ≤ 600) (b1 : 1 ≤ x1.toInt ∧ x1.toInt ≤ 600) (kk : ∀ (r : Int32) (h' : xe_H), r.toInt = hr + x1.toInt → xk xP_16 hb h' → xfi h' 115 1 (hr + ((x1.toNatClampNeg : Nat) : Int)) → xra h' 121 6 (xrun C hr s x1.toNatClampNeg).1 → xr5 h' (xrun C hr s x1.toNatClampNeg).2.1 → xra h' 148 20 (xrun C hr s x1.toNatClampNeg).2.2 → Q (some (.int r)) h') : ∀ (m : Nat) (x2 : Int32) (h : xe_H), (0 ≤ x2.toInt ∧ x2.toInt ≤ x1.toInt) → xk xP_16 hb h → xfi h 115 1 (hr + ((x2.toNatClampNeg : Nat) : Int)) → xra h 121 6 (xrun C hr s x2.toNatClampNeg).1 → xr5 h (xrun C hr s x2.toNatClampNeg).2.1 → xra h 148 20 (xrun C hr s x2.toNatClampNeg).2.2 → x1.toInt - x2.toInt < (m : Int) → xw J ov (d + 8) 34 (38, [(0, .ref 115), (1, .int x1), (2, .int x2)], [], h) Q := by
  intro m
  induction m with
  | zero => intro x2 h b2 K Fh FW F5 FS hm; exfalso; omega
  | succ m ih =>
    intro x2 h b2 K Fh FW F5 FS hm
    have qx2 := xj_tn b2.1
    refine xi_iload_n (pc' := 39) (x := x2) kc_34_38 rfl rfl ?_
    refine xi_iload_n (pc' := 40) (x := x1) kc_34_39 rfl rfl ?_
    by_cases c1 : x1.toInt ≤ x2.toInt
    · refine xi_cmt (pc' := 53) kc_34_40 rfl (xc_ge_t (X := x2.toInt) (Y := x1.toInt) rfl rfl (by omega)) ?_
      refine xi_aload_n (pc' := 54) (x := 115) kc_34_53 rfl rfl ?_
      obtain ⟨u2, u3, u4, u5, u6, u7, u8, u9, u10, u11, u12, u13, u14, bu2, bu3, bu4, bu5, bu6, bu7, bu8, bu9, bu10, bu11, bu12, bu13, bu14, A15⟩ := xq_115 K.1
      have C16 : xcM h C := xcM_k C0 K (by decide +kernel)
      have hfu6 : u6.toInt = (C 11 0) := xfi_ld C16.1 A15 rfl
      have hfu9 : u9.toInt = (C 12 0) := xfi_ld C16.2.1 A15 rfl
      have hfu3 : u3.toInt = (hr + ((x2.toNatClampNeg : Nat) : Int)) := xfi_ld Fh A15 rfl
      refine xi_getfield (pc' := 57) (v := .int u3) kc_34_54 rfl rfl rfl A15 rfl ?_
      refine xi_ireturn kc_34_57 mr_34 rfl ?_
      have en : x2.toNatClampNeg = x1.toNatClampNeg := congrArg _ (xc_of (by omega))
      rw [en] at Fh FW F5 FS
      exact kk u3 h (by have := xj_tn (i := x1) (by omega); omega) K Fh FW F5 FS
    · refine xi_cmf (pc' := 43) kc_34_40 rfl (xc_ge_f (X := x2.toInt) (Y := x1.toInt) rfl rfl (by omega)) ?_
      refine xi_aload_n (pc' := 44) (x := 115) kc_34_43 rfl rfl ?_
      obtain ⟨u17, u18, u19, u20, u21, u22, u23, u24, u25, u26, u27, u28, u29, bu17, bu18, bu19, bu20, bu21, bu22, bu23, bu24, bu25, bu26, bu27, bu28, bu29, A30⟩ := xq_115 K.1
      have C31 : xcM h C := xcM_k C0 K (by decide +kernel)
      have hfu21 : u21.toInt = (C 11 0) := xfi_ld C31.1 A30 rfl
      have hfu24 : u24.toInt = (C 12 0) := xfi_ld C31.2.1 A30 rfl
      have hfu18 : u18.toInt = (hr + ((x2.toNatClampNeg : Nat) : Int)) := xfi_ld Fh A30 rfl
      refine xi_virtual (mj := 35) (as := []) (st1 := []) (lv0 := [(0, .ref 115)]) kc_34_44 rfl rfl rfl rfl rfl A30 (Nat.le_of_ble_eq_true rfl) (hJ _ _ _ _ (by decide)) (xm_le ml_35 rfl) rfl ?_
      have hsr := xrun_r hC hs b.1 x2.toNatClampNeg (by omega)
      refine xw_ps hJ hov1 hov2 (d := d) (hr := hr + ((x2.toNatClampNeg : Nat) : Int)) C31 hC hT hsr (by omega) (fun hh32 K33 F34 F35 F36 F37 => ?_) K.1 Fh FW F5 FS
      have K38 := xk_tr K K33 (xsb_ok _ _ (by decide +kernel))
      obtain ⟨u39, u40, u41, u42, u43, u44, u45, u46, u47, u48, u49, u50, u51, bu39, bu40, bu41, bu42, bu43, bu44, bu45, bu46, bu47, bu48, bu49, bu50, bu51, A52⟩ := xq_115 K38.1
      have C53 : xcM hh32 C := xcM_k C0 K38 (by decide +kernel)
      have hfu43 : u43.toInt = (C 11 0) := xfi_ld C53.1 A52 rfl
      have hfu46 : u46.toInt = (C 12 0) := xfi_ld C53.2.1 A52 rfl
      have hfu40 : u40.toInt = (hr + ((x2.toNatClampNeg : Nat) : Int)) + 1 := xfi_ld F34 A52 rfl
      have e54 : u21 = u43 := xk_eqi (q := 23) K33 (by decide +kernel) A30 A52 rfl rfl
      subst e54
      have e55 : u24 = u46 := xk_eqi (q := 34) K33 (by decide +kernel) A30 A52 rfl rfl
      subst e55
      show xw J ov (d + 8) 34 (47, [(0, .ref 115), (1, .int x1), (2, .int x2)], [], hh32) _
      obtain ⟨v56, ev56⟩ : ∃ q : Int32, x2 + 1 = q := ⟨_, rfl⟩
      have zv56 : v56.toInt = (x2.toInt + 1) := by rw [← ev56]; exact (xz_add (X := x2.toInt) (Y := 1) rfl (by decide) (by omega) (by omega)).trans (by omega)
      refine xi_iinc (pc' := 50) (x := x2) (v := v56) (lv' := [(2, .int v56), (0, .ref 115), (1, .int x1)]) kc_34_47 rfl rfl ev56 rfl (xm_lt ml_34 rfl) ?_
      refine xi_goto (pc' := 38) kc_34_50 rfl ?_
      refine xw_lv (b := [(0, .ref 115), (1, .int x1), (2, .int v56)]) (lvS_cons (lvS_cons (lvS_cons (lvS_nil (show ([2, 0, 1] : List Nat).Nodup by decide)) rfl) rfl) rfl) ?_
      have en : v56.toNatClampNeg = x2.toNatClampNeg + 1 := xcl2 b2.1 (by omega)
      exact ih v56 hh32 (by omega) K38 (by rw [en]; exact xfi_e F34 (by omega)) (by rw [en]; exact F35) (by rw [en]; exact F36) (by rw [en]; exact F37) (by omega)
