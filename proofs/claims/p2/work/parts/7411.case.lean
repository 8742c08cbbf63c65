set_option maxHeartbeats 8000000 in
theorem lc_2 {J : xe_J} {ov : List (List Int32)} (hJ : ∀ d mj as h, mj ≠ xe_loff → J d mj as h = none) (hov1 : ov[1]? = some [10, 0, 0, 0, 0, 0]) (hov2 : ov[2]? = some [99, 30, 50, 50, 1, 99999]) {xs : List Int32} (hov0 : ov[0]? = some xs) {Q : Option Value → xe_H → Prop} {h : xe_H} {x4 : Int32} (hi0 : 0 ≤ x4.toInt) (hi1 : x4.toInt + 6 ≤ xs.length) (hi2 : x4.toInt ≤ 3066) (T : xt h) (I : xI h) (kk : ∀ (i : Int32) (h' : xe_H), i.toInt = x4.toInt + 6 → xk xP_31 h h' → xI h' → xw J ov 100 195 (23, [(4, .int i), (3, .ref 167), (2, .ref 115), (1, .ref 0), (0, .ref 1000000)], [], h') Q) : xw J ov 100 195 (290, [(4, .int x4), (3, .ref 167), (2, .ref 115), (1, .ref 0), (0, .ref 1000000)], [], h) Q := by
  have K : xk xP_31 h h := xk_re T
  have KR : xk xP_27 h h := xk_re T
  obtain ⟨y1, A1, hy1, ry1⟩ := xk_arr K.1 xD_6
  obtain ⟨y2, A2, hy2, ry2⟩ := xk_arr K.1 xD_123
  have H9 := xE_of I.2.2.2.2.2.2.2.2.2.1 A1 A2
  obtain ⟨y3, A3, hy3, ry3⟩ := xk_arr K.1 xD_9
  obtain ⟨y4, A4, hy4, ry4⟩ := xk_arr K.1 xD_124
  have H10 := xE_of I.2.2.2.2.2.2.2.2.2.2.1 A3 A4
  obtain ⟨y5, A5, hy5, ry5⟩ := xk_arr K.1 xD_7
  have H11 := xL_of I.2.2.2.2.2.2.2.2.2.2.2.1 A5 A1
  obtain ⟨y6, A6, hy6, ry6⟩ := xk_arr K.1 xD_10
  have H12 := xL_of I.2.2.2.2.2.2.2.2.2.2.2.2.1 A6 A3
  obtain ⟨u7, bu7, A8⟩ := xq_5 K.1
  have ee13 : u7 = 5 := xl_cst I.2.2.2.2.2.2.2.2.2.2.2.2.2.1 A8 rfl
  subst ee13
  obtain ⟨u9, bu9, A10⟩ := xq_8 K.1
  have ee14 : u9 = 0 := xl_cst I.2.2.2.2.2.2.2.2.2.2.2.2.2.2.1 A10 rfl
  subst ee14
  refine xi_aload_n (pc' := 291) (x := 0) kc_195_290 rfl rfl ?_
  refine xi_aload_n (pc' := 292) (x := 1000000) kc_195_291 rfl rfl ?_
  refine xi_iload (pc' := 294) (x := x4) kc_195_292 rfl rfl ?_
  refine xi_iconst (pc' := 295) (v := 1) kc_195_294 rfl rfl ?_
  obtain ⟨v11, ev11⟩ : ∃ q : Int32, x4 + 1 = q := ⟨_, rfl⟩
  have zv11 : v11.toInt = (x4.toInt + 1) := by rw [← ev11]; exact (xz_add (X := x4.toInt) (Y := 1) rfl (by decide) (by omega) (by omega)).trans (by omega)
  refine xi_iadd (pc' := 296) (v := v11) kc_195_295 rfl ev11 ?_
  obtain ⟨a12, ea12⟩ : ∃ q : Int32, xs.getD (Int32.toNatClampNeg v11) 0 = q := ⟨_, rfl⟩
  have ra12 := xc_rng a12
  refine xi_ialoadO (pc' := 297) (v := a12) kc_195_296 rfl (by decide) hov0 (xi_in (by omega) (by omega)) ea12 ?_
  refine xi_aload_n (pc' := 298) (x := 1000000) kc_195_297 rfl rfl ?_
  refine xi_iload (pc' := 300) (x := x4) kc_195_298 rfl rfl ?_
  refine xi_iconst (pc' := 301) (v := 2) kc_195_300 rfl rfl ?_
  obtain ⟨v13, ev13⟩ : ∃ q : Int32, x4 + 2 = q := ⟨_, rfl⟩
  have zv13 : v13.toInt = (x4.toInt + 2) := by rw [← ev13]; exact (xz_add (X := x4.toInt) (Y := 2) rfl (by decide) (by omega) (by omega)).trans (by omega)
  refine xi_iadd (pc' := 302) (v := v13) kc_195_301 rfl ev13 ?_
  obtain ⟨a14, ea14⟩ : ∃ q : Int32, xs.getD (Int32.toNatClampNeg v13) 0 = q := ⟨_, rfl⟩
  have ra14 := xc_rng a14
  refine xi_ialoadO (pc' := 303) (v := a14) kc_195_302 rfl (by decide) hov0 (xi_in (by omega) (by omega)) ea14 ?_
  refine xi_aload_n (pc' := 304) (x := 1000000) kc_195_303 rfl rfl ?_
  refine xi_iload (pc' := 306) (x := x4) kc_195_304 rfl rfl ?_
  refine xi_iconst (pc' := 307) (v := 3) kc_195_306 rfl rfl ?_
  obtain ⟨v15, ev15⟩ : ∃ q : Int32, x4 + 3 = q := ⟨_, rfl⟩
  have zv15 : v15.toInt = (x4.toInt + 3) := by rw [← ev15]; exact (xz_add (X := x4.toInt) (Y := 3) rfl (by decide) (by omega) (by omega)).trans (by omega)
  refine xi_iadd (pc' := 308) (v := v15) kc_195_307 rfl ev15 ?_
  obtain ⟨a16, ea16⟩ : ∃ q : Int32, xs.getD (Int32.toNatClampNeg v15) 0 = q := ⟨_, rfl⟩
  have ra16 := xc_rng a16
  refine xi_ialoadO (pc' := 309) (v := a16) kc_195_308 rfl (by decide) hov0 (xi_in (by omega) (by omega)) ea16 ?_
  obtain ⟨u17, u18, bu17, bu18, A19⟩ := xq_0 K.1
  refine xi_virtual (mj := 95) (as := [.int a12, .int a14, .int a16]) (st1 := []) (lv0 := [(0, .ref 0), (1, .int a12), (2, .int a14), (3, .int a16)]) kc_195_309 rfl rfl rfl rfl rfl A19 (Nat.le_of_ble_eq_true rfl) (hJ _ _ _ _ (by decide)) (xm_le ml_95 rfl) rfl ?_
  refine xi_iload_n (pc' := 1) (x := a14) kc_95_0 rfl rfl ?_
  by_cases c20 : a14.toInt = 0
  · refine xi_ift (pc' := 16) kc_95_1 rfl (xc_eq_t (X := a14.toInt) (Y := 0) rfl (by decide) (by omega)) ?_
    refine xi_iload_n (pc' := 17) (x := a14) kc_95_16 rfl rfl ?_
    refine xi_iff (pc' := 20) kc_95_17 rfl (xc_ne_f (X := a14.toInt) (Y := 0) rfl (by decide) (by omega)) ?_
    refine xi_bipush (pc' := 22) (v := (-20)) kc_95_20 rfl rfl ?_
    refine xi_goto (pc' := 26) kc_95_22 rfl ?_
    refine xi_istore (pc' := 28) (lv' := [(4, .int (-20)), (0, .ref 0), (1, .int a12), (2, .int a14), (3, .int a16)]) kc_95_26 rfl rfl (xm_lt ml_95 rfl) ?_
    refine xi_iload_n (pc' := 29) (x := a14) kc_95_28 rfl rfl ?_
    refine xi_iff (pc' := 32) kc_95_29 rfl (xc_ne_f (X := a14.toInt) (Y := 0) rfl (by decide) (by omega)) ?_
    refine xi_bipush (pc' := 34) (v := 30) kc_95_32 rfl rfl ?_
    refine xi_goto (pc' := 39) kc_95_34 rfl ?_
    refine xi_istore (pc' := 41) (lv' := [(5, .int 30), (4, .int (-20)), (0, .ref 0), (1, .int a12), (2, .int a14), (3, .int a16)]) kc_95_39 rfl rfl (xm_lt ml_95 rfl) ?_
    refine xi_iload_n (pc' := 42) (x := a12) kc_95_41 rfl rfl ?_
    by_cases c21 : a12.toInt < 0
    · refine xi_ift (pc' := 51) kc_95_42 rfl (xc_lt_t (X := a12.toInt) (Y := 0) rfl (by decide) (by omega)) ?_
      refine xi_aload_n (pc' := 52) (x := 0) kc_95_51 rfl rfl ?_
      refine xi_bipush (pc' := 54) (v := (-4)) kc_95_52 rfl rfl ?_
      refine xi_virtual (mj := 96) (as := [.int (-4)]) (st1 := []) (lv0 := [(0, .ref 0), (1, .int (-4))]) kc_95_54 rfl rfl rfl rfl rfl A19 (Nat.le_of_ble_eq_true rfl) (hJ _ _ _ _ (by decide)) (xm_le ml_96 rfl) rfl ?_
      refine xi_ldc_w (pc' := 3) (v := 1000000000) kc_96_0 rfl rfl ?_
      refine xi_aload_n (pc' := 4) (x := 0) kc_96_3 rfl rfl ?_
      refine xi_iload_n (pc' := 5) (x := (-4)) kc_96_4 rfl rfl ?_
      refine xi_virtual (mj := 90) (as := [.int (-4)]) (st1 := [.int 1000000000]) (lv0 := [(0, .ref 0), (1, .int (-4))]) kc_96_5 rfl rfl rfl rfl rfl A19 (Nat.le_of_ble_eq_true rfl) (hJ _ _ _ _ (by decide)) (xm_le ml_90 rfl) rfl ?_
      refine xi_iload_n (pc' := 1) (x := (-4)) kc_90_0 rfl rfl ?_
      refine xi_ineg (pc' := 2) (v := 4) kc_90_1 rfl rfl ?_
      refine xi_istore_n (pc' := 3) (lv' := [(2, .int 4), (0, .ref 0), (1, .int (-4))]) kc_90_2 rfl rfl (xm_lt ml_90 rfl) ?_
      refine xi_iload_n (pc' := 4) (x := 4) kc_90_3 rfl rfl ?_
      refine xi_iff (pc' := 7) kc_90_4 rfl rfl ?_
      refine xi_iload_n (pc' := 8) (x := 4) kc_90_7 rfl rfl ?_
      refine xi_aload_n (pc' := 9) (x := 0) kc_90_8 rfl rfl ?_
      refine xi_getfield (pc' := 12) (v := .ref 94) kc_90_9 rfl rfl rfl A19 rfl ?_
      obtain ⟨y22, A22, hy22, ry22⟩ := xk_arr K.1 xD_94
      refine xi_arraylength (pc' := 13) (n := 7) (v := 7) kc_90_12 rfl (xl_lenI (by decide) (by decide) A22 hy22) rfl ?_
      refine xi_cmf (pc' := 16) kc_90_13 rfl rfl ?_
      refine xi_aload_n (pc' := 17) (x := 0) kc_90_16 rfl rfl ?_
      refine xi_getfield (pc' := 20) (v := .ref 94) kc_90_17 rfl rfl rfl A19 rfl ?_
      refine xi_iload_n (pc' := 21) (x := 4) kc_90_20 rfl rfl ?_
      refine xi_dup2 (pc' := 22) kc_90_21 rfl ⟨rfl, rfl⟩ ?_
      obtain ⟨v23, ev23, bv23, dv23⟩ := xj_get hy22 ry22 (i := 4) (by decide) (by decide)
      refine xi_iaload (pc' := 23) (v := v23) kc_90_22 rfl A22 (by decide) rfl (xi_in (by decide) (by rw [hy22]; decide)) ev23 ?_
      refine xi_iconst (pc' := 24) (v := 1) kc_90_23 rfl rfl ?_
      obtain ⟨v24, ev24⟩ : ∃ q : Int32, (v23 : Int32) + 1 = q := ⟨_, rfl⟩
      have rv24 := xc_rng v24
      refine xi_iadd (pc' := 25) (v := v24) kc_90_24 rfl ev24 ?_
      obtain ⟨y25, s25, hy25, ry25⟩ := xj_set (v := v24) hy22 ry22 4 (by first | omega | decide) (by first | omega | decide)
      refine xi_iastore (pc' := 26) (x' := y25) kc_90_25 rfl A22 rfl (xi_in (by decide) (by rw [hy22]; decide)) s25 (fun hh25 eh25 => ?_)
      have K26 := xk_pa K (xk_wa (by decide +kernel)) xD_94 hy25 ry25 eh25
      have KR27 := xk_pa KR (xk_wa (by decide +kernel)) xD_94 hy25 ry25 eh25
      refine xi_iload_n (pc' := 27) (x := (-4)) kc_90_26 rfl rfl ?_
      refine xi_ireturn kc_90_27 mr_90 rfl ?_
      show xw J ov 98 96 (8, [(0, .ref 0), (1, .int (-4))], [.int (-4), .int 1000000000], hh25) _
      refine xi_isub (pc' := 9) (v := 1000000004) kc_96_8 rfl rfl ?_
      refine xi_ireturn kc_96_9 mr_96 rfl ?_
      show xw J ov 99 95 (57, [(5, .int 30), (4, .int (-20)), (0, .ref 0), (1, .int a12), (2, .int a14), (3, .int a16)], [.int 1000000004], hh25) _
      refine xi_ireturn kc_95_57 mr_95 rfl ?_
      show xw J ov 100 195 (312, [(4, .int x4), (3, .ref 167), (2, .ref 115), (1, .ref 0), (0, .ref 1000000)], [.int 1000000004], hh25) _
      refine xi_pop (pc' := 313) kc_195_312 rfl rfl ?_
      refine xi_aload_n (pc' := 314) (x := 115) kc_195_313 rfl rfl ?_
      refine xi_aload_n (pc' := 315) (x := 1000000) kc_195_314 rfl rfl ?_
      refine xi_iload (pc' := 317) (x := x4) kc_195_315 rfl rfl ?_
      refine xi_iconst (pc' := 318) (v := 1) kc_195_317 rfl rfl ?_
      refine xi_iadd (pc' := 319) (v := v11) kc_195_318 rfl ev11 ?_
      refine xi_ialoadO (pc' := 320) (v := a12) kc_195_319 rfl (by decide) hov0 (xi_in (by omega) (by omega)) ea12 ?_
      refine xi_aload_n (pc' := 321) (x := 1000000) kc_195_320 rfl rfl ?_
      refine xi_iload (pc' := 323) (x := x4) kc_195_321 rfl rfl ?_
      refine xi_iconst (pc' := 324) (v := 2) kc_195_323 rfl rfl ?_
      refine xi_iadd (pc' := 325) (v := v13) kc_195_324 rfl ev13 ?_
      refine xi_ialoadO (pc' := 326) (v := a14) kc_195_325 rfl (by decide) hov0 (xi_in (by omega) (by omega)) ea14 ?_
      refine xi_aload_n (pc' := 327) (x := 1000000) kc_195_326 rfl rfl ?_
      refine xi_iload (pc' := 329) (x := x4) kc_195_327 rfl rfl ?_
      refine xi_iconst (pc' := 330) (v := 3) kc_195_329 rfl rfl ?_
      refine xi_iadd (pc' := 331) (v := v15) kc_195_330 rfl ev15 ?_
      refine xi_ialoadO (pc' := 332) (v := a16) kc_195_331 rfl (by decide) hov0 (xi_in (by omega) (by omega)) ea16 ?_
      obtain ⟨u28, u29, u30, u31, u32, u33, u34, u35, u36, u37, u38, u39, u40, bu28, bu29, bu30, bu31, bu32, bu33, bu34, bu35, bu36, bu37, bu38, bu39, bu40, A41⟩ := xq_115 K.1
      have A42 := ((eh25.2.1 115 (by decide)).trans A41)
      refine xi_virtual (mj := 16) (as := [.int a12, .int a14, .int a16]) (st1 := []) (lv0 := [(0, .ref 115), (1, .int a12), (2, .int a14), (3, .int a16)]) kc_195_332 rfl rfl rfl rfl rfl A42 (Nat.le_of_ble_eq_true rfl) (hJ _ _ _ _ (by decide)) (xm_le ml_16 rfl) rfl ?_
      refine xi_aload_n (pc' := 1) (x := 115) kc_16_0 rfl rfl ?_
      refine xi_iconst (pc' := 2) (v := 0) kc_16_1 rfl rfl ?_
      refine xi_putfield (pc' := 5) (fs' := [.int 0, .int u29, .ref 116, .ref 117, .ref 118, .ref 119, .ref 120, .ref 121, .ref 122, .ref 123, .ref 124, .ref 125, .ref 126, .ref 127, .ref 128, .ref 129, .int u30, .ref 130, .int u31, .ref 131, .ref 132, .ref 133, .ref 134, .int u32, .ref 135, .ref 136, .ref 137, .ref 138, .ref 139, .ref 140, .ref 141, .ref 142, .int u33, .int u34, .int u35, .ref 143, .ref 144, .ref 145, .ref 146, .ref 147, .ref 148, .int u36, .ref 149, .ref 150, .ref 151, .int u37, .ref 152, .ref 153, .ref 154, .ref 155, .ref 156, .ref 157, .ref 158, .ref 159, .int u38, .ref 160, .int u39, .ref 161, .ref 162, .ref 163, .ref 164, .int u40, .ref 165, .ref 166]) kc_16_2 rfl rfl rfl A42 rfl rfl rfl (Nat.le_of_ble_eq_true rfl) rfl (fun hh44 eh43 => ?_)
      have K45 := xk_pf (k := 0) (v := 0) K26 (xk_wf (by decide +kernel)) xD_115 A42 rfl (by first | omega | decide) (by first | omega | decide) eh43 rfl
      have KR46 := xk_pf (k := 0) (v := 0) KR27 (xk_wf (by decide +kernel)) xD_115 A42 rfl (by first | omega | decide) (by first | omega | decide) eh43 rfl
      refine xi_iload_n (pc' := 6) (x := a14) kc_16_5 rfl rfl ?_
      refine xi_iconst (pc' := 7) (v := 0) kc_16_6 rfl rfl ?_
      refine xi_iconst (pc' := 8) (v := 1) kc_16_7 rfl rfl ?_
      refine xi_static (mj := 11) (as := [.int a14, .int 0, .int 1]) (st1 := []) (lv0 := [(0, .int a14), (1, .int 0), (2, .int 1)]) kc_16_8 rfl rfl (Nat.le_of_ble_eq_true rfl) rfl rfl (Nat.le_of_ble_eq_true rfl) (hJ _ _ _ _ (by decide)) (xm_le ml_11 rfl) rfl ?_
      refine xi_iload_n (pc' := 1) (x := a14) kc_11_0 rfl rfl ?_
      refine xi_iload_n (pc' := 2) (x := 0) kc_11_1 rfl rfl ?_
      refine xi_cmf (pc' := 5) kc_11_2 rfl (xc_lt_f (X := a14.toInt) (Y := 0) rfl (by decide) (by omega)) ?_
      refine xi_iload_n (pc' := 6) (x := a14) kc_11_5 rfl rfl ?_
      refine xi_iload_n (pc' := 7) (x := 1) kc_11_6 rfl rfl ?_
      refine xi_cmf (pc' := 10) kc_11_7 rfl (xc_gt_f (X := a14.toInt) (Y := 1) rfl (by decide) (by omega)) ?_
      refine xi_iconst (pc' := 11) (v := 1) kc_11_10 rfl rfl ?_
      refine xi_goto (pc' := 15) kc_11_11 rfl ?_
      refine xi_ireturn kc_11_15 mr_11 rfl ?_
      show xw J ov 99 16 (11, [(0, .ref 115), (1, .int a12), (2, .int a14), (3, .int a16)], [.int 1], hh44) _
      refine xi_ift (pc' := 21) kc_16_11 rfl rfl ?_
      refine xi_iload_n (pc' := 22) (x := a12) kc_16_21 rfl rfl ?_
      refine xi_ift (pc' := 39) kc_16_22 rfl (xc_lt_t (X := a12.toInt) (Y := 0) rfl (by decide) (by omega)) ?_
      refine xi_aload_n (pc' := 40) (x := 115) kc_16_39 rfl rfl ?_
      refine xi_bipush (pc' := 42) (v := (-4)) kc_16_40 rfl rfl ?_
      refine xi_virtual (mj := 17) (as := [.int (-4)]) (st1 := []) (lv0 := [(0, .ref 115), (1, .int (-4))]) kc_16_42 rfl rfl rfl rfl rfl eh43.1 (Nat.le_of_ble_eq_true rfl) (hJ _ _ _ _ (by decide)) (xm_le ml_17 rfl) rfl ?_
      refine xi_aload_n (pc' := 1) (x := 115) kc_17_0 rfl rfl ?_
      refine xi_getfield (pc' := 4) (v := .ref 140) kc_17_1 rfl rfl rfl eh43.1 rfl ?_
      refine xi_iload_n (pc' := 5) (x := (-4)) kc_17_4 rfl rfl ?_
      refine xi_ineg (pc' := 6) (v := 4) kc_17_5 rfl rfl ?_
      refine xi_dup2 (pc' := 7) kc_17_6 rfl ⟨rfl, rfl⟩ ?_
      obtain ⟨y47, A47, hy47, ry47⟩ := xk_arr K.1 xD_140
      obtain ⟨v48, ev48, bv48, dv48⟩ := xj_get hy47 ry47 (i := 4) (by decide) (by decide)
      have A49 := ((eh43.2.1 140 (by decide)).trans ((eh25.2.1 140 (by decide)).trans A47))
      refine xi_iaload (pc' := 8) (v := v48) kc_17_7 rfl A49 (by decide) rfl (xi_in (by decide) (by rw [hy47]; decide)) ev48 ?_
      refine xi_iconst (pc' := 9) (v := 1) kc_17_8 rfl rfl ?_
      obtain ⟨v50, ev50⟩ : ∃ q : Int32, (v48 : Int32) + 1 = q := ⟨_, rfl⟩
      have rv50 := xc_rng v50
      refine xi_iadd (pc' := 10) (v := v50) kc_17_9 rfl ev50 ?_
      obtain ⟨y51, s51, hy51, ry51⟩ := xj_set (v := v50) hy47 ry47 4 (by first | omega | decide) (by first | omega | decide)
      refine xi_iastore (pc' := 11) (x' := y51) kc_17_10 rfl A49 rfl (xi_in (by decide) (by rw [hy47]; decide)) s51 (fun hh51 eh51 => ?_)
      have K52 := xk_pa K45 (xk_wa (by decide +kernel)) xD_140 hy51 ry51 eh51
      have KR53 := xk_pa KR46 (xk_wa (by decide +kernel)) xD_140 hy51 ry51 eh51
      refine xi_ldc (pc' := 13) (v := 1000000000) kc_17_11 rfl rfl ?_
      refine xi_iload_n (pc' := 14) (x := (-4)) kc_17_13 rfl rfl ?_
      refine xi_isub (pc' := 15) (v := 1000000004) kc_17_14 rfl rfl ?_
      refine xi_ireturn kc_17_15 mr_17 rfl ?_
      show xw J ov 99 16 (45, [(0, .ref 115), (1, .int a12), (2, .int a14), (3, .int a16)], [.int 1000000004], hh51) _
      refine xi_ireturn kc_16_45 mr_16 rfl ?_
      show xw J ov 100 195 (335, [(4, .int x4), (3, .ref 167), (2, .ref 115), (1, .ref 0), (0, .ref 1000000)], [.int 1000000004], hh51) _
      refine xi_pop (pc' := 336) kc_195_335 rfl rfl ?_
      refine xi_goto (pc' := 1501) kc_195_336 rfl ?_
      obtain ⟨v54, ev54⟩ : ∃ q : Int32, x4 + 6 = q := ⟨_, rfl⟩
      have zv54 : v54.toInt = (x4.toInt + 6) := by rw [← ev54]; exact (xz_add (X := x4.toInt) (Y := 6) rfl (by decide) (by omega) (by omega)).trans (by omega)
      refine xi_iinc (pc' := 1504) (x := x4) (v := v54) (lv' := [(4, .int v54), (3, .ref 167), (2, .ref 115), (1, .ref 0), (0, .ref 1000000)]) kc_195_1501 rfl rfl ev54 rfl (xm_lt ml_195 rfl) ?_
      refine xi_goto (pc' := 23) kc_195_1504 rfl ?_
      exact kk v54 hh51 (by omega) K52 (xI_kept I KR53.2.1)
    · refine xi_iff (pc' := 45) kc_95_42 rfl (xc_lt_f (X := a12.toInt) (Y := 0) rfl (by decide) (by omega)) ?_
      refine xi_iload_n (pc' := 46) (x := a16) kc_95_45 rfl rfl ?_
      refine xi_iload (pc' := 48) (x := (-20)) kc_95_46 rfl rfl ?_
      by_cases c55 : (-20) ≤ a16.toInt
      · refine xi_cmt (pc' := 58) kc_95_48 rfl (xc_ge_t (X := a16.toInt) (Y := (-20)) rfl (by decide) (by omega)) ?_
        refine xi_iload_n (pc' := 59) (x := a12) kc_95_58 rfl rfl ?_
        refine xi_sipush (pc' := 62) (v := 600) kc_95_59 rfl rfl ?_
        by_cases c56 : 600 ≤ a12.toInt
        · refine xi_cmt (pc' := 77) kc_95_62 rfl (xc_ge_t (X := a12.toInt) (Y := 600) rfl (by decide) (by omega)) ?_
          refine xi_aload_n (pc' := 78) (x := 0) kc_95_77 rfl rfl ?_
          refine xi_bipush (pc' := 80) (v := (-6)) kc_95_78 rfl rfl ?_
          refine xi_virtual (mj := 96) (as := [.int (-6)]) (st1 := []) (lv0 := [(0, .ref 0), (1, .int (-6))]) kc_95_80 rfl rfl rfl rfl rfl A19 (Nat.le_of_ble_eq_true rfl) (hJ _ _ _ _ (by decide)) (xm_le ml_96 rfl) rfl ?_
          refine xi_ldc_w (pc' := 3) (v := 1000000000) kc_96_0 rfl rfl ?_
          refine xi_aload_n (pc' := 4) (x := 0) kc_96_3 rfl rfl ?_
          refine xi_iload_n (pc' := 5) (x := (-6)) kc_96_4 rfl rfl ?_
          refine xi_virtual (mj := 90) (as := [.int (-6)]) (st1 := [.int 1000000000]) (lv0 := [(0, .ref 0), (1, .int (-6))]) kc_96_5 rfl rfl rfl rfl rfl A19 (Nat.le_of_ble_eq_true rfl) (hJ _ _ _ _ (by decide)) (xm_le ml_90 rfl) rfl ?_
          refine xi_iload_n (pc' := 1) (x := (-6)) kc_90_0 rfl rfl ?_
          refine xi_ineg (pc' := 2) (v := 6) kc_90_1 rfl rfl ?_
          refine xi_istore_n (pc' := 3) (lv' := [(2, .int 6), (0, .ref 0), (1, .int (-6))]) kc_90_2 rfl rfl (xm_lt ml_90 rfl) ?_
          refine xi_iload_n (pc' := 4) (x := 6) kc_90_3 rfl rfl ?_
          refine xi_iff (pc' := 7) kc_90_4 rfl rfl ?_
          refine xi_iload_n (pc' := 8) (x := 6) kc_90_7 rfl rfl ?_
          refine xi_aload_n (pc' := 9) (x := 0) kc_90_8 rfl rfl ?_
          refine xi_getfield (pc' := 12) (v := .ref 94) kc_90_9 rfl rfl rfl A19 rfl ?_
          obtain ⟨y57, A57, hy57, ry57⟩ := xk_arr K.1 xD_94
          refine xi_arraylength (pc' := 13) (n := 7) (v := 7) kc_90_12 rfl (xl_lenI (by decide) (by decide) A57 hy57) rfl ?_
          refine xi_cmf (pc' := 16) kc_90_13 rfl rfl ?_
          refine xi_aload_n (pc' := 17) (x := 0) kc_90_16 rfl rfl ?_
          refine xi_getfield (pc' := 20) (v := .ref 94) kc_90_17 rfl rfl rfl A19 rfl ?_
          refine xi_iload_n (pc' := 21) (x := 6) kc_90_20 rfl rfl ?_
          refine xi_dup2 (pc' := 22) kc_90_21 rfl ⟨rfl, rfl⟩ ?_
          obtain ⟨v58, ev58, bv58, dv58⟩ := xj_get hy57 ry57 (i := 6) (by decide) (by decide)
          refine xi_iaload (pc' := 23) (v := v58) kc_90_22 rfl A57 (by decide) rfl (xi_in (by decide) (by rw [hy57]; decide)) ev58 ?_
          refine xi_iconst (pc' := 24) (v := 1) kc_90_23 rfl rfl ?_
          obtain ⟨v59, ev59⟩ : ∃ q : Int32, (v58 : Int32) + 1 = q := ⟨_, rfl⟩
          have rv59 := xc_rng v59
          refine xi_iadd (pc' := 25) (v := v59) kc_90_24 rfl ev59 ?_
          obtain ⟨y60, s60, hy60, ry60⟩ := xj_set (v := v59) hy57 ry57 6 (by first | omega | decide) (by first | omega | decide)
          refine xi_iastore (pc' := 26) (x' := y60) kc_90_25 rfl A57 rfl (xi_in (by decide) (by rw [hy57]; decide)) s60 (fun hh60 eh60 => ?_)
          have K61 := xk_pa K (xk_wa (by decide +kernel)) xD_94 hy60 ry60 eh60
          have KR62 := xk_pa KR (xk_wa (by decide +kernel)) xD_94 hy60 ry60 eh60
          refine xi_iload_n (pc' := 27) (x := (-6)) kc_90_26 rfl rfl ?_
          refine xi_ireturn kc_90_27 mr_90 rfl ?_
          show xw J ov 98 96 (8, [(0, .ref 0), (1, .int (-6))], [.int (-6), .int 1000000000], hh60) _
          refine xi_isub (pc' := 9) (v := 1000000006) kc_96_8 rfl rfl ?_
          refine xi_ireturn kc_96_9 mr_96 rfl ?_
          show xw J ov 99 95 (83, [(5, .int 30), (4, .int (-20)), (0, .ref 0), (1, .int a12), (2, .int a14), (3, .int a16)], [.int 1000000006], hh60) _
          refine xi_ireturn kc_95_83 mr_95 rfl ?_
          show xw J ov 100 195 (312, [(4, .int x4), (3, .ref 167), (2, .ref 115), (1, .ref 0), (0, .ref 1000000)], [.int 1000000006], hh60) _
          refine xi_pop (pc' := 313) kc_195_312 rfl rfl ?_
          refine xi_aload_n (pc' := 314) (x := 115) kc_195_313 rfl rfl ?_
          refine xi_aload_n (pc' := 315) (x := 1000000) kc_195_314 rfl rfl ?_
          refine xi_iload (pc' := 317) (x := x4) kc_195_315 rfl rfl ?_
          refine xi_iconst (pc' := 318) (v := 1) kc_195_317 rfl rfl ?_
          refine xi_iadd (pc' := 319) (v := v11) kc_195_318 rfl ev11 ?_
          refine xi_ialoadO (pc' := 320) (v := a12) kc_195_319 rfl (by decide) hov0 (xi_in (by omega) (by omega)) ea12 ?_
          refine xi_aload_n (pc' := 321) (x := 1000000) kc_195_320 rfl rfl ?_
          refine xi_iload (pc' := 323) (x := x4) kc_195_321 rfl rfl ?_
          refine xi_iconst (pc' := 324) (v := 2) kc_195_323 rfl rfl ?_
          refine xi_iadd (pc' := 325) (v := v13) kc_195_324 rfl ev13 ?_
          refine xi_ialoadO (pc' := 326) (v := a14) kc_195_325 rfl (by decide) hov0 (xi_in (by omega) (by omega)) ea14 ?_
          refine xi_aload_n (pc' := 327) (x := 1000000) kc_195_326 rfl rfl ?_
          refine xi_iload (pc' := 329) (x := x4) kc_195_327 rfl rfl ?_
          refine xi_iconst (pc' := 330) (v := 3) kc_195_329 rfl rfl ?_
          refine xi_iadd (pc' := 331) (v := v15) kc_195_330 rfl ev15 ?_
          refine xi_ialoadO (pc' := 332) (v := a16) kc_195_331 rfl (by decide) hov0 (xi_in (by omega) (by omega)) ea16 ?_
          obtain ⟨u63, u64, u65, u66, u67, u68, u69, u70, u71, u72, u73, u74, u75, bu63, bu64, bu65, bu66, bu67, bu68, bu69, bu70, bu71, bu72, bu73, bu74, bu75, A76⟩ := xq_115 K.1
          have A77 := ((eh60.2.1 115 (by decide)).trans A76)
          refine xi_virtual (mj := 16) (as := [.int a12, .int a14, .int a16]) (st1 := []) (lv0 := [(0, .ref 115), (1, .int a12), (2, .int a14), (3, .int a16)]) kc_195_332 rfl rfl rfl rfl rfl A77 (Nat.le_of_ble_eq_true rfl) (hJ _ _ _ _ (by decide)) (xm_le ml_16 rfl) rfl ?_
          refine xi_aload_n (pc' := 1) (x := 115) kc_16_0 rfl rfl ?_
          refine xi_iconst (pc' := 2) (v := 0) kc_16_1 rfl rfl ?_
          refine xi_putfield (pc' := 5) (fs' := [.int 0, .int u64, .ref 116, .ref 117, .ref 118, .ref 119, .ref 120, .ref 121, .ref 122, .ref 123, .ref 124, .ref 125, .ref 126, .ref 127, .ref 128, .ref 129, .int u65, .ref 130, .int u66, .ref 131, .ref 132, .ref 133, .ref 134, .int u67, .ref 135, .ref 136, .ref 137, .ref 138, .ref 139, .ref 140, .ref 141, .ref 142, .int u68, .int u69, .int u70, .ref 143, .ref 144, .ref 145, .ref 146, .ref 147, .ref 148, .int u71, .ref 149, .ref 150, .ref 151, .int u72, .ref 152, .ref 153, .ref 154, .ref 155, .ref 156, .ref 157, .ref 158, .ref 159, .int u73, .ref 160, .int u74, .ref 161, .ref 162, .ref 163, .ref 164, .int u75, .ref 165, .ref 166]) kc_16_2 rfl rfl rfl A77 rfl rfl rfl (Nat.le_of_ble_eq_true rfl) rfl (fun hh79 eh78 => ?_)
          have K80 := xk_pf (k := 0) (v := 0) K61 (xk_wf (by decide +kernel)) xD_115 A77 rfl (by first | omega | decide) (by first | omega | decide) eh78 rfl
          have KR81 := xk_pf (k := 0) (v := 0) KR62 (xk_wf (by decide +kernel)) xD_115 A77 rfl (by first | omega | decide) (by first | omega | decide) eh78 rfl
          refine xi_iload_n (pc' := 6) (x := a14) kc_16_5 rfl rfl ?_
          refine xi_iconst (pc' := 7) (v := 0) kc_16_6 rfl rfl ?_
          refine xi_iconst (pc' := 8) (v := 1) kc_16_7 rfl rfl ?_
          refine xi_static (mj := 11) (as := [.int a14, .int 0, .int 1]) (st1 := []) (lv0 := [(0, .int a14), (1, .int 0), (2, .int 1)]) kc_16_8 rfl rfl (Nat.le_of_ble_eq_true rfl) rfl rfl (Nat.le_of_ble_eq_true rfl) (hJ _ _ _ _ (by decide)) (xm_le ml_11 rfl) rfl ?_
          refine xi_iload_n (pc' := 1) (x := a14) kc_11_0 rfl rfl ?_
          refine xi_iload_n (pc' := 2) (x := 0) kc_11_1 rfl rfl ?_
          refine xi_cmf (pc' := 5) kc_11_2 rfl (xc_lt_f (X := a14.toInt) (Y := 0) rfl (by decide) (by omega)) ?_
          refine xi_iload_n (pc' := 6) (x := a14) kc_11_5 rfl rfl ?_
          refine xi_iload_n (pc' := 7) (x := 1) kc_11_6 rfl rfl ?_
          refine xi_cmf (pc' := 10) kc_11_7 rfl (xc_gt_f (X := a14.toInt) (Y := 1) rfl (by decide) (by omega)) ?_
          refine xi_iconst (pc' := 11) (v := 1) kc_11_10 rfl rfl ?_
          refine xi_goto (pc' := 15) kc_11_11 rfl ?_
          refine xi_ireturn kc_11_15 mr_11 rfl ?_
          show xw J ov 99 16 (11, [(0, .ref 115), (1, .int a12), (2, .int a14), (3, .int a16)], [.int 1], hh79) _
          refine xi_ift (pc' := 21) kc_16_11 rfl rfl ?_
          refine xi_iload_n (pc' := 22) (x := a12) kc_16_21 rfl rfl ?_
          refine xi_iff (pc' := 25) kc_16_22 rfl (xc_lt_f (X := a12.toInt) (Y := 0) rfl (by decide) (by omega)) ?_
          refine xi_iload_n (pc' := 26) (x := a16) kc_16_25 rfl rfl ?_
          refine xi_iload_n (pc' := 27) (x := a14) kc_16_26 rfl rfl ?_
          refine xi_iff (pc' := 30) kc_16_27 rfl (xc_ne_f (X := a14.toInt) (Y := 0) rfl (by decide) (by omega)) ?_
          refine xi_bipush (pc' := 32) (v := (-20)) kc_16_30 rfl rfl ?_
          refine xi_goto (pc' := 36) kc_16_32 rfl ?_
          refine xi_cmt (pc' := 46) kc_16_36 rfl (xc_ge_t (X := a16.toInt) (Y := (-20)) rfl (by decide) (by omega)) ?_
          refine xi_iload_n (pc' := 47) (x := a12) kc_16_46 rfl rfl ?_
          refine xi_sipush (pc' := 50) (v := 599) kc_16_47 rfl rfl ?_
          refine xi_cmt (pc' := 74) kc_16_50 rfl (xc_gt_t (X := a12.toInt) (Y := 599) rfl (by decide) (by omega)) ?_
          refine xi_aload_n (pc' := 75) (x := 115) kc_16_74 rfl rfl ?_
          refine xi_bipush (pc' := 77) (v := (-6)) kc_16_75 rfl rfl ?_
          refine xi_virtual (mj := 17) (as := [.int (-6)]) (st1 := []) (lv0 := [(0, .ref 115), (1, .int (-6))]) kc_16_77 rfl rfl rfl rfl rfl eh78.1 (Nat.le_of_ble_eq_true rfl) (hJ _ _ _ _ (by decide)) (xm_le ml_17 rfl) rfl ?_
          refine xi_aload_n (pc' := 1) (x := 115) kc_17_0 rfl rfl ?_
          refine xi_getfield (pc' := 4) (v := .ref 140) kc_17_1 rfl rfl rfl eh78.1 rfl ?_
          refine xi_iload_n (pc' := 5) (x := (-6)) kc_17_4 rfl rfl ?_
          refine xi_ineg (pc' := 6) (v := 6) kc_17_5 rfl rfl ?_
          refine xi_dup2 (pc' := 7) kc_17_6 rfl ⟨rfl, rfl⟩ ?_
          obtain ⟨y82, A82, hy82, ry82⟩ := xk_arr K.1 xD_140
          obtain ⟨v83, ev83, bv83, dv83⟩ := xj_get hy82 ry82 (i := 6) (by decide) (by decide)
          have A84 := ((eh78.2.1 140 (by decide)).trans ((eh60.2.1 140 (by decide)).trans A82))
          refine xi_iaload (pc' := 8) (v := v83) kc_17_7 rfl A84 (by decide) rfl (xi_in (by decide) (by rw [hy82]; decide)) ev83 ?_
          refine xi_iconst (pc' := 9) (v := 1) kc_17_8 rfl rfl ?_
          obtain ⟨v85, ev85⟩ : ∃ q : Int32, (v83 : Int32) + 1 = q := ⟨_, rfl⟩
          have rv85 := xc_rng v85
          refine xi_iadd (pc' := 10) (v := v85) kc_17_9 rfl ev85 ?_
          obtain ⟨y86, s86, hy86, ry86⟩ := xj_set (v := v85) hy82 ry82 6 (by first | omega | decide) (by first | omega | decide)
          refine xi_iastore (pc' := 11) (x' := y86) kc_17_10 rfl A84 rfl (xi_in (by decide) (by rw [hy82]; decide)) s86 (fun hh86 eh86 => ?_)
          have K87 := xk_pa K80 (xk_wa (by decide +kernel)) xD_140 hy86 ry86 eh86
          have KR88 := xk_pa KR81 (xk_wa (by decide +kernel)) xD_140 hy86 ry86 eh86
          refine xi_ldc (pc' := 13) (v := 1000000000) kc_17_11 rfl rfl ?_
          refine xi_iload_n (pc' := 14) (x := (-6)) kc_17_13 rfl rfl ?_
          refine xi_isub (pc' := 15) (v := 1000000006) kc_17_14 rfl rfl ?_
          refine xi_ireturn kc_17_15 mr_17 rfl ?_
          show xw J ov 99 16 (80, [(0, .ref 115), (1, .int a12), (2, .int a14), (3, .int a16)], [.int 1000000006], hh86) _
          refine xi_ireturn kc_16_80 mr_16 rfl ?_
          show xw J ov 100 195 (335, [(4, .int x4), (3, .ref 167), (2, .ref 115), (1, .ref 0), (0, .ref 1000000)], [.int 1000000006], hh86) _
          refine xi_pop (pc' := 336) kc_195_335 rfl rfl ?_
          refine xi_goto (pc' := 1501) kc_195_336 rfl ?_
          obtain ⟨v89, ev89⟩ : ∃ q : Int32, x4 + 6 = q := ⟨_, rfl⟩
          have zv89 : v89.toInt = (x4.toInt + 6) := by rw [← ev89]; exact (xz_add (X := x4.toInt) (Y := 6) rfl (by decide) (by omega) (by omega)).trans (by omega)
          refine xi_iinc (pc' := 1504) (x := x4) (v := v89) (lv' := [(4, .int v89), (3, .ref 167), (2, .ref 115), (1, .ref 0), (0, .ref 1000000)]) kc_195_1501 rfl rfl ev89 rfl (xm_lt ml_195 rfl) ?_
          refine xi_goto (pc' := 23) kc_195_1504 rfl ?_
          exact kk v89 hh86 (by omega) K87 (xI_kept I KR88.2.1)
        · refine xi_cmf (pc' := 65) kc_95_62 rfl (xc_ge_f (X := a12.toInt) (Y := 600) rfl (by decide) (by omega)) ?_
          refine xi_iload_n (pc' := 66) (x := a16) kc_95_65 rfl rfl ?_
          refine xi_iload (pc' := 68) (x := 30) kc_95_66 rfl rfl ?_
          by_cases c90 : a16.toInt ≤ 30
          · refine xi_cmt (pc' := 84) kc_95_68 rfl (xc_le_t (X := a16.toInt) (Y := 30) rfl (by decide) (by omega)) ?_
            refine xi_aload_n (pc' := 85) (x := 0) kc_95_84 rfl rfl ?_
            refine xi_getfield (pc' := 88) (v := .ref 66) kc_95_85 rfl rfl rfl A19 rfl ?_
            obtain ⟨u92, wl91, bu92, A93⟩ := xq_66 K.1
            refine xi_virtual (mj := 91) (as := []) (st1 := []) (lv0 := [(0, .ref 66)]) kc_95_88 rfl rfl rfl rfl rfl A93 (Nat.le_of_ble_eq_true rfl) (hJ _ _ _ _ (by decide)) (xm_le ml_91 rfl) rfl ?_
            refine xi_aload_n (pc' := 1) (x := 66) kc_91_0 rfl rfl ?_
            refine xi_lconst (pc' := 2) (v := 0) kc_91_1 rfl rfl ?_
            refine xi_putfield (pc' := 5) (fs' := [.ref 1, .ref 67, .ref 70, .ref 71, .ref 72, .ref 73, .ref 74, .long 0, .int u92]) kc_91_2 rfl rfl rfl A93 rfl rfl rfl (Nat.le_of_ble_eq_true rfl) rfl (fun hh95 eh94 => ?_)
            have K96 := xk_pl (k := 7) (v := 0) K (xk_wf (by decide +kernel)) xD_66 A93 rfl eh94 rfl
            have KR97 := xk_pl (k := 7) (v := 0) KR (xk_wf (by decide +kernel)) xD_66 A93 rfl eh94 rfl
            refine xi_return kc_91_5 mr_91 ?_
            show xw J ov 99 95 (91, [(5, .int 30), (4, .int (-20)), (0, .ref 0), (1, .int a12), (2, .int a14), (3, .int a16)], [], hh95) _
            refine xi_aload_n (pc' := 92) (x := 0) kc_95_91 rfl rfl ?_
            have A98 := ((eh94.2.1 0 (by decide)).trans A19)
            refine xi_getfield (pc' := 95) (v := .ref 1) kc_95_92 rfl rfl rfl A98 rfl ?_
            refine xi_iload_n (pc' := 96) (x := a14) kc_95_95 rfl rfl ?_
            obtain ⟨u99, u100, bu99, bu100, A101⟩ := xq_1 K.1
            have A102 := ((eh94.2.1 1 (by decide)).trans A101)
            refine xi_virtual (mj := 97) (as := [.int a14]) (st1 := []) (lv0 := [(0, .ref 1), (1, .int a14)]) kc_95_96 rfl rfl rfl rfl rfl A102 (Nat.le_of_ble_eq_true rfl) (hJ _ _ _ _ (by decide)) (xm_le ml_97 rfl) rfl ?_
            refine xi_iload_n (pc' := 1) (x := a14) kc_97_0 rfl rfl ?_
            refine xi_iff (pc' := 4) kc_97_1 rfl (xc_ne_f (X := a14.toInt) (Y := 0) rfl (by decide) (by omega)) ?_
            refine xi_aload_n (pc' := 5) (x := 1) kc_97_4 rfl rfl ?_
            refine xi_getfield (pc' := 8) (v := .ref 5) kc_97_5 rfl rfl rfl A102 rfl ?_
            refine xi_goto (pc' := 15) kc_97_8 rfl ?_
            refine xi_areturn kc_97_15 (by rw [mr_97]; rfl) ?_
            show xw J ov 99 95 (99, [(5, .int 30), (4, .int (-20)), (0, .ref 0), (1, .int a12), (2, .int a14), (3, .int a16)], [.ref 5], hh95) _
            refine xi_iload_n (pc' := 100) (x := a12) kc_95_99 rfl rfl ?_
            refine xi_iload_n (pc' := 101) (x := a16) kc_95_100 rfl rfl ?_
            have A103 := ((eh94.2.1 5 (by decide)).trans A8)
            refine xi_virtual (mj := 98) (as := [.int a12, .int a16]) (st1 := []) (lv0 := [(0, .ref 5), (1, .int a12), (2, .int a16)]) kc_95_101 rfl rfl rfl rfl rfl A103 (Nat.le_of_ble_eq_true rfl) (hJ _ _ _ _ (by decide)) (xm_le ml_98 rfl) rfl ?_
            refine xi_iload_n (pc' := 1) (x := a12) kc_98_0 rfl rfl ?_
            refine xi_iff (pc' := 4) kc_98_1 rfl (xc_lt_f (X := a12.toInt) (Y := 0) rfl (by decide) (by omega)) ?_
            refine xi_iload_n (pc' := 5) (x := a12) kc_98_4 rfl rfl ?_
            refine xi_aload_n (pc' := 6) (x := 5) kc_98_5 rfl rfl ?_
            refine xi_getfield (pc' := 9) (v := .ref 6) kc_98_6 rfl rfl rfl A103 rfl ?_
            have A104 := ((eh94.2.1 6 (by decide)).trans A1)
            refine xi_arraylength (pc' := 10) (n := 601) (v := 601) kc_98_9 rfl (xl_lenI (by decide) (by decide) A104 hy1) rfl ?_
            refine xi_cmt (pc' := 16) kc_98_10 rfl (xc_lt_t (X := a12.toInt) (Y := 601) rfl (by decide) (by omega)) ?_
            refine xi_aload_n (pc' := 17) (x := 5) kc_98_16 rfl rfl ?_
            refine xi_getfield (pc' := 20) (v := .ref 6) kc_98_17 rfl rfl rfl A103 rfl ?_
            refine xi_iload_n (pc' := 21) (x := a12) kc_98_20 rfl rfl ?_
            obtain ⟨v105, ev105, bv105, dv105⟩ := xj_get hy1 ry1 (i := a12) (by omega) (by omega)
            refine xi_iaload (pc' := 22) (v := v105) kc_98_21 rfl A104 (by decide) rfl (xi_in (by omega) (by rw [hy1]; omega)) ev105 ?_
            refine xi_istore_n (pc' := 23) (lv' := [(3, .int v105), (0, .ref 5), (1, .int a12), (2, .int a16)]) kc_98_22 rfl rfl (xm_lt ml_98 rfl) ?_
            refine xi_aload_n (pc' := 24) (x := 5) kc_98_23 rfl rfl ?_
            refine xi_getfield (pc' := 27) (v := .ref 6) kc_98_24 rfl rfl rfl A103 rfl ?_
            refine xi_iload_n (pc' := 28) (x := a12) kc_98_27 rfl rfl ?_
            refine xi_iload_n (pc' := 29) (x := a16) kc_98_28 rfl rfl ?_
            obtain ⟨y106, s106, hy106, ry106⟩ := xj_set (v := a16) hy1 ry1 a12 (by first | omega | decide) (by first | omega | decide)
            refine xi_iastore (pc' := 30) (x' := y106) kc_98_29 rfl A104 rfl (xi_in (by omega) (by rw [hy1]; omega)) s106 (fun hh106 eh106 => ?_)
            have K107 := xk_pa K96 (xk_wa (by decide +kernel)) xD_6 hy106 ry106 eh106
            refine xi_aload_n (pc' := 31) (x := 5) kc_98_30 rfl rfl ?_
            refine xi_iload_n (pc' := 32) (x := a12) kc_98_31 rfl rfl ?_
            refine xi_iconst (pc' := 33) (v := 1) kc_98_32 rfl rfl ?_
            obtain ⟨v108, ev108⟩ : ∃ q : Int32, a12 - 1 = q := ⟨_, rfl⟩
            have zv108 : v108.toInt = (a12.toInt + (-1)) := by rw [← ev108]; exact (xz_sub (X := a12.toInt) (Y := 1) rfl (by decide) (by omega) (by omega)).trans (by omega)
            refine xi_isub (pc' := 34) (v := v108) kc_98_33 rfl ev108 ?_
            have A109 := ((eh106.2.1 5 (by decide)).trans A103)
            refine xi_virtual (mj := 99) (as := [.int v108]) (st1 := []) (lv0 := [(0, .ref 5), (1, .int v108)]) kc_98_34 rfl rfl rfl rfl rfl A109 (Nat.le_of_ble_eq_true rfl) (hJ _ _ _ _ (by decide)) (xm_le ml_99 rfl) rfl ?_
            refine xi_iload_n (pc' := 1) (x := v108) kc_99_0 rfl rfl ?_
            by_cases c110 : (a12.toInt + (-1)) < 0
            · refine xi_ift (pc' := 13) kc_99_1 rfl (xc_lt_t (X := (a12.toInt + (-1))) (Y := 0) zv108 (by decide) (by omega)) ?_
              refine xi_aload_n (pc' := 14) (x := 5) kc_99_13 rfl rfl ?_
              refine xi_getfield (pc' := 17) (v := .int 5) kc_99_14 rfl rfl rfl A109 rfl ?_
              refine xi_goto (pc' := 26) kc_99_17 rfl ?_
              refine xi_ireturn kc_99_26 mr_99 rfl ?_
              show xw J ov 98 98 (37, [(3, .int v105), (0, .ref 5), (1, .int a12), (2, .int a16)], [.int 5], hh106) _
              refine xi_istore (pc' := 39) (lv' := [(4, .int 5), (3, .int v105), (0, .ref 5), (1, .int a12), (2, .int a16)]) kc_98_37 rfl rfl (xm_lt ml_98 rfl) ?_
              refine xi_iload_n (pc' := 40) (x := a12) kc_98_39 rfl rfl ?_
              refine xi_istore (pc' := 42) (lv' := [(5, .int a12), (4, .int 5), (3, .int v105), (0, .ref 5), (1, .int a12), (2, .int a16)]) kc_98_40 rfl rfl (xm_lt ml_98 rfl) ?_
              refine xw_lv (b := [(0, .ref 5), (3, .int v105), (4, .int 5), (5, .int a12)]) (lvS_cons (lvS_cons (lvS_cons (lvS_cons (lvS_nil (show ([5, 4, 3, 0, 1, 2] : List Nat).Nodup by decide)) rfl) rfl) rfl) rfl) ?_
              have A112 := ((eh106.2.1 7 (by decide)).trans ((eh94.2.1 7 (by decide)).trans A5))
              refine xw_tell (o := 5) (t := 6) (c := 7) (hb := hh106) (f := 5) (was := v105) (by decide) (by decide) (by decide) A109 rfl rfl eh106.1 hy106 (fun z9111 hh111 hz111 HL111 eh111 => ?_) 602 a12 5 y5 hh106 (by omega) (by omega) (by omega) hy5 (xL_la0 (by omega)) (xL_pre H11 (by omega) (by omega) s106) (xh_rf A112)
              have ry111 : ∀ i, i < 601 → (-2147483648) ≤ (z9111.getD i 0).toInt ∧ (z9111.getD i 0).toInt ≤ 2147483647 := fun i _ => ⟨(xc_rng _).1, by have := (xc_rng (z9111.getD i 0)).2; omega⟩
              have K113 := xk_pa K107 (xk_wa (by decide +kernel)) xD_7 hz111 ry111 eh111
              show xw J ov 99 95 (104, [(5, .int 30), (4, .int (-20)), (0, .ref 0), (1, .int a12), (2, .int a14), (3, .int a16)], [.int v105], hh111) _
              refine xi_ireturn kc_95_104 mr_95 rfl ?_
              show xw J ov 100 195 (312, [(4, .int x4), (3, .ref 167), (2, .ref 115), (1, .ref 0), (0, .ref 1000000)], [.int v105], hh111) _
              refine xi_pop (pc' := 313) kc_195_312 rfl rfl ?_
              refine xi_aload_n (pc' := 314) (x := 115) kc_195_313 rfl rfl ?_
              refine xi_aload_n (pc' := 315) (x := 1000000) kc_195_314 rfl rfl ?_
              refine xi_iload (pc' := 317) (x := x4) kc_195_315 rfl rfl ?_
              refine xi_iconst (pc' := 318) (v := 1) kc_195_317 rfl rfl ?_
              refine xi_iadd (pc' := 319) (v := v11) kc_195_318 rfl ev11 ?_
              refine xi_ialoadO (pc' := 320) (v := a12) kc_195_319 rfl (by decide) hov0 (xi_in (by omega) (by omega)) ea12 ?_
              refine xi_aload_n (pc' := 321) (x := 1000000) kc_195_320 rfl rfl ?_
              refine xi_iload (pc' := 323) (x := x4) kc_195_321 rfl rfl ?_
              refine xi_iconst (pc' := 324) (v := 2) kc_195_323 rfl rfl ?_
              refine xi_iadd (pc' := 325) (v := v13) kc_195_324 rfl ev13 ?_
              refine xi_ialoadO (pc' := 326) (v := a14) kc_195_325 rfl (by decide) hov0 (xi_in (by omega) (by omega)) ea14 ?_
              refine xi_aload_n (pc' := 327) (x := 1000000) kc_195_326 rfl rfl ?_
              refine xi_iload (pc' := 329) (x := x4) kc_195_327 rfl rfl ?_
              refine xi_iconst (pc' := 330) (v := 3) kc_195_329 rfl rfl ?_
              refine xi_iadd (pc' := 331) (v := v15) kc_195_330 rfl ev15 ?_
              refine xi_ialoadO (pc' := 332) (v := a16) kc_195_331 rfl (by decide) hov0 (xi_in (by omega) (by omega)) ea16 ?_
              obtain ⟨u114, u115, u116, u117, u118, u119, u120, u121, u122, u123, u124, u125, u126, bu114, bu115, bu116, bu117, bu118, bu119, bu120, bu121, bu122, bu123, bu124, bu125, bu126, A127⟩ := xq_115 K.1
              have A128 := ((eh111.2.1 115 (by decide)).trans ((eh106.2.1 115 (by decide)).trans ((eh94.2.1 115 (by decide)).trans A127)))
              refine xi_virtual (mj := 16) (as := [.int a12, .int a14, .int a16]) (st1 := []) (lv0 := [(0, .ref 115), (1, .int a12), (2, .int a14), (3, .int a16)]) kc_195_332 rfl rfl rfl rfl rfl A128 (Nat.le_of_ble_eq_true rfl) (hJ _ _ _ _ (by decide)) (xm_le ml_16 rfl) rfl ?_
              refine xi_aload_n (pc' := 1) (x := 115) kc_16_0 rfl rfl ?_
              refine xi_iconst (pc' := 2) (v := 0) kc_16_1 rfl rfl ?_
              refine xi_putfield (pc' := 5) (fs' := [.int 0, .int u115, .ref 116, .ref 117, .ref 118, .ref 119, .ref 120, .ref 121, .ref 122, .ref 123, .ref 124, .ref 125, .ref 126, .ref 127, .ref 128, .ref 129, .int u116, .ref 130, .int u117, .ref 131, .ref 132, .ref 133, .ref 134, .int u118, .ref 135, .ref 136, .ref 137, .ref 138, .ref 139, .ref 140, .ref 141, .ref 142, .int u119, .int u120, .int u121, .ref 143, .ref 144, .ref 145, .ref 146, .ref 147, .ref 148, .int u122, .ref 149, .ref 150, .ref 151, .int u123, .ref 152, .ref 153, .ref 154, .ref 155, .ref 156, .ref 157, .ref 158, .ref 159, .int u124, .ref 160, .int u125, .ref 161, .ref 162, .ref 163, .ref 164, .int u126, .ref 165, .ref 166]) kc_16_2 rfl rfl rfl A128 rfl rfl rfl (Nat.le_of_ble_eq_true rfl) rfl (fun hh130 eh129 => ?_)
              have K131 := xk_pf (k := 0) (v := 0) K113 (xk_wf (by decide +kernel)) xD_115 A128 rfl (by first | omega | decide) (by first | omega | decide) eh129 rfl
              refine xi_iload_n (pc' := 6) (x := a14) kc_16_5 rfl rfl ?_
              refine xi_iconst (pc' := 7) (v := 0) kc_16_6 rfl rfl ?_
              refine xi_iconst (pc' := 8) (v := 1) kc_16_7 rfl rfl ?_
              refine xi_static (mj := 11) (as := [.int a14, .int 0, .int 1]) (st1 := []) (lv0 := [(0, .int a14), (1, .int 0), (2, .int 1)]) kc_16_8 rfl rfl (Nat.le_of_ble_eq_true rfl) rfl rfl (Nat.le_of_ble_eq_true rfl) (hJ _ _ _ _ (by decide)) (xm_le ml_11 rfl) rfl ?_
              refine xi_iload_n (pc' := 1) (x := a14) kc_11_0 rfl rfl ?_
              refine xi_iload_n (pc' := 2) (x := 0) kc_11_1 rfl rfl ?_
              refine xi_cmf (pc' := 5) kc_11_2 rfl (xc_lt_f (X := a14.toInt) (Y := 0) rfl (by decide) (by omega)) ?_
              refine xi_iload_n (pc' := 6) (x := a14) kc_11_5 rfl rfl ?_
              refine xi_iload_n (pc' := 7) (x := 1) kc_11_6 rfl rfl ?_
              refine xi_cmf (pc' := 10) kc_11_7 rfl (xc_gt_f (X := a14.toInt) (Y := 1) rfl (by decide) (by omega)) ?_
              refine xi_iconst (pc' := 11) (v := 1) kc_11_10 rfl rfl ?_
              refine xi_goto (pc' := 15) kc_11_11 rfl ?_
              refine xi_ireturn kc_11_15 mr_11 rfl ?_
              show xw J ov 99 16 (11, [(0, .ref 115), (1, .int a12), (2, .int a14), (3, .int a16)], [.int 1], hh130) _
              refine xi_ift (pc' := 21) kc_16_11 rfl rfl ?_
              refine xi_iload_n (pc' := 22) (x := a12) kc_16_21 rfl rfl ?_
              refine xi_iff (pc' := 25) kc_16_22 rfl (xc_lt_f (X := a12.toInt) (Y := 0) rfl (by decide) (by omega)) ?_
              refine xi_iload_n (pc' := 26) (x := a16) kc_16_25 rfl rfl ?_
              refine xi_iload_n (pc' := 27) (x := a14) kc_16_26 rfl rfl ?_
              refine xi_iff (pc' := 30) kc_16_27 rfl (xc_ne_f (X := a14.toInt) (Y := 0) rfl (by decide) (by omega)) ?_
              refine xi_bipush (pc' := 32) (v := (-20)) kc_16_30 rfl rfl ?_
              refine xi_goto (pc' := 36) kc_16_32 rfl ?_
              refine xi_cmt (pc' := 46) kc_16_36 rfl (xc_ge_t (X := a16.toInt) (Y := (-20)) rfl (by decide) (by omega)) ?_
              refine xi_iload_n (pc' := 47) (x := a12) kc_16_46 rfl rfl ?_
              refine xi_sipush (pc' := 50) (v := 599) kc_16_47 rfl rfl ?_
              refine xi_cmf (pc' := 53) kc_16_50 rfl (xc_gt_f (X := a12.toInt) (Y := 599) rfl (by decide) (by omega)) ?_
              refine xi_iload_n (pc' := 54) (x := a16) kc_16_53 rfl rfl ?_
              refine xi_iload_n (pc' := 55) (x := a14) kc_16_54 rfl rfl ?_
              refine xi_iff (pc' := 58) kc_16_55 rfl (xc_ne_f (X := a14.toInt) (Y := 0) rfl (by decide) (by omega)) ?_
              refine xi_bipush (pc' := 60) (v := 30) kc_16_58 rfl rfl ?_
              refine xi_goto (pc' := 65) kc_16_60 rfl ?_
              refine xi_cmt (pc' := 81) kc_16_65 rfl (xc_le_t (X := a16.toInt) (Y := 30) rfl (by decide) (by omega)) ?_
              refine xi_iload_n (pc' := 82) (x := a14) kc_16_81 rfl rfl ?_
              refine xi_iff (pc' := 85) kc_16_82 rfl (xc_ne_f (X := a14.toInt) (Y := 0) rfl (by decide) (by omega)) ?_
              refine xi_aload_n (pc' := 86) (x := 115) kc_16_85 rfl rfl ?_
              refine xi_getfield (pc' := 89) (v := .ref 123) kc_16_86 rfl rfl rfl eh129.1 rfl ?_
              refine xi_iload_n (pc' := 90) (x := a12) kc_16_89 rfl rfl ?_
              have A132 := ((eh129.2.1 123 (by decide)).trans ((eh111.2.1 123 (by decide)).trans ((eh106.2.1 123 (by decide)).trans ((eh94.2.1 123 (by decide)).trans A2))))
              refine xi_iaload (pc' := 91) (v := v105) kc_16_90 rfl A132 (by decide) rfl (xi_in (by omega) (by rw [hy2]; omega)) (xE_ld H9 (by first | omega | decide) (by first | omega | decide) (by omega) ev105) ?_
              refine xi_goto (pc' := 100) kc_16_91 rfl ?_
              refine xi_istore (pc' := 102) (lv' := [(4, .int v105), (0, .ref 115), (1, .int a12), (2, .int a14), (3, .int a16)]) kc_16_100 rfl rfl (xm_lt ml_16 rfl) ?_
              refine xi_aload_n (pc' := 103) (x := 115) kc_16_102 rfl rfl ?_
              refine xi_getfield (pc' := 106) (v := .ref 123) kc_16_103 rfl rfl rfl eh129.1 rfl ?_
              refine xi_iload_n (pc' := 107) (x := a12) kc_16_106 rfl rfl ?_
              refine xi_iload_n (pc' := 108) (x := a14) kc_16_107 rfl rfl ?_
              refine xi_iff (pc' := 111) kc_16_108 rfl (xc_ne_f (X := a14.toInt) (Y := 0) rfl (by decide) (by omega)) ?_
              refine xi_iload_n (pc' := 112) (x := a16) kc_16_111 rfl rfl ?_
              refine xi_goto (pc' := 121) kc_16_112 rfl ?_
              obtain ⟨y133, s133, hy133, ry133⟩ := xj_set (v := a16) hy2 ry2 a12 (by first | omega | decide) (by first | omega | decide)
              refine xi_iastore (pc' := 122) (x' := y133) kc_16_121 rfl A132 rfl (xi_in (by omega) (by rw [hy2]; omega)) s133 (fun hh133 eh133 => ?_)
              have K134 := xk_pa K131 (xk_wa (by decide +kernel)) xD_123 hy133 ry133 eh133
              refine xi_aload_n (pc' := 123) (x := 115) kc_16_122 rfl rfl ?_
              have A135 := ((eh133.2.1 115 (by decide)).trans eh129.1)
              refine xi_getfield (pc' := 126) (v := .ref 124) kc_16_123 rfl rfl rfl A135 rfl ?_
              refine xi_iload_n (pc' := 127) (x := a12) kc_16_126 rfl rfl ?_
              refine xi_iload_n (pc' := 128) (x := a14) kc_16_127 rfl rfl ?_
              refine xi_iconst (pc' := 129) (v := 1) kc_16_128 rfl rfl ?_
              refine xi_cmt (pc' := 136) kc_16_129 rfl (xc_ne_t (X := a14.toInt) (Y := 1) rfl (by decide) (by omega)) ?_
              refine xi_aload_n (pc' := 137) (x := 115) kc_16_136 rfl rfl ?_
              refine xi_getfield (pc' := 140) (v := .ref 124) kc_16_137 rfl rfl rfl A135 rfl ?_
              refine xi_iload_n (pc' := 141) (x := a12) kc_16_140 rfl rfl ?_
              obtain ⟨v136, ev136, bv136, dv136⟩ := xj_get hy4 ry4 (i := a12) (by omega) (by omega)
              have A137 := ((eh133.2.1 124 (by decide)).trans ((eh129.2.1 124 (by decide)).trans ((eh111.2.1 124 (by decide)).trans ((eh106.2.1 124 (by decide)).trans ((eh94.2.1 124 (by decide)).trans A4)))))
              refine xi_iaload (pc' := 142) (v := v136) kc_16_141 rfl A137 (by decide) rfl (xi_in (by omega) (by rw [hy4]; omega)) ev136 ?_
              obtain ⟨y138, s138, hy138, ry138⟩ := xj_set (v := v136) hy4 ry4 a12 (by first | omega | decide) (by first | omega | decide)
              refine xi_iastore (pc' := 143) (x' := y138) kc_16_142 rfl A137 rfl (xi_in (by omega) (by rw [hy4]; omega)) s138 (fun hh138 eh138 => ?_)
              have K139 := xk_pa K134 (xk_wa (by decide +kernel)) xD_124 hy138 ry138 eh138
              refine xi_aload_n (pc' := 144) (x := 115) kc_16_143 rfl rfl ?_
              refine xi_iconst (pc' := 145) (v := 0) kc_16_144 rfl rfl ?_
              have A140 := ((eh138.2.1 115 (by decide)).trans A135)
              refine xi_putfield (pc' := 148) (fs' := [.int 0, .int u115, .ref 116, .ref 117, .ref 118, .ref 119, .ref 120, .ref 121, .ref 122, .ref 123, .ref 124, .ref 125, .ref 126, .ref 127, .ref 128, .ref 129, .int u116, .ref 130, .int u117, .ref 131, .ref 132, .ref 133, .ref 134, .int u118, .ref 135, .ref 136, .ref 137, .ref 138, .ref 139, .ref 140, .ref 141, .ref 142, .int u119, .int u120, .int u121, .ref 143, .ref 144, .ref 145, .ref 146, .ref 147, .ref 148, .int 0, .ref 149, .ref 150, .ref 151, .int u123, .ref 152, .ref 153, .ref 154, .ref 155, .ref 156, .ref 157, .ref 158, .ref 159, .int u124, .ref 160, .int u125, .ref 161, .ref 162, .ref 163, .ref 164, .int u126, .ref 165, .ref 166]) kc_16_145 rfl rfl rfl A140 rfl rfl rfl (Nat.le_of_ble_eq_true rfl) rfl (fun hh142 eh141 => ?_)
              have K143 := xk_pf (k := 41) (v := 0) K139 (xk_wf (by decide +kernel)) xD_115 A140 rfl (by first | omega | decide) (by first | omega | decide) eh141 rfl
              refine xi_iload (pc' := 150) (x := v105) kc_16_148 rfl rfl ?_
              refine xi_ireturn kc_16_150 mr_16 rfl ?_
              show xw J ov 100 195 (335, [(4, .int x4), (3, .ref 167), (2, .ref 115), (1, .ref 0), (0, .ref 1000000)], [.int v105], hh142) _
              refine xi_pop (pc' := 336) kc_195_335 rfl rfl ?_
              refine xi_goto (pc' := 1501) kc_195_336 rfl ?_
              obtain ⟨v144, ev144⟩ : ∃ q : Int32, x4 + 6 = q := ⟨_, rfl⟩
              have zv144 : v144.toInt = (x4.toInt + 6) := by rw [← ev144]; exact (xz_add (X := x4.toInt) (Y := 6) rfl (by decide) (by omega) (by omega)).trans (by omega)
              refine xi_iinc (pc' := 1504) (x := x4) (v := v144) (lv' := [(4, .int v144), (3, .ref 167), (2, .ref 115), (1, .ref 0), (0, .ref 1000000)]) kc_195_1501 rfl rfl ev144 rfl (xm_lt ml_195 rfl) ?_
              refine xi_goto (pc' := 23) kc_195_1504 rfl ?_
              have A145 := ((eh141.2.1 6 (by decide)).trans ((eh138.2.1 6 (by decide)).trans ((eh133.2.1 6 (by decide)).trans ((eh129.2.1 6 (by decide)).trans ((eh111.2.1 6 (by decide)).trans eh106.1)))))
              have A146 := ((eh141.2.1 123 (by decide)).trans ((eh138.2.1 123 (by decide)).trans eh133.1))
              have A147 := ((eh141.2.1 9 (by decide)).trans ((eh138.2.1 9 (by decide)).trans ((eh133.2.1 9 (by decide)).trans ((eh129.2.1 9 (by decide)).trans ((eh111.2.1 9 (by decide)).trans ((eh106.2.1 9 (by decide)).trans ((eh94.2.1 9 (by decide)).trans A3)))))))
              have A148 := ((eh141.2.1 124 (by decide)).trans eh138.1)
              have A149 := ((eh141.2.1 7 (by decide)).trans ((eh138.2.1 7 (by decide)).trans ((eh133.2.1 7 (by decide)).trans ((eh129.2.1 7 (by decide)).trans eh111.1))))
              have A150 := ((eh141.2.1 10 (by decide)).trans ((eh138.2.1 10 (by decide)).trans ((eh133.2.1 10 (by decide)).trans ((eh129.2.1 10 (by decide)).trans ((eh111.2.1 10 (by decide)).trans ((eh106.2.1 10 (by decide)).trans ((eh94.2.1 10 (by decide)).trans A6)))))))
              have A151 := ((eh141.2.1 5 (by decide)).trans ((eh138.2.1 5 (by decide)).trans ((eh133.2.1 5 (by decide)).trans ((eh129.2.1 5 (by decide)).trans ((eh111.2.1 5 (by decide)).trans A109)))))
              have A152 := ((eh141.2.1 8 (by decide)).trans ((eh138.2.1 8 (by decide)).trans ((eh133.2.1 8 (by decide)).trans ((eh129.2.1 8 (by decide)).trans ((eh111.2.1 8 (by decide)).trans ((eh106.2.1 8 (by decide)).trans ((eh94.2.1 8 (by decide)).trans A10)))))))
              exact kk v144 hh142 (by omega) K143 ⟨((K143.2.1 (0, 9) (by decide +kernel)).trans (I.1.trans (K143.2.1 (115, 1) (by decide +kernel)).symm)), (xWW_fr I.2.1 (K143.2.1 (64, 0) (by decide +kernel)) (K143.2.1 (121, 0) (by decide +kernel))), (xSG_fr I.2.2.1 (fun l hl => K143.2.1 l (xk_el (by decide +kernel) hl))), (by rw [(K143.2.1 (13, 0) (by decide +kernel)), (K143.2.1 (122, 0) (by decide +kernel))]; exact I.2.2.2.1), (by rw [(K143.2.1 (16, 0) (by decide +kernel)), (K143.2.1 (122, 0) (by decide +kernel))]; exact I.2.2.2.2.1), (by rw [(K143.2.1 (19, 0) (by decide +kernel)), (K143.2.1 (122, 0) (by decide +kernel))]; exact I.2.2.2.2.2.1), (by rw [(K143.2.1 (22, 0) (by decide +kernel)), (K143.2.1 (122, 0) (by decide +kernel))]; exact I.2.2.2.2.2.2.1), (by rw [(K143.2.1 (25, 0) (by decide +kernel)), (K143.2.1 (122, 0) (by decide +kernel))]; exact I.2.2.2.2.2.2.2.1), (by rw [(K143.2.1 (28, 0) (by decide +kernel)), (K143.2.1 (122, 0) (by decide +kernel))]; exact I.2.2.2.2.2.2.2.2.1), (xE_mk A145 A146 (xE_set H9 (by first | omega | decide) (by omega) (by omega) (by omega) s106 s133)), (xE_mk A147 A148 (xE_id H10 ev136 s138)), (xL_mk A149 A145 HL111), (xL_mk A150 A147 H12), (xl_of A151 rfl), (xl_of A152 rfl), (xGR_fr I.2.2.2.2.2.2.2.2.2.2.2.2.2.2.2.1 K143.2.1 (by decide +kernel) (by decide +kernel)), (xGR_fr I.2.2.2.2.2.2.2.2.2.2.2.2.2.2.2.2.1 K143.2.1 (by decide +kernel) (by decide +kernel)), ((K143.2.1 (1, 5) (by decide +kernel)).trans (I.2.2.2.2.2.2.2.2.2.2.2.2.2.2.2.2.2.1.trans (K143.2.1 (115, 23) (by decide +kernel)).symm)), (xGR_fr I.2.2.2.2.2.2.2.2.2.2.2.2.2.2.2.2.2.2.1 K143.2.1 (by decide +kernel) (by decide +kernel)), (xGR_fr I.2.2.2.2.2.2.2.2.2.2.2.2.2.2.2.2.2.2.2.1 K143.2.1 (by decide +kernel) (by decide +kernel)), (xGR_fr I.2.2.2.2.2.2.2.2.2.2.2.2.2.2.2.2.2.2.2.2.1 K143.2.1 (by decide +kernel) (by decide +kernel)), (xGR_fr I.2.2.2.2.2.2.2.2.2.2.2.2.2.2.2.2.2.2.2.2.2.1 K143.2.1 (by decide +kernel) (by decide +kernel)), (by rw [(K143.2.1 (63, 2) (by decide +kernel)), (K143.2.1 (139, 0) (by decide +kernel)), (K143.2.1 (1, 5) (by decide +kernel))]; exact I.2.2.2.2.2.2.2.2.2.2.2.2.2.2.2.2.2.2.2.2.2.2.1), ((K143.2.1 (0, 8) (by decide +kernel)).trans (I.2.2.2.2.2.2.2.2.2.2.2.2.2.2.2.2.2.2.2.2.2.2.2.1.trans (K143.2.1 (115, 34) (by decide +kernel)).symm)), (xGR_fr I.2.2.2.2.2.2.2.2.2.2.2.2.2.2.2.2.2.2.2.2.2.2.2.2.1 K143.2.1 (by decide +kernel) (by decide +kernel)), (xGR_fr I.2.2.2.2.2.2.2.2.2.2.2.2.2.2.2.2.2.2.2.2.2.2.2.2.2.1 K143.2.1 (by decide +kernel) (by decide +kernel)), (xGR_fr I.2.2.2.2.2.2.2.2.2.2.2.2.2.2.2.2.2.2.2.2.2.2.2.2.2.2.1 K143.2.1 (by decide +kernel) (by decide +kernel)), (xGR_fr I.2.2.2.2.2.2.2.2.2.2.2.2.2.2.2.2.2.2.2.2.2.2.2.2.2.2.2.1 K143.2.1 (by decide +kernel) (by decide +kernel)), (xts_fr I.2.2.2.2.2.2.2.2.2.2.2.2.2.2.2.2.2.2.2.2.2.2.2.2.2.2.2.2.1 (fun l hl => K143.2.1 l (xk_el (by decide +kernel) hl))), ((K143.2.1 (63, 3) (by decide +kernel)).trans I.2.2.2.2.2.2.2.2.2.2.2.2.2.2.2.2.2.2.2.2.2.2.2.2.2.2.2.2.2)⟩
            · refine xi_iff (pc' := 4) kc_99_1 rfl (xc_lt_f (X := (a12.toInt + (-1))) (Y := 0) zv108 (by decide) (by omega)) ?_
              refine xi_iload_n (pc' := 5) (x := v108) kc_99_4 rfl rfl ?_
              refine xi_aload_n (pc' := 6) (x := 5) kc_99_5 rfl rfl ?_
              refine xi_getfield (pc' := 9) (v := .ref 7) kc_99_6 rfl rfl rfl A109 rfl ?_
              have A153 := ((eh106.2.1 7 (by decide)).trans ((eh94.2.1 7 (by decide)).trans A5))
              refine xi_arraylength (pc' := 10) (n := 601) (v := 601) kc_99_9 rfl (xl_lenI (by decide) (by decide) A153 hy5) rfl ?_
              refine xi_cmt (pc' := 20) kc_99_10 rfl (xc_lt_t (X := (a12.toInt + (-1))) (Y := 601) zv108 (by decide) (by omega)) ?_
              refine xi_aload_n (pc' := 21) (x := 5) kc_99_20 rfl rfl ?_
              refine xi_getfield (pc' := 24) (v := .ref 7) kc_99_21 rfl rfl rfl A109 rfl ?_
              refine xi_iload_n (pc' := 25) (x := v108) kc_99_24 rfl rfl ?_
              obtain ⟨v154, ev154, bv154, dv154⟩ := xj_get hy5 ry5 (i := v108) (by rw [zv108]; omega) (by rw [zv108]; omega)
              refine xi_iaload (pc' := 26) (v := v154) kc_99_25 rfl A153 (by decide) rfl (xi_in (by rw [zv108]; omega) (by rw [hy5]; rw [zv108]; omega)) ev154 ?_
              refine xi_ireturn kc_99_26 mr_99 rfl ?_
              show xw J ov 98 98 (37, [(3, .int v105), (0, .ref 5), (1, .int a12), (2, .int a16)], [.int v154], hh106) _
              refine xi_istore (pc' := 39) (lv' := [(4, .int v154), (3, .int v105), (0, .ref 5), (1, .int a12), (2, .int a16)]) kc_98_37 rfl rfl (xm_lt ml_98 rfl) ?_
              refine xi_iload_n (pc' := 40) (x := a12) kc_98_39 rfl rfl ?_
              refine xi_istore (pc' := 42) (lv' := [(5, .int a12), (4, .int v154), (3, .int v105), (0, .ref 5), (1, .int a12), (2, .int a16)]) kc_98_40 rfl rfl (xm_lt ml_98 rfl) ?_
              refine xw_lv (b := [(0, .ref 5), (3, .int v105), (4, .int v154), (5, .int a12)]) (lvS_cons (lvS_cons (lvS_cons (lvS_cons (lvS_nil (show ([5, 4, 3, 0, 1, 2] : List Nat).Nodup by decide)) rfl) rfl) rfl) rfl) ?_
              refine xw_tell (o := 5) (t := 6) (c := 7) (hb := hh106) (f := 5) (was := v105) (by decide) (by decide) (by decide) A109 rfl rfl eh106.1 hy106 (fun z9155 hh155 hz155 HL155 eh155 => ?_) 602 a12 v154 y5 hh106 (by omega) (by omega) (by omega) hy5 (xL_la (w := v108) H11 (by omega) (by omega) (by omega) (by omega) s106 ev154) (xL_pre H11 (by omega) (by omega) s106) (xh_rf A153)
              have ry155 : ∀ i, i < 601 → (-2147483648) ≤ (z9155.getD i 0).toInt ∧ (z9155.getD i 0).toInt ≤ 2147483647 := fun i _ => ⟨(xc_rng _).1, by have := (xc_rng (z9155.getD i 0)).2; omega⟩
              have K156 := xk_pa K107 (xk_wa (by decide +kernel)) xD_7 hz155 ry155 eh155
              show xw J ov 99 95 (104, [(5, .int 30), (4, .int (-20)), (0, .ref 0), (1, .int a12), (2, .int a14), (3, .int a16)], [.int v105], hh155) _
              refine xi_ireturn kc_95_104 mr_95 rfl ?_
              show xw J ov 100 195 (312, [(4, .int x4), (3, .ref 167), (2, .ref 115), (1, .ref 0), (0, .ref 1000000)], [.int v105], hh155) _
              refine xi_pop (pc' := 313) kc_195_312 rfl rfl ?_
              refine xi_aload_n (pc' := 314) (x := 115) kc_195_313 rfl rfl ?_
              refine xi_aload_n (pc' := 315) (x := 1000000) kc_195_314 rfl rfl ?_
              refine xi_iload (pc' := 317) (x := x4) kc_195_315 rfl rfl ?_
              refine xi_iconst (pc' := 318) (v := 1) kc_195_317 rfl rfl ?_
              refine xi_iadd (pc' := 319) (v := v11) kc_195_318 rfl ev11 ?_
              refine xi_ialoadO (pc' := 320) (v := a12) kc_195_319 rfl (by decide) hov0 (xi_in (by omega) (by omega)) ea12 ?_
              refine xi_aload_n (pc' := 321) (x := 1000000) kc_195_320 rfl rfl ?_
              refine xi_iload (pc' := 323) (x := x4) kc_195_321 rfl rfl ?_
              refine xi_iconst (pc' := 324) (v := 2) kc_195_323 rfl rfl ?_
              refine xi_iadd (pc' := 325) (v := v13) kc_195_324 rfl ev13 ?_
              refine xi_ialoadO (pc' := 326) (v := a14) kc_195_325 rfl (by decide) hov0 (xi_in (by omega) (by omega)) ea14 ?_
              refine xi_aload_n (pc' := 327) (x := 1000000) kc_195_326 rfl rfl ?_
              refine xi_iload (pc' := 329) (x := x4) kc_195_327 rfl rfl ?_
              refine xi_iconst (pc' := 330) (v := 3) kc_195_329 rfl rfl ?_
              refine xi_iadd (pc' := 331) (v := v15) kc_195_330 rfl ev15 ?_
              refine xi_ialoadO (pc' := 332) (v := a16) kc_195_331 rfl (by decide) hov0 (xi_in (by omega) (by omega)) ea16 ?_
              obtain ⟨u157, u158, u159, u160, u161, u162, u163, u164, u165, u166, u167, u168, u169, bu157, bu158, bu159, bu160, bu161, bu162, bu163, bu164, bu165, bu166, bu167, bu168, bu169, A170⟩ := xq_115 K.1
              have A171 := ((eh155.2.1 115 (by decide)).trans ((eh106.2.1 115 (by decide)).trans ((eh94.2.1 115 (by decide)).trans A170)))
              refine xi_virtual (mj := 16) (as := [.int a12, .int a14, .int a16]) (st1 := []) (lv0 := [(0, .ref 115), (1, .int a12), (2, .int a14), (3, .int a16)]) kc_195_332 rfl rfl rfl rfl rfl A171 (Nat.le_of_ble_eq_true rfl) (hJ _ _ _ _ (by decide)) (xm_le ml_16 rfl) rfl ?_
              refine xi_aload_n (pc' := 1) (x := 115) kc_16_0 rfl rfl ?_
              refine xi_iconst (pc' := 2) (v := 0) kc_16_1 rfl rfl ?_
              refine xi_putfield (pc' := 5) (fs' := [.int 0, .int u158, .ref 116, .ref 117, .ref 118, .ref 119, .ref 120, .ref 121, .ref 122, .ref 123, .ref 124, .ref 125, .ref 126, .ref 127, .ref 128, .ref 129, .int u159, .ref 130, .int u160, .ref 131, .ref 132, .ref 133, .ref 134, .int u161, .ref 135, .ref 136, .ref 137, .ref 138, .ref 139, .ref 140, .ref 141, .ref 142, .int u162, .int u163, .int u164, .ref 143, .ref 144, .ref 145, .ref 146, .ref 147, .ref 148, .int u165, .ref 149, .ref 150, .ref 151, .int u166, .ref 152, .ref 153, .ref 154, .ref 155, .ref 156, .ref 157, .ref 158, .ref 159, .int u167, .ref 160, .int u168, .ref 161, .ref 162, .ref 163, .ref 164, .int u169, .ref 165, .ref 166]) kc_16_2 rfl rfl rfl A171 rfl rfl rfl (Nat.le_of_ble_eq_true rfl) rfl (fun hh173 eh172 => ?_)
              have K174 := xk_pf (k := 0) (v := 0) K156 (xk_wf (by decide +kernel)) xD_115 A171 rfl (by first | omega | decide) (by first | omega | decide) eh172 rfl
              refine xi_iload_n (pc' := 6) (x := a14) kc_16_5 rfl rfl ?_
              refine xi_iconst (pc' := 7) (v := 0) kc_16_6 rfl rfl ?_
              refine xi_iconst (pc' := 8) (v := 1) kc_16_7 rfl rfl ?_
              refine xi_static (mj := 11) (as := [.int a14, .int 0, .int 1]) (st1 := []) (lv0 := [(0, .int a14), (1, .int 0), (2, .int 1)]) kc_16_8 rfl rfl (Nat.le_of_ble_eq_true rfl) rfl rfl (Nat.le_of_ble_eq_true rfl) (hJ _ _ _ _ (by decide)) (xm_le ml_11 rfl) rfl ?_
              refine xi_iload_n (pc' := 1) (x := a14) kc_11_0 rfl rfl ?_
              refine xi_iload_n (pc' := 2) (x := 0) kc_11_1 rfl rfl ?_
              refine xi_cmf (pc' := 5) kc_11_2 rfl (xc_lt_f (X := a14.toInt) (Y := 0) rfl (by decide) (by omega)) ?_
              refine xi_iload_n (pc' := 6) (x := a14) kc_11_5 rfl rfl ?_
              refine xi_iload_n (pc' := 7) (x := 1) kc_11_6 rfl rfl ?_
              refine xi_cmf (pc' := 10) kc_11_7 rfl (xc_gt_f (X := a14.toInt) (Y := 1) rfl (by decide) (by omega)) ?_
              refine xi_iconst (pc' := 11) (v := 1) kc_11_10 rfl rfl ?_
              refine xi_goto (pc' := 15) kc_11_11 rfl ?_
              refine xi_ireturn kc_11_15 mr_11 rfl ?_
              show xw J ov 99 16 (11, [(0, .ref 115), (1, .int a12), (2, .int a14), (3, .int a16)], [.int 1], hh173) _
              refine xi_ift (pc' := 21) kc_16_11 rfl rfl ?_
              refine xi_iload_n (pc' := 22) (x := a12) kc_16_21 rfl rfl ?_
              refine xi_iff (pc' := 25) kc_16_22 rfl (xc_lt_f (X := a12.toInt) (Y := 0) rfl (by decide) (by omega)) ?_
              refine xi_iload_n (pc' := 26) (x := a16) kc_16_25 rfl rfl ?_
              refine xi_iload_n (pc' := 27) (x := a14) kc_16_26 rfl rfl ?_
              refine xi_iff (pc' := 30) kc_16_27 rfl (xc_ne_f (X := a14.toInt) (Y := 0) rfl (by decide) (by omega)) ?_
              refine xi_bipush (pc' := 32) (v := (-20)) kc_16_30 rfl rfl ?_
              refine xi_goto (pc' := 36) kc_16_32 rfl ?_
              refine xi_cmt (pc' := 46) kc_16_36 rfl (xc_ge_t (X := a16.toInt) (Y := (-20)) rfl (by decide) (by omega)) ?_
              refine xi_iload_n (pc' := 47) (x := a12) kc_16_46 rfl rfl ?_
              refine xi_sipush (pc' := 50) (v := 599) kc_16_47 rfl rfl ?_
              refine xi_cmf (pc' := 53) kc_16_50 rfl (xc_gt_f (X := a12.toInt) (Y := 599) rfl (by decide) (by omega)) ?_
              refine xi_iload_n (pc' := 54) (x := a16) kc_16_53 rfl rfl ?_
              refine xi_iload_n (pc' := 55) (x := a14) kc_16_54 rfl rfl ?_
              refine xi_iff (pc' := 58) kc_16_55 rfl (xc_ne_f (X := a14.toInt) (Y := 0) rfl (by decide) (by omega)) ?_
              refine xi_bipush (pc' := 60) (v := 30) kc_16_58 rfl rfl ?_
              refine xi_goto (pc' := 65) kc_16_60 rfl ?_
              refine xi_cmt (pc' := 81) kc_16_65 rfl (xc_le_t (X := a16.toInt) (Y := 30) rfl (by decide) (by omega)) ?_
              refine xi_iload_n (pc' := 82) (x := a14) kc_16_81 rfl rfl ?_
              refine xi_iff (pc' := 85) kc_16_82 rfl (xc_ne_f (X := a14.toInt) (Y := 0) rfl (by decide) (by omega)) ?_
              refine xi_aload_n (pc' := 86) (x := 115) kc_16_85 rfl rfl ?_
              refine xi_getfield (pc' := 89) (v := .ref 123) kc_16_86 rfl rfl rfl eh172.1 rfl ?_
              refine xi_iload_n (pc' := 90) (x := a12) kc_16_89 rfl rfl ?_
              have A175 := ((eh172.2.1 123 (by decide)).trans ((eh155.2.1 123 (by decide)).trans ((eh106.2.1 123 (by decide)).trans ((eh94.2.1 123 (by decide)).trans A2))))
              refine xi_iaload (pc' := 91) (v := v105) kc_16_90 rfl A175 (by decide) rfl (xi_in (by omega) (by rw [hy2]; omega)) (xE_ld H9 (by first | omega | decide) (by first | omega | decide) (by omega) ev105) ?_
              refine xi_goto (pc' := 100) kc_16_91 rfl ?_
              refine xi_istore (pc' := 102) (lv' := [(4, .int v105), (0, .ref 115), (1, .int a12), (2, .int a14), (3, .int a16)]) kc_16_100 rfl rfl (xm_lt ml_16 rfl) ?_
              refine xi_aload_n (pc' := 103) (x := 115) kc_16_102 rfl rfl ?_
              refine xi_getfield (pc' := 106) (v := .ref 123) kc_16_103 rfl rfl rfl eh172.1 rfl ?_
              refine xi_iload_n (pc' := 107) (x := a12) kc_16_106 rfl rfl ?_
              refine xi_iload_n (pc' := 108) (x := a14) kc_16_107 rfl rfl ?_
              refine xi_iff (pc' := 111) kc_16_108 rfl (xc_ne_f (X := a14.toInt) (Y := 0) rfl (by decide) (by omega)) ?_
              refine xi_iload_n (pc' := 112) (x := a16) kc_16_111 rfl rfl ?_
              refine xi_goto (pc' := 121) kc_16_112 rfl ?_
              obtain ⟨y176, s176, hy176, ry176⟩ := xj_set (v := a16) hy2 ry2 a12 (by first | omega | decide) (by first | omega | decide)
              refine xi_iastore (pc' := 122) (x' := y176) kc_16_121 rfl A175 rfl (xi_in (by omega) (by rw [hy2]; omega)) s176 (fun hh176 eh176 => ?_)
              have K177 := xk_pa K174 (xk_wa (by decide +kernel)) xD_123 hy176 ry176 eh176
              refine xi_aload_n (pc' := 123) (x := 115) kc_16_122 rfl rfl ?_
              have A178 := ((eh176.2.1 115 (by decide)).trans eh172.1)
              refine xi_getfield (pc' := 126) (v := .ref 124) kc_16_123 rfl rfl rfl A178 rfl ?_
              refine xi_iload_n (pc' := 127) (x := a12) kc_16_126 rfl rfl ?_
              refine xi_iload_n (pc' := 128) (x := a14) kc_16_127 rfl rfl ?_
              refine xi_iconst (pc' := 129) (v := 1) kc_16_128 rfl rfl ?_
              refine xi_cmt (pc' := 136) kc_16_129 rfl (xc_ne_t (X := a14.toInt) (Y := 1) rfl (by decide) (by omega)) ?_
              refine xi_aload_n (pc' := 137) (x := 115) kc_16_136 rfl rfl ?_
              refine xi_getfield (pc' := 140) (v := .ref 124) kc_16_137 rfl rfl rfl A178 rfl ?_
              refine xi_iload_n (pc' := 141) (x := a12) kc_16_140 rfl rfl ?_
              obtain ⟨v179, ev179, bv179, dv179⟩ := xj_get hy4 ry4 (i := a12) (by omega) (by omega)
              have A180 := ((eh176.2.1 124 (by decide)).trans ((eh172.2.1 124 (by decide)).trans ((eh155.2.1 124 (by decide)).trans ((eh106.2.1 124 (by decide)).trans ((eh94.2.1 124 (by decide)).trans A4)))))
              refine xi_iaload (pc' := 142) (v := v179) kc_16_141 rfl A180 (by decide) rfl (xi_in (by omega) (by rw [hy4]; omega)) ev179 ?_
              obtain ⟨y181, s181, hy181, ry181⟩ := xj_set (v := v179) hy4 ry4 a12 (by first | omega | decide) (by first | omega | decide)
              refine xi_iastore (pc' := 143) (x' := y181) kc_16_142 rfl A180 rfl (xi_in (by omega) (by rw [hy4]; omega)) s181 (fun hh181 eh181 => ?_)
              have K182 := xk_pa K177 (xk_wa (by decide +kernel)) xD_124 hy181 ry181 eh181
              refine xi_aload_n (pc' := 144) (x := 115) kc_16_143 rfl rfl ?_
              refine xi_iconst (pc' := 145) (v := 0) kc_16_144 rfl rfl ?_
              have A183 := ((eh181.2.1 115 (by decide)).trans A178)
              refine xi_putfield (pc' := 148) (fs' := [.int 0, .int u158, .ref 116, .ref 117, .ref 118, .ref 119, .ref 120, .ref 121, .ref 122, .ref 123, .ref 124, .ref 125, .ref 126, .ref 127, .ref 128, .ref 129, .int u159, .ref 130, .int u160, .ref 131, .ref 132, .ref 133, .ref 134, .int u161, .ref 135, .ref 136, .ref 137, .ref 138, .ref 139, .ref 140, .ref 141, .ref 142, .int u162, .int u163, .int u164, .ref 143, .ref 144, .ref 145, .ref 146, .ref 147, .ref 148, .int 0, .ref 149, .ref 150, .ref 151, .int u166, .ref 152, .ref 153, .ref 154, .ref 155, .ref 156, .ref 157, .ref 158, .ref 159, .int u167, .ref 160, .int u168, .ref 161, .ref 162, .ref 163, .ref 164, .int u169, .ref 165, .ref 166]) kc_16_145 rfl rfl rfl A183 rfl rfl rfl (Nat.le_of_ble_eq_true rfl) rfl (fun hh185 eh184 => ?_)
              have K186 := xk_pf (k := 41) (v := 0) K182 (xk_wf (by decide +kernel)) xD_115 A183 rfl (by first | omega | decide) (by first | omega | decide) eh184 rfl
              refine xi_iload (pc' := 150) (x := v105) kc_16_148 rfl rfl ?_
              refine xi_ireturn kc_16_150 mr_16 rfl ?_
              show xw J ov 100 195 (335, [(4, .int x4), (3, .ref 167), (2, .ref 115), (1, .ref 0), (0, .ref 1000000)], [.int v105], hh185) _
              refine xi_pop (pc' := 336) kc_195_335 rfl rfl ?_
              refine xi_goto (pc' := 1501) kc_195_336 rfl ?_
              obtain ⟨v187, ev187⟩ : ∃ q : Int32, x4 + 6 = q := ⟨_, rfl⟩
              have zv187 : v187.toInt = (x4.toInt + 6) := by rw [← ev187]; exact (xz_add (X := x4.toInt) (Y := 6) rfl (by decide) (by omega) (by omega)).trans (by omega)
              refine xi_iinc (pc' := 1504) (x := x4) (v := v187) (lv' := [(4, .int v187), (3, .ref 167), (2, .ref 115), (1, .ref 0), (0, .ref 1000000)]) kc_195_1501 rfl rfl ev187 rfl (xm_lt ml_195 rfl) ?_
              refine xi_goto (pc' := 23) kc_195_1504 rfl ?_
              have A188 := ((eh184.2.1 6 (by decide)).trans ((eh181.2.1 6 (by decide)).trans ((eh176.2.1 6 (by decide)).trans ((eh172.2.1 6 (by decide)).trans ((eh155.2.1 6 (by decide)).trans eh106.1)))))
              have A189 := ((eh184.2.1 123 (by decide)).trans ((eh181.2.1 123 (by decide)).trans eh176.1))
              have A190 := ((eh184.2.1 9 (by decide)).trans ((eh181.2.1 9 (by decide)).trans ((eh176.2.1 9 (by decide)).trans ((eh172.2.1 9 (by decide)).trans ((eh155.2.1 9 (by decide)).trans ((eh106.2.1 9 (by decide)).trans ((eh94.2.1 9 (by decide)).trans A3)))))))
              have A191 := ((eh184.2.1 124 (by decide)).trans eh181.1)
              have A192 := ((eh184.2.1 7 (by decide)).trans ((eh181.2.1 7 (by decide)).trans ((eh176.2.1 7 (by decide)).trans ((eh172.2.1 7 (by decide)).trans eh155.1))))
              have A193 := ((eh184.2.1 10 (by decide)).trans ((eh181.2.1 10 (by decide)).trans ((eh176.2.1 10 (by decide)).trans ((eh172.2.1 10 (by decide)).trans ((eh155.2.1 10 (by decide)).trans ((eh106.2.1 10 (by decide)).trans ((eh94.2.1 10 (by decide)).trans A6)))))))
              have A194 := ((eh184.2.1 5 (by decide)).trans ((eh181.2.1 5 (by decide)).trans ((eh176.2.1 5 (by decide)).trans ((eh172.2.1 5 (by decide)).trans ((eh155.2.1 5 (by decide)).trans A109)))))
              have A195 := ((eh184.2.1 8 (by decide)).trans ((eh181.2.1 8 (by decide)).trans ((eh176.2.1 8 (by decide)).trans ((eh172.2.1 8 (by decide)).trans ((eh155.2.1 8 (by decide)).trans ((eh106.2.1 8 (by decide)).trans ((eh94.2.1 8 (by decide)).trans A10)))))))
              exact kk v187 hh185 (by omega) K186 ⟨((K186.2.1 (0, 9) (by decide +kernel)).trans (I.1.trans (K186.2.1 (115, 1) (by decide +kernel)).symm)), (xWW_fr I.2.1 (K186.2.1 (64, 0) (by decide +kernel)) (K186.2.1 (121, 0) (by decide +kernel))), (xSG_fr I.2.2.1 (fun l hl => K186.2.1 l (xk_el (by decide +kernel) hl))), (by rw [(K186.2.1 (13, 0) (by decide +kernel)), (K186.2.1 (122, 0) (by decide +kernel))]; exact I.2.2.2.1), (by rw [(K186.2.1 (16, 0) (by decide +kernel)), (K186.2.1 (122, 0) (by decide +kernel))]; exact I.2.2.2.2.1), (by rw [(K186.2.1 (19, 0) (by decide +kernel)), (K186.2.1 (122, 0) (by decide +kernel))]; exact I.2.2.2.2.2.1), (by rw [(K186.2.1 (22, 0) (by decide +kernel)), (K186.2.1 (122, 0) (by decide +kernel))]; exact I.2.2.2.2.2.2.1), (by rw [(K186.2.1 (25, 0) (by decide +kernel)), (K186.2.1 (122, 0) (by decide +kernel))]; exact I.2.2.2.2.2.2.2.1), (by rw [(K186.2.1 (28, 0) (by decide +kernel)), (K186.2.1 (122, 0) (by decide +kernel))]; exact I.2.2.2.2.2.2.2.2.1), (xE_mk A188 A189 (xE_set H9 (by first | omega | decide) (by omega) (by omega) (by omega) s106 s176)), (xE_mk A190 A191 (xE_id H10 ev179 s181)), (xL_mk A192 A188 HL155), (xL_mk A193 A190 H12), (xl_of A194 rfl), (xl_of A195 rfl), (xGR_fr I.2.2.2.2.2.2.2.2.2.2.2.2.2.2.2.1 K186.2.1 (by decide +kernel) (by decide +kernel)), (xGR_fr I.2.2.2.2.2.2.2.2.2.2.2.2.2.2.2.2.1 K186.2.1 (by decide +kernel) (by decide +kernel)), ((K186.2.1 (1, 5) (by decide +kernel)).trans (I.2.2.2.2.2.2.2.2.2.2.2.2.2.2.2.2.2.1.trans (K186.2.1 (115, 23) (by decide +kernel)).symm)), (xGR_fr I.2.2.2.2.2.2.2.2.2.2.2.2.2.2.2.2.2.2.1 K186.2.1 (by decide +kernel) (by decide +kernel)), (xGR_fr I.2.2.2.2.2.2.2.2.2.2.2.2.2.2.2.2.2.2.2.1 K186.2.1 (by decide +kernel) (by decide +kernel)), (xGR_fr I.2.2.2.2.2.2.2.2.2.2.2.2.2.2.2.2.2.2.2.2.1 K186.2.1 (by decide +kernel) (by decide +kernel)), (xGR_fr I.2.2.2.2.2.2.2.2.2.2.2.2.2.2.2.2.2.2.2.2.2.1 K186.2.1 (by decide +kernel) (by decide +kernel)), (by rw [(K186.2.1 (63, 2) (by decide +kernel)), (K186.2.1 (139, 0) (by decide +kernel)), (K186.2.1 (1, 5) (by decide +kernel))]; exact I.2.2.2.2.2.2.2.2.2.2.2.2.2.2.2.2.2.2.2.2.2.2.1), ((K186.2.1 (0, 8) (by decide +kernel)).trans (I.2.2.2.2.2.2.2.2.2.2.2.2.2.2.2.2.2.2.2.2.2.2.2.1.trans (K186.2.1 (115, 34) (by decide +kernel)).symm)), (xGR_fr I.2.2.2.2.2.2.2.2.2.2.2.2.2.2.2.2.2.2.2.2.2.2.2.2.1 K186.2.1 (by decide +kernel) (by decide +kernel)), (xGR_fr I.2.2.2.2.2.2.2.2.2.2.2.2.2.2.2.2.2.2.2.2.2.2.2.2.2.1 K186.2.1 (by decide +kernel) (by decide +kernel)), (xGR_fr I.2.2.2.2.2.2.2.2.2.2.2.2.2.2.2.2.2.2.2.2.2.2.2.2.2.2.1 K186.2.1 (by decide +kernel) (by decide +kernel)), (xGR_fr I.2.2.2.2.2.2.2.2.2.2.2.2.2.2.2.2.2.2.2.2.2.2.2.2.2.2.2.1 K186.2.1 (by decide +kernel) (by decide +kernel)), (xts_fr I.2.2.2.2.2.2.2.2.2.2.2.2.2.2.2.2.2.2.2.2.2.2.2.2.2.2.2.2.1 (fun l hl => K186.2.1 l (xk_el (by decide +kernel) hl))), ((K186.2.1 (63, 3) (by decide +kernel)).trans I.2.2.2.2.2.2.2.2.2.2.2.2.2.2.2.2.2.2.2.2.2.2.2.2.2.2.2.2.2)⟩
          · refine xi_cmf (pc' := 71) kc_95_68 rfl (xc_le_f (X := a16.toInt) (Y := 30) rfl (by decide) (by omega)) ?_
            refine xi_iload_n (pc' := 72) (x := a16) kc_95_71 rfl rfl ?_
            refine xi_bipush (pc' := 74) (v := 99) kc_95_72 rfl rfl ?_
            by_cases c196 : a16.toInt = 99
            · refine xi_cmt (pc' := 84) kc_95_74 rfl (xc_eq_t (X := a16.toInt) (Y := 99) rfl (by decide) (by omega)) ?_
              refine xi_aload_n (pc' := 85) (x := 0) kc_95_84 rfl rfl ?_
              refine xi_getfield (pc' := 88) (v := .ref 66) kc_95_85 rfl rfl rfl A19 rfl ?_
              obtain ⟨u198, wl197, bu198, A199⟩ := xq_66 K.1
              refine xi_virtual (mj := 91) (as := []) (st1 := []) (lv0 := [(0, .ref 66)]) kc_95_88 rfl rfl rfl rfl rfl A199 (Nat.le_of_ble_eq_true rfl) (hJ _ _ _ _ (by decide)) (xm_le ml_91 rfl) rfl ?_
              refine xi_aload_n (pc' := 1) (x := 66) kc_91_0 rfl rfl ?_
              refine xi_lconst (pc' := 2) (v := 0) kc_91_1 rfl rfl ?_
              refine xi_putfield (pc' := 5) (fs' := [.ref 1, .ref 67, .ref 70, .ref 71, .ref 72, .ref 73, .ref 74, .long 0, .int u198]) kc_91_2 rfl rfl rfl A199 rfl rfl rfl (Nat.le_of_ble_eq_true rfl) rfl (fun hh201 eh200 => ?_)
              have K202 := xk_pl (k := 7) (v := 0) K (xk_wf (by decide +kernel)) xD_66 A199 rfl eh200 rfl
              have KR203 := xk_pl (k := 7) (v := 0) KR (xk_wf (by decide +kernel)) xD_66 A199 rfl eh200 rfl
              refine xi_return kc_91_5 mr_91 ?_
              show xw J ov 99 95 (91, [(5, .int 30), (4, .int (-20)), (0, .ref 0), (1, .int a12), (2, .int a14), (3, .int a16)], [], hh201) _
              refine xi_aload_n (pc' := 92) (x := 0) kc_95_91 rfl rfl ?_
              have A204 := ((eh200.2.1 0 (by decide)).trans A19)
              refine xi_getfield (pc' := 95) (v := .ref 1) kc_95_92 rfl rfl rfl A204 rfl ?_
              refine xi_iload_n (pc' := 96) (x := a14) kc_95_95 rfl rfl ?_
              obtain ⟨u205, u206, bu205, bu206, A207⟩ := xq_1 K.1
              have A208 := ((eh200.2.1 1 (by decide)).trans A207)
              refine xi_virtual (mj := 97) (as := [.int a14]) (st1 := []) (lv0 := [(0, .ref 1), (1, .int a14)]) kc_95_96 rfl rfl rfl rfl rfl A208 (Nat.le_of_ble_eq_true rfl) (hJ _ _ _ _ (by decide)) (xm_le ml_97 rfl) rfl ?_
              refine xi_iload_n (pc' := 1) (x := a14) kc_97_0 rfl rfl ?_
              refine xi_iff (pc' := 4) kc_97_1 rfl (xc_ne_f (X := a14.toInt) (Y := 0) rfl (by decide) (by omega)) ?_
              refine xi_aload_n (pc' := 5) (x := 1) kc_97_4 rfl rfl ?_
              refine xi_getfield (pc' := 8) (v := .ref 5) kc_97_5 rfl rfl rfl A208 rfl ?_
              refine xi_goto (pc' := 15) kc_97_8 rfl ?_
              refine xi_areturn kc_97_15 (by rw [mr_97]; rfl) ?_
              show xw J ov 99 95 (99, [(5, .int 30), (4, .int (-20)), (0, .ref 0), (1, .int a12), (2, .int a14), (3, .int a16)], [.ref 5], hh201) _
              refine xi_iload_n (pc' := 100) (x := a12) kc_95_99 rfl rfl ?_
              refine xi_iload_n (pc' := 101) (x := a16) kc_95_100 rfl rfl ?_
              have A209 := ((eh200.2.1 5 (by decide)).trans A8)
              refine xi_virtual (mj := 98) (as := [.int a12, .int a16]) (st1 := []) (lv0 := [(0, .ref 5), (1, .int a12), (2, .int a16)]) kc_95_101 rfl rfl rfl rfl rfl A209 (Nat.le_of_ble_eq_true rfl) (hJ _ _ _ _ (by decide)) (xm_le ml_98 rfl) rfl ?_
              refine xi_iload_n (pc' := 1) (x := a12) kc_98_0 rfl rfl ?_
              refine xi_iff (pc' := 4) kc_98_1 rfl (xc_lt_f (X := a12.toInt) (Y := 0) rfl (by decide) (by omega)) ?_
              refine xi_iload_n (pc' := 5) (x := a12) kc_98_4 rfl rfl ?_
              refine xi_aload_n (pc' := 6) (x := 5) kc_98_5 rfl rfl ?_
              refine xi_getfield (pc' := 9) (v := .ref 6) kc_98_6 rfl rfl rfl A209 rfl ?_
              have A210 := ((eh200.2.1 6 (by decide)).trans A1)
              refine xi_arraylength (pc' := 10) (n := 601) (v := 601) kc_98_9 rfl (xl_lenI (by decide) (by decide) A210 hy1) rfl ?_
              refine xi_cmt (pc' := 16) kc_98_10 rfl (xc_lt_t (X := a12.toInt) (Y := 601) rfl (by decide) (by omega)) ?_
              refine xi_aload_n (pc' := 17) (x := 5) kc_98_16 rfl rfl ?_
              refine xi_getfield (pc' := 20) (v := .ref 6) kc_98_17 rfl rfl rfl A209 rfl ?_
              refine xi_iload_n (pc' := 21) (x := a12) kc_98_20 rfl rfl ?_
              obtain ⟨v211, ev211, bv211, dv211⟩ := xj_get hy1 ry1 (i := a12) (by omega) (by omega)
              refine xi_iaload (pc' := 22) (v := v211) kc_98_21 rfl A210 (by decide) rfl (xi_in (by omega) (by rw [hy1]; omega)) ev211 ?_
              refine xi_istore_n (pc' := 23) (lv' := [(3, .int v211), (0, .ref 5), (1, .int a12), (2, .int a16)]) kc_98_22 rfl rfl (xm_lt ml_98 rfl) ?_
              refine xi_aload_n (pc' := 24) (x := 5) kc_98_23 rfl rfl ?_
              refine xi_getfield (pc' := 27) (v := .ref 6) kc_98_24 rfl rfl rfl A209 rfl ?_
              refine xi_iload_n (pc' := 28) (x := a12) kc_98_27 rfl rfl ?_
              refine xi_iload_n (pc' := 29) (x := a16) kc_98_28 rfl rfl ?_
              obtain ⟨y212, s212, hy212, ry212⟩ := xj_set (v := a16) hy1 ry1 a12 (by first | omega | decide) (by first | omega | decide)
              refine xi_iastore (pc' := 30) (x' := y212) kc_98_29 rfl A210 rfl (xi_in (by omega) (by rw [hy1]; omega)) s212 (fun hh212 eh212 => ?_)
              have K213 := xk_pa K202 (xk_wa (by decide +kernel)) xD_6 hy212 ry212 eh212
              refine xi_aload_n (pc' := 31) (x := 5) kc_98_30 rfl rfl ?_
              refine xi_iload_n (pc' := 32) (x := a12) kc_98_31 rfl rfl ?_
              refine xi_iconst (pc' := 33) (v := 1) kc_98_32 rfl rfl ?_
              obtain ⟨v214, ev214⟩ : ∃ q : Int32, a12 - 1 = q := ⟨_, rfl⟩
              have zv214 : v214.toInt = (a12.toInt + (-1)) := by rw [← ev214]; exact (xz_sub (X := a12.toInt) (Y := 1) rfl (by decide) (by omega) (by omega)).trans (by omega)
              refine xi_isub (pc' := 34) (v := v214) kc_98_33 rfl ev214 ?_
              have A215 := ((eh212.2.1 5 (by decide)).trans A209)
              refine xi_virtual (mj := 99) (as := [.int v214]) (st1 := []) (lv0 := [(0, .ref 5), (1, .int v214)]) kc_98_34 rfl rfl rfl rfl rfl A215 (Nat.le_of_ble_eq_true rfl) (hJ _ _ _ _ (by decide)) (xm_le ml_99 rfl) rfl ?_
              refine xi_iload_n (pc' := 1) (x := v214) kc_99_0 rfl rfl ?_
              by_cases c216 : (a12.toInt + (-1)) < 0
              · refine xi_ift (pc' := 13) kc_99_1 rfl (xc_lt_t (X := (a12.toInt + (-1))) (Y := 0) zv214 (by decide) (by omega)) ?_
                refine xi_aload_n (pc' := 14) (x := 5) kc_99_13 rfl rfl ?_
                refine xi_getfield (pc' := 17) (v := .int 5) kc_99_14 rfl rfl rfl A215 rfl ?_
                refine xi_goto (pc' := 26) kc_99_17 rfl ?_
                refine xi_ireturn kc_99_26 mr_99 rfl ?_
                show xw J ov 98 98 (37, [(3, .int v211), (0, .ref 5), (1, .int a12), (2, .int a16)], [.int 5], hh212) _
                refine xi_istore (pc' := 39) (lv' := [(4, .int 5), (3, .int v211), (0, .ref 5), (1, .int a12), (2, .int a16)]) kc_98_37 rfl rfl (xm_lt ml_98 rfl) ?_
                refine xi_iload_n (pc' := 40) (x := a12) kc_98_39 rfl rfl ?_
                refine xi_istore (pc' := 42) (lv' := [(5, .int a12), (4, .int 5), (3, .int v211), (0, .ref 5), (1, .int a12), (2, .int a16)]) kc_98_40 rfl rfl (xm_lt ml_98 rfl) ?_
                refine xw_lv (b := [(0, .ref 5), (3, .int v211), (4, .int 5), (5, .int a12)]) (lvS_cons (lvS_cons (lvS_cons (lvS_cons (lvS_nil (show ([5, 4, 3, 0, 1, 2] : List Nat).Nodup by decide)) rfl) rfl) rfl) rfl) ?_
                have A218 := ((eh212.2.1 7 (by decide)).trans ((eh200.2.1 7 (by decide)).trans A5))
                refine xw_tell (o := 5) (t := 6) (c := 7) (hb := hh212) (f := 5) (was := v211) (by decide) (by decide) (by decide) A215 rfl rfl eh212.1 hy212 (fun z9217 hh217 hz217 HL217 eh217 => ?_) 602 a12 5 y5 hh212 (by omega) (by omega) (by omega) hy5 (xL_la0 (by omega)) (xL_pre H11 (by omega) (by omega) s212) (xh_rf A218)
                have ry217 : ∀ i, i < 601 → (-2147483648) ≤ (z9217.getD i 0).toInt ∧ (z9217.getD i 0).toInt ≤ 2147483647 := fun i _ => ⟨(xc_rng _).1, by have := (xc_rng (z9217.getD i 0)).2; omega⟩
                have K219 := xk_pa K213 (xk_wa (by decide +kernel)) xD_7 hz217 ry217 eh217
                show xw J ov 99 95 (104, [(5, .int 30), (4, .int (-20)), (0, .ref 0), (1, .int a12), (2, .int a14), (3, .int a16)], [.int v211], hh217) _
                refine xi_ireturn kc_95_104 mr_95 rfl ?_
                show xw J ov 100 195 (312, [(4, .int x4), (3, .ref 167), (2, .ref 115), (1, .ref 0), (0, .ref 1000000)], [.int v211], hh217) _
                refine xi_pop (pc' := 313) kc_195_312 rfl rfl ?_
                refine xi_aload_n (pc' := 314) (x := 115) kc_195_313 rfl rfl ?_
                refine xi_aload_n (pc' := 315) (x := 1000000) kc_195_314 rfl rfl ?_
                refine xi_iload (pc' := 317) (x := x4) kc_195_315 rfl rfl ?_
                refine xi_iconst (pc' := 318) (v := 1) kc_195_317 rfl rfl ?_
                refine xi_iadd (pc' := 319) (v := v11) kc_195_318 rfl ev11 ?_
                refine xi_ialoadO (pc' := 320) (v := a12) kc_195_319 rfl (by decide) hov0 (xi_in (by omega) (by omega)) ea12 ?_
                refine xi_aload_n (pc' := 321) (x := 1000000) kc_195_320 rfl rfl ?_
                refine xi_iload (pc' := 323) (x := x4) kc_195_321 rfl rfl ?_
                refine xi_iconst (pc' := 324) (v := 2) kc_195_323 rfl rfl ?_
                refine xi_iadd (pc' := 325) (v := v13) kc_195_324 rfl ev13 ?_
                refine xi_ialoadO (pc' := 326) (v := a14) kc_195_325 rfl (by decide) hov0 (xi_in (by omega) (by omega)) ea14 ?_
                refine xi_aload_n (pc' := 327) (x := 1000000) kc_195_326 rfl rfl ?_
                refine xi_iload (pc' := 329) (x := x4) kc_195_327 rfl rfl ?_
                refine xi_iconst (pc' := 330) (v := 3) kc_195_329 rfl rfl ?_
                refine xi_iadd (pc' := 331) (v := v15) kc_195_330 rfl ev15 ?_
                refine xi_ialoadO (pc' := 332) (v := a16) kc_195_331 rfl (by decide) hov0 (xi_in (by omega) (by omega)) ea16 ?_
                obtain ⟨u220, u221, u222, u223, u224, u225, u226, u227, u228, u229, u230, u231, u232, bu220, bu221, bu222, bu223, bu224, bu225, bu226, bu227, bu228, bu229, bu230, bu231, bu232, A233⟩ := xq_115 K.1
                have A234 := ((eh217.2.1 115 (by decide)).trans ((eh212.2.1 115 (by decide)).trans ((eh200.2.1 115 (by decide)).trans A233)))
                refine xi_virtual (mj := 16) (as := [.int a12, .int a14, .int a16]) (st1 := []) (lv0 := [(0, .ref 115), (1, .int a12), (2, .int a14), (3, .int a16)]) kc_195_332 rfl rfl rfl rfl rfl A234 (Nat.le_of_ble_eq_true rfl) (hJ _ _ _ _ (by decide)) (xm_le ml_16 rfl) rfl ?_
                refine xi_aload_n (pc' := 1) (x := 115) kc_16_0 rfl rfl ?_
                refine xi_iconst (pc' := 2) (v := 0) kc_16_1 rfl rfl ?_
                refine xi_putfield (pc' := 5) (fs' := [.int 0, .int u221, .ref 116, .ref 117, .ref 118, .ref 119, .ref 120, .ref 121, .ref 122, .ref 123, .ref 124, .ref 125, .ref 126, .ref 127, .ref 128, .ref 129, .int u222, .ref 130, .int u223, .ref 131, .ref 132, .ref 133, .ref 134, .int u224, .ref 135, .ref 136, .ref 137, .ref 138, .ref 139, .ref 140, .ref 141, .ref 142, .int u225, .int u226, .int u227, .ref 143, .ref 144, .ref 145, .ref 146, .ref 147, .ref 148, .int u228, .ref 149, .ref 150, .ref 151, .int u229, .ref 152, .ref 153, .ref 154, .ref 155, .ref 156, .ref 157, .ref 158, .ref 159, .int u230, .ref 160, .int u231, .ref 161, .ref 162, .ref 163, .ref 164, .int u232, .ref 165, .ref 166]) kc_16_2 rfl rfl rfl A234 rfl rfl rfl (Nat.le_of_ble_eq_true rfl) rfl (fun hh236 eh235 => ?_)
                have K237 := xk_pf (k := 0) (v := 0) K219 (xk_wf (by decide +kernel)) xD_115 A234 rfl (by first | omega | decide) (by first | omega | decide) eh235 rfl
                refine xi_iload_n (pc' := 6) (x := a14) kc_16_5 rfl rfl ?_
                refine xi_iconst (pc' := 7) (v := 0) kc_16_6 rfl rfl ?_
                refine xi_iconst (pc' := 8) (v := 1) kc_16_7 rfl rfl ?_
                refine xi_static (mj := 11) (as := [.int a14, .int 0, .int 1]) (st1 := []) (lv0 := [(0, .int a14), (1, .int 0), (2, .int 1)]) kc_16_8 rfl rfl (Nat.le_of_ble_eq_true rfl) rfl rfl (Nat.le_of_ble_eq_true rfl) (hJ _ _ _ _ (by decide)) (xm_le ml_11 rfl) rfl ?_
                refine xi_iload_n (pc' := 1) (x := a14) kc_11_0 rfl rfl ?_
                refine xi_iload_n (pc' := 2) (x := 0) kc_11_1 rfl rfl ?_
                refine xi_cmf (pc' := 5) kc_11_2 rfl (xc_lt_f (X := a14.toInt) (Y := 0) rfl (by decide) (by omega)) ?_
                refine xi_iload_n (pc' := 6) (x := a14) kc_11_5 rfl rfl ?_
                refine xi_iload_n (pc' := 7) (x := 1) kc_11_6 rfl rfl ?_
                refine xi_cmf (pc' := 10) kc_11_7 rfl (xc_gt_f (X := a14.toInt) (Y := 1) rfl (by decide) (by omega)) ?_
                refine xi_iconst (pc' := 11) (v := 1) kc_11_10 rfl rfl ?_
                refine xi_goto (pc' := 15) kc_11_11 rfl ?_
                refine xi_ireturn kc_11_15 mr_11 rfl ?_
                show xw J ov 99 16 (11, [(0, .ref 115), (1, .int a12), (2, .int a14), (3, .int a16)], [.int 1], hh236) _
                refine xi_ift (pc' := 21) kc_16_11 rfl rfl ?_
                refine xi_iload_n (pc' := 22) (x := a12) kc_16_21 rfl rfl ?_
                refine xi_iff (pc' := 25) kc_16_22 rfl (xc_lt_f (X := a12.toInt) (Y := 0) rfl (by decide) (by omega)) ?_
                refine xi_iload_n (pc' := 26) (x := a16) kc_16_25 rfl rfl ?_
                refine xi_iload_n (pc' := 27) (x := a14) kc_16_26 rfl rfl ?_
                refine xi_iff (pc' := 30) kc_16_27 rfl (xc_ne_f (X := a14.toInt) (Y := 0) rfl (by decide) (by omega)) ?_
                refine xi_bipush (pc' := 32) (v := (-20)) kc_16_30 rfl rfl ?_
                refine xi_goto (pc' := 36) kc_16_32 rfl ?_
                refine xi_cmt (pc' := 46) kc_16_36 rfl (xc_ge_t (X := a16.toInt) (Y := (-20)) rfl (by decide) (by omega)) ?_
                refine xi_iload_n (pc' := 47) (x := a12) kc_16_46 rfl rfl ?_
                refine xi_sipush (pc' := 50) (v := 599) kc_16_47 rfl rfl ?_
                refine xi_cmf (pc' := 53) kc_16_50 rfl (xc_gt_f (X := a12.toInt) (Y := 599) rfl (by decide) (by omega)) ?_
                refine xi_iload_n (pc' := 54) (x := a16) kc_16_53 rfl rfl ?_
                refine xi_iload_n (pc' := 55) (x := a14) kc_16_54 rfl rfl ?_
                refine xi_iff (pc' := 58) kc_16_55 rfl (xc_ne_f (X := a14.toInt) (Y := 0) rfl (by decide) (by omega)) ?_
                refine xi_bipush (pc' := 60) (v := 30) kc_16_58 rfl rfl ?_
                refine xi_goto (pc' := 65) kc_16_60 rfl ?_
                refine xi_cmf (pc' := 68) kc_16_65 rfl (xc_le_f (X := a16.toInt) (Y := 30) rfl (by decide) (by omega)) ?_
                refine xi_iload_n (pc' := 69) (x := a16) kc_16_68 rfl rfl ?_
                refine xi_bipush (pc' := 71) (v := 99) kc_16_69 rfl rfl ?_
                refine xi_cmt (pc' := 81) kc_16_71 rfl (xc_eq_t (X := a16.toInt) (Y := 99) rfl (by decide) (by omega)) ?_
                refine xi_iload_n (pc' := 82) (x := a14) kc_16_81 rfl rfl ?_
                refine xi_iff (pc' := 85) kc_16_82 rfl (xc_ne_f (X := a14.toInt) (Y := 0) rfl (by decide) (by omega)) ?_
                refine xi_aload_n (pc' := 86) (x := 115) kc_16_85 rfl rfl ?_
                refine xi_getfield (pc' := 89) (v := .ref 123) kc_16_86 rfl rfl rfl eh235.1 rfl ?_
                refine xi_iload_n (pc' := 90) (x := a12) kc_16_89 rfl rfl ?_
                have A238 := ((eh235.2.1 123 (by decide)).trans ((eh217.2.1 123 (by decide)).trans ((eh212.2.1 123 (by decide)).trans ((eh200.2.1 123 (by decide)).trans A2))))
                refine xi_iaload (pc' := 91) (v := v211) kc_16_90 rfl A238 (by decide) rfl (xi_in (by omega) (by rw [hy2]; omega)) (xE_ld H9 (by first | omega | decide) (by first | omega | decide) (by omega) ev211) ?_
                refine xi_goto (pc' := 100) kc_16_91 rfl ?_
                refine xi_istore (pc' := 102) (lv' := [(4, .int v211), (0, .ref 115), (1, .int a12), (2, .int a14), (3, .int a16)]) kc_16_100 rfl rfl (xm_lt ml_16 rfl) ?_
                refine xi_aload_n (pc' := 103) (x := 115) kc_16_102 rfl rfl ?_
                refine xi_getfield (pc' := 106) (v := .ref 123) kc_16_103 rfl rfl rfl eh235.1 rfl ?_
                refine xi_iload_n (pc' := 107) (x := a12) kc_16_106 rfl rfl ?_
                refine xi_iload_n (pc' := 108) (x := a14) kc_16_107 rfl rfl ?_
                refine xi_iff (pc' := 111) kc_16_108 rfl (xc_ne_f (X := a14.toInt) (Y := 0) rfl (by decide) (by omega)) ?_
                refine xi_iload_n (pc' := 112) (x := a16) kc_16_111 rfl rfl ?_
                refine xi_goto (pc' := 121) kc_16_112 rfl ?_
                obtain ⟨y239, s239, hy239, ry239⟩ := xj_set (v := a16) hy2 ry2 a12 (by first | omega | decide) (by first | omega | decide)
                refine xi_iastore (pc' := 122) (x' := y239) kc_16_121 rfl A238 rfl (xi_in (by omega) (by rw [hy2]; omega)) s239 (fun hh239 eh239 => ?_)
                have K240 := xk_pa K237 (xk_wa (by decide +kernel)) xD_123 hy239 ry239 eh239
                refine xi_aload_n (pc' := 123) (x := 115) kc_16_122 rfl rfl ?_
                have A241 := ((eh239.2.1 115 (by decide)).trans eh235.1)
                refine xi_getfield (pc' := 126) (v := .ref 124) kc_16_123 rfl rfl rfl A241 rfl ?_
                refine xi_iload_n (pc' := 127) (x := a12) kc_16_126 rfl rfl ?_
                refine xi_iload_n (pc' := 128) (x := a14) kc_16_127 rfl rfl ?_
                refine xi_iconst (pc' := 129) (v := 1) kc_16_128 rfl rfl ?_
                refine xi_cmt (pc' := 136) kc_16_129 rfl (xc_ne_t (X := a14.toInt) (Y := 1) rfl (by decide) (by omega)) ?_
                refine xi_aload_n (pc' := 137) (x := 115) kc_16_136 rfl rfl ?_
                refine xi_getfield (pc' := 140) (v := .ref 124) kc_16_137 rfl rfl rfl A241 rfl ?_
                refine xi_iload_n (pc' := 141) (x := a12) kc_16_140 rfl rfl ?_
                obtain ⟨v242, ev242, bv242, dv242⟩ := xj_get hy4 ry4 (i := a12) (by omega) (by omega)
                have A243 := ((eh239.2.1 124 (by decide)).trans ((eh235.2.1 124 (by decide)).trans ((eh217.2.1 124 (by decide)).trans ((eh212.2.1 124 (by decide)).trans ((eh200.2.1 124 (by decide)).trans A4)))))
                refine xi_iaload (pc' := 142) (v := v242) kc_16_141 rfl A243 (by decide) rfl (xi_in (by omega) (by rw [hy4]; omega)) ev242 ?_
                obtain ⟨y244, s244, hy244, ry244⟩ := xj_set (v := v242) hy4 ry4 a12 (by first | omega | decide) (by first | omega | decide)
                refine xi_iastore (pc' := 143) (x' := y244) kc_16_142 rfl A243 rfl (xi_in (by omega) (by rw [hy4]; omega)) s244 (fun hh244 eh244 => ?_)
                have K245 := xk_pa K240 (xk_wa (by decide +kernel)) xD_124 hy244 ry244 eh244
                refine xi_aload_n (pc' := 144) (x := 115) kc_16_143 rfl rfl ?_
                refine xi_iconst (pc' := 145) (v := 0) kc_16_144 rfl rfl ?_
                have A246 := ((eh244.2.1 115 (by decide)).trans A241)
                refine xi_putfield (pc' := 148) (fs' := [.int 0, .int u221, .ref 116, .ref 117, .ref 118, .ref 119, .ref 120, .ref 121, .ref 122, .ref 123, .ref 124, .ref 125, .ref 126, .ref 127, .ref 128, .ref 129, .int u222, .ref 130, .int u223, .ref 131, .ref 132, .ref 133, .ref 134, .int u224, .ref 135, .ref 136, .ref 137, .ref 138, .ref 139, .ref 140, .ref 141, .ref 142, .int u225, .int u226, .int u227, .ref 143, .ref 144, .ref 145, .ref 146, .ref 147, .ref 148, .int 0, .ref 149, .ref 150, .ref 151, .int u229, .ref 152, .ref 153, .ref 154, .ref 155, .ref 156, .ref 157, .ref 158, .ref 159, .int u230, .ref 160, .int u231, .ref 161, .ref 162, .ref 163, .ref 164, .int u232, .ref 165, .ref 166]) kc_16_145 rfl rfl rfl A246 rfl rfl rfl (Nat.le_of_ble_eq_true rfl) rfl (fun hh248 eh247 => ?_)
                have K249 := xk_pf (k := 41) (v := 0) K245 (xk_wf (by decide +kernel)) xD_115 A246 rfl (by first | omega | decide) (by first | omega | decide) eh247 rfl
                refine xi_iload (pc' := 150) (x := v211) kc_16_148 rfl rfl ?_
                refine xi_ireturn kc_16_150 mr_16 rfl ?_
                show xw J ov 100 195 (335, [(4, .int x4), (3, .ref 167), (2, .ref 115), (1, .ref 0), (0, .ref 1000000)], [.int v211], hh248) _
                refine xi_pop (pc' := 336) kc_195_335 rfl rfl ?_
                refine xi_goto (pc' := 1501) kc_195_336 rfl ?_
                obtain ⟨v250, ev250⟩ : ∃ q : Int32, x4 + 6 = q := ⟨_, rfl⟩
                have zv250 : v250.toInt = (x4.toInt + 6) := by rw [← ev250]; exact (xz_add (X := x4.toInt) (Y := 6) rfl (by decide) (by omega) (by omega)).trans (by omega)
                refine xi_iinc (pc' := 1504) (x := x4) (v := v250) (lv' := [(4, .int v250), (3, .ref 167), (2, .ref 115), (1, .ref 0), (0, .ref 1000000)]) kc_195_1501 rfl rfl ev250 rfl (xm_lt ml_195 rfl) ?_
                refine xi_goto (pc' := 23) kc_195_1504 rfl ?_
                have A251 := ((eh247.2.1 6 (by decide)).trans ((eh244.2.1 6 (by decide)).trans ((eh239.2.1 6 (by decide)).trans ((eh235.2.1 6 (by decide)).trans ((eh217.2.1 6 (by decide)).trans eh212.1)))))
                have A252 := ((eh247.2.1 123 (by decide)).trans ((eh244.2.1 123 (by decide)).trans eh239.1))
                have A253 := ((eh247.2.1 9 (by decide)).trans ((eh244.2.1 9 (by decide)).trans ((eh239.2.1 9 (by decide)).trans ((eh235.2.1 9 (by decide)).trans ((eh217.2.1 9 (by decide)).trans ((eh212.2.1 9 (by decide)).trans ((eh200.2.1 9 (by decide)).trans A3)))))))
                have A254 := ((eh247.2.1 124 (by decide)).trans eh244.1)
                have A255 := ((eh247.2.1 7 (by decide)).trans ((eh244.2.1 7 (by decide)).trans ((eh239.2.1 7 (by decide)).trans ((eh235.2.1 7 (by decide)).trans eh217.1))))
                have A256 := ((eh247.2.1 10 (by decide)).trans ((eh244.2.1 10 (by decide)).trans ((eh239.2.1 10 (by decide)).trans ((eh235.2.1 10 (by decide)).trans ((eh217.2.1 10 (by decide)).trans ((eh212.2.1 10 (by decide)).trans ((eh200.2.1 10 (by decide)).trans A6)))))))
                have A257 := ((eh247.2.1 5 (by decide)).trans ((eh244.2.1 5 (by decide)).trans ((eh239.2.1 5 (by decide)).trans ((eh235.2.1 5 (by decide)).trans ((eh217.2.1 5 (by decide)).trans A215)))))
                have A258 := ((eh247.2.1 8 (by decide)).trans ((eh244.2.1 8 (by decide)).trans ((eh239.2.1 8 (by decide)).trans ((eh235.2.1 8 (by decide)).trans ((eh217.2.1 8 (by decide)).trans ((eh212.2.1 8 (by decide)).trans ((eh200.2.1 8 (by decide)).trans A10)))))))
                exact kk v250 hh248 (by omega) K249 ⟨((K249.2.1 (0, 9) (by decide +kernel)).trans (I.1.trans (K249.2.1 (115, 1) (by decide +kernel)).symm)), (xWW_fr I.2.1 (K249.2.1 (64, 0) (by decide +kernel)) (K249.2.1 (121, 0) (by decide +kernel))), (xSG_fr I.2.2.1 (fun l hl => K249.2.1 l (xk_el (by decide +kernel) hl))), (by rw [(K249.2.1 (13, 0) (by decide +kernel)), (K249.2.1 (122, 0) (by decide +kernel))]; exact I.2.2.2.1), (by rw [(K249.2.1 (16, 0) (by decide +kernel)), (K249.2.1 (122, 0) (by decide +kernel))]; exact I.2.2.2.2.1), (by rw [(K249.2.1 (19, 0) (by decide +kernel)), (K249.2.1 (122, 0) (by decide +kernel))]; exact I.2.2.2.2.2.1), (by rw [(K249.2.1 (22, 0) (by decide +kernel)), (K249.2.1 (122, 0) (by decide +kernel))]; exact I.2.2.2.2.2.2.1), (by rw [(K249.2.1 (25, 0) (by decide +kernel)), (K249.2.1 (122, 0) (by decide +kernel))]; exact I.2.2.2.2.2.2.2.1), (by rw [(K249.2.1 (28, 0) (by decide +kernel)), (K249.2.1 (122, 0) (by decide +kernel))]; exact I.2.2.2.2.2.2.2.2.1), (xE_mk A251 A252 (xE_set H9 (by first | omega | decide) (by omega) (by omega) (by omega) s212 s239)), (xE_mk A253 A254 (xE_id H10 ev242 s244)), (xL_mk A255 A251 HL217), (xL_mk A256 A253 H12), (xl_of A257 rfl), (xl_of A258 rfl), (xGR_fr I.2.2.2.2.2.2.2.2.2.2.2.2.2.2.2.1 K249.2.1 (by decide +kernel) (by decide +kernel)), (xGR_fr I.2.2.2.2.2.2.2.2.2.2.2.2.2.2.2.2.1 K249.2.1 (by decide +kernel) (by decide +kernel)), ((K249.2.1 (1, 5) (by decide +kernel)).trans (I.2.2.2.2.2.2.2.2.2.2.2.2.2.2.2.2.2.1.trans (K249.2.1 (115, 23) (by decide +kernel)).symm)), (xGR_fr I.2.2.2.2.2.2.2.2.2.2.2.2.2.2.2.2.2.2.1 K249.2.1 (by decide +kernel) (by decide +kernel)), (xGR_fr I.2.2.2.2.2.2.2.2.2.2.2.2.2.2.2.2.2.2.2.1 K249.2.1 (by decide +kernel) (by decide +kernel)), (xGR_fr I.2.2.2.2.2.2.2.2.2.2.2.2.2.2.2.2.2.2.2.2.1 K249.2.1 (by decide +kernel) (by decide +kernel)), (xGR_fr I.2.2.2.2.2.2.2.2.2.2.2.2.2.2.2.2.2.2.2.2.2.1 K249.2.1 (by decide +kernel) (by decide +kernel)), (by rw [(K249.2.1 (63, 2) (by decide +kernel)), (K249.2.1 (139, 0) (by decide +kernel)), (K249.2.1 (1, 5) (by decide +kernel))]; exact I.2.2.2.2.2.2.2.2.2.2.2.2.2.2.2.2.2.2.2.2.2.2.1), ((K249.2.1 (0, 8) (by decide +kernel)).trans (I.2.2.2.2.2.2.2.2.2.2.2.2.2.2.2.2.2.2.2.2.2.2.2.1.trans (K249.2.1 (115, 34) (by decide +kernel)).symm)), (xGR_fr I.2.2.2.2.2.2.2.2.2.2.2.2.2.2.2.2.2.2.2.2.2.2.2.2.1 K249.2.1 (by decide +kernel) (by decide +kernel)), (xGR_fr I.2.2.2.2.2.2.2.2.2.2.2.2.2.2.2.2.2.2.2.2.2.2.2.2.2.1 K249.2.1 (by decide +kernel) (by decide +kernel)), (xGR_fr I.2.2.2.2.2.2.2.2.2.2.2.2.2.2.2.2.2.2.2.2.2.2.2.2.2.2.1 K249.2.1 (by decide +kernel) (by decide +kernel)), (xGR_fr I.2.2.2.2.2.2.2.2.2.2.2.2.2.2.2.2.2.2.2.2.2.2.2.2.2.2.2.1 K249.2.1 (by decide +kernel) (by decide +kernel)), (xts_fr I.2.2.2.2.2.2.2.2.2.2.2.2.2.2.2.2.2.2.2.2.2.2.2.2.2.2.2.2.1 (fun l hl => K249.2.1 l (xk_el (by decide +kernel) hl))), ((K249.2.1 (63, 3) (by decide +kernel)).trans I.2.2.2.2.2.2.2.2.2.2.2.2.2.2.2.2.2.2.2.2.2.2.2.2.2.2.2.2.2)⟩
              · refine xi_iff (pc' := 4) kc_99_1 rfl (xc_lt_f (X := (a12.toInt + (-1))) (Y := 0) zv214 (by decide) (by omega)) ?_
                refine xi_iload_n (pc' := 5) (x := v214) kc_99_4 rfl rfl ?_
                refine xi_aload_n (pc' := 6) (x := 5) kc_99_5 rfl rfl ?_
                refine xi_getfield (pc' := 9) (v := .ref 7) kc_99_6 rfl rfl rfl A215 rfl ?_
                have A259 := ((eh212.2.1 7 (by decide)).trans ((eh200.2.1 7 (by decide)).trans A5))
                refine xi_arraylength (pc' := 10) (n := 601) (v := 601) kc_99_9 rfl (xl_lenI (by decide) (by decide) A259 hy5) rfl ?_
                refine xi_cmt (pc' := 20) kc_99_10 rfl (xc_lt_t (X := (a12.toInt + (-1))) (Y := 601) zv214 (by decide) (by omega)) ?_
                refine xi_aload_n (pc' := 21) (x := 5) kc_99_20 rfl rfl ?_
                refine xi_getfield (pc' := 24) (v := .ref 7) kc_99_21 rfl rfl rfl A215 rfl ?_
                refine xi_iload_n (pc' := 25) (x := v214) kc_99_24 rfl rfl ?_
                obtain ⟨v260, ev260, bv260, dv260⟩ := xj_get hy5 ry5 (i := v214) (by rw [zv214]; omega) (by rw [zv214]; omega)
                refine xi_iaload (pc' := 26) (v := v260) kc_99_25 rfl A259 (by decide) rfl (xi_in (by rw [zv214]; omega) (by rw [hy5]; rw [zv214]; omega)) ev260 ?_
                refine xi_ireturn kc_99_26 mr_99 rfl ?_
                show xw J ov 98 98 (37, [(3, .int v211), (0, .ref 5), (1, .int a12), (2, .int a16)], [.int v260], hh212) _
                refine xi_istore (pc' := 39) (lv' := [(4, .int v260), (3, .int v211), (0, .ref 5), (1, .int a12), (2, .int a16)]) kc_98_37 rfl rfl (xm_lt ml_98 rfl) ?_
                refine xi_iload_n (pc' := 40) (x := a12) kc_98_39 rfl rfl ?_
                refine xi_istore (pc' := 42) (lv' := [(5, .int a12), (4, .int v260), (3, .int v211), (0, .ref 5), (1, .int a12), (2, .int a16)]) kc_98_40 rfl rfl (xm_lt ml_98 rfl) ?_
                refine xw_lv (b := [(0, .ref 5), (3, .int v211), (4, .int v260), (5, .int a12)]) (lvS_cons (lvS_cons (lvS_cons (lvS_cons (lvS_nil (show ([5, 4, 3, 0, 1, 2] : List Nat).Nodup by decide)) rfl) rfl) rfl) rfl) ?_
                refine xw_tell (o := 5) (t := 6) (c := 7) (hb := hh212) (f := 5) (was := v211) (by decide) (by decide) (by decide) A215 rfl rfl eh212.1 hy212 (fun z9261 hh261 hz261 HL261 eh261 => ?_) 602 a12 v260 y5 hh212 (by omega) (by omega) (by omega) hy5 (xL_la (w := v214) H11 (by omega) (by omega) (by omega) (by omega) s212 ev260) (xL_pre H11 (by omega) (by omega) s212) (xh_rf A259)
                have ry261 : ∀ i, i < 601 → (-2147483648) ≤ (z9261.getD i 0).toInt ∧ (z9261.getD i 0).toInt ≤ 2147483647 := fun i _ => ⟨(xc_rng _).1, by have := (xc_rng (z9261.getD i 0)).2; omega⟩
                have K262 := xk_pa K213 (xk_wa (by decide +kernel)) xD_7 hz261 ry261 eh261
                show xw J ov 99 95 (104, [(5, .int 30), (4, .int (-20)), (0, .ref 0), (1, .int a12), (2, .int a14), (3, .int a16)], [.int v211], hh261) _
                refine xi_ireturn kc_95_104 mr_95 rfl ?_
                show xw J ov 100 195 (312, [(4, .int x4), (3, .ref 167), (2, .ref 115), (1, .ref 0), (0, .ref 1000000)], [.int v211], hh261) _
                refine xi_pop (pc' := 313) kc_195_312 rfl rfl ?_
                refine xi_aload_n (pc' := 314) (x := 115) kc_195_313 rfl rfl ?_
                refine xi_aload_n (pc' := 315) (x := 1000000) kc_195_314 rfl rfl ?_
                refine xi_iload (pc' := 317) (x := x4) kc_195_315 rfl rfl ?_
                refine xi_iconst (pc' := 318) (v := 1) kc_195_317 rfl rfl ?_
                refine xi_iadd (pc' := 319) (v := v11) kc_195_318 rfl ev11 ?_
                refine xi_ialoadO (pc' := 320) (v := a12) kc_195_319 rfl (by decide) hov0 (xi_in (by omega) (by omega)) ea12 ?_
                refine xi_aload_n (pc' := 321) (x := 1000000) kc_195_320 rfl rfl ?_
                refine xi_iload (pc' := 323) (x := x4) kc_195_321 rfl rfl ?_
                refine xi_iconst (pc' := 324) (v := 2) kc_195_323 rfl rfl ?_
                refine xi_iadd (pc' := 325) (v := v13) kc_195_324 rfl ev13 ?_
                refine xi_ialoadO (pc' := 326) (v := a14) kc_195_325 rfl (by decide) hov0 (xi_in (by omega) (by omega)) ea14 ?_
                refine xi_aload_n (pc' := 327) (x := 1000000) kc_195_326 rfl rfl ?_
                refine xi_iload (pc' := 329) (x := x4) kc_195_327 rfl rfl ?_
                refine xi_iconst (pc' := 330) (v := 3) kc_195_329 rfl rfl ?_
                refine xi_iadd (pc' := 331) (v := v15) kc_195_330 rfl ev15 ?_
                refine xi_ialoadO (pc' := 332) (v := a16) kc_195_331 rfl (by decide) hov0 (xi_in (by omega) (by omega)) ea16 ?_
                obtain ⟨u263, u264, u265, u266, u267, u268, u269, u270, u271, u272, u273, u274, u275, bu263, bu264, bu265, bu266, bu267, bu268, bu269, bu270, bu271, bu272, bu273, bu274, bu275, A276⟩ := xq_115 K.1
                have A277 := ((eh261.2.1 115 (by decide)).trans ((eh212.2.1 115 (by decide)).trans ((eh200.2.1 115 (by decide)).trans A276)))
                refine xi_virtual (mj := 16) (as := [.int a12, .int a14, .int a16]) (st1 := []) (lv0 := [(0, .ref 115), (1, .int a12), (2, .int a14), (3, .int a16)]) kc_195_332 rfl rfl rfl rfl rfl A277 (Nat.le_of_ble_eq_true rfl) (hJ _ _ _ _ (by decide)) (xm_le ml_16 rfl) rfl ?_
                refine xi_aload_n (pc' := 1) (x := 115) kc_16_0 rfl rfl ?_
                refine xi_iconst (pc' := 2) (v := 0) kc_16_1 rfl rfl ?_
                refine xi_putfield (pc' := 5) (fs' := [.int 0, .int u264, .ref 116, .ref 117, .ref 118, .ref 119, .ref 120, .ref 121, .ref 122, .ref 123, .ref 124, .ref 125, .ref 126, .ref 127, .ref 128, .ref 129, .int u265, .ref 130, .int u266, .ref 131, .ref 132, .ref 133, .ref 134, .int u267, .ref 135, .ref 136, .ref 137, .ref 138, .ref 139, .ref 140, .ref 141, .ref 142, .int u268, .int u269, .int u270, .ref 143, .ref 144, .ref 145, .ref 146, .ref 147, .ref 148, .int u271, .ref 149, .ref 150, .ref 151, .int u272, .ref 152, .ref 153, .ref 154, .ref 155, .ref 156, .ref 157, .ref 158, .ref 159, .int u273, .ref 160, .int u274, .ref 161, .ref 162, .ref 163, .ref 164, .int u275, .ref 165, .ref 166]) kc_16_2 rfl rfl rfl A277 rfl rfl rfl (Nat.le_of_ble_eq_true rfl) rfl (fun hh279 eh278 => ?_)
                have K280 := xk_pf (k := 0) (v := 0) K262 (xk_wf (by decide +kernel)) xD_115 A277 rfl (by first | omega | decide) (by first | omega | decide) eh278 rfl
                refine xi_iload_n (pc' := 6) (x := a14) kc_16_5 rfl rfl ?_
                refine xi_iconst (pc' := 7) (v := 0) kc_16_6 rfl rfl ?_
                refine xi_iconst (pc' := 8) (v := 1) kc_16_7 rfl rfl ?_
                refine xi_static (mj := 11) (as := [.int a14, .int 0, .int 1]) (st1 := []) (lv0 := [(0, .int a14), (1, .int 0), (2, .int 1)]) kc_16_8 rfl rfl (Nat.le_of_ble_eq_true rfl) rfl rfl (Nat.le_of_ble_eq_true rfl) (hJ _ _ _ _ (by decide)) (xm_le ml_11 rfl) rfl ?_
                refine xi_iload_n (pc' := 1) (x := a14) kc_11_0 rfl rfl ?_
                refine xi_iload_n (pc' := 2) (x := 0) kc_11_1 rfl rfl ?_
                refine xi_cmf (pc' := 5) kc_11_2 rfl (xc_lt_f (X := a14.toInt) (Y := 0) rfl (by decide) (by omega)) ?_
                refine xi_iload_n (pc' := 6) (x := a14) kc_11_5 rfl rfl ?_
                refine xi_iload_n (pc' := 7) (x := 1) kc_11_6 rfl rfl ?_
                refine xi_cmf (pc' := 10) kc_11_7 rfl (xc_gt_f (X := a14.toInt) (Y := 1) rfl (by decide) (by omega)) ?_
                refine xi_iconst (pc' := 11) (v := 1) kc_11_10 rfl rfl ?_
                refine xi_goto (pc' := 15) kc_11_11 rfl ?_
                refine xi_ireturn kc_11_15 mr_11 rfl ?_
                show xw J ov 99 16 (11, [(0, .ref 115), (1, .int a12), (2, .int a14), (3, .int a16)], [.int 1], hh279) _
                refine xi_ift (pc' := 21) kc_16_11 rfl rfl ?_
                refine xi_iload_n (pc' := 22) (x := a12) kc_16_21 rfl rfl ?_
                refine xi_iff (pc' := 25) kc_16_22 rfl (xc_lt_f (X := a12.toInt) (Y := 0) rfl (by decide) (by omega)) ?_
                refine xi_iload_n (pc' := 26) (x := a16) kc_16_25 rfl rfl ?_
                refine xi_iload_n (pc' := 27) (x := a14) kc_16_26 rfl rfl ?_
                refine xi_iff (pc' := 30) kc_16_27 rfl (xc_ne_f (X := a14.toInt) (Y := 0) rfl (by decide) (by omega)) ?_
                refine xi_bipush (pc' := 32) (v := (-20)) kc_16_30 rfl rfl ?_
                refine xi_goto (pc' := 36) kc_16_32 rfl ?_
                refine xi_cmt (pc' := 46) kc_16_36 rfl (xc_ge_t (X := a16.toInt) (Y := (-20)) rfl (by decide) (by omega)) ?_
                refine xi_iload_n (pc' := 47) (x := a12) kc_16_46 rfl rfl ?_
                refine xi_sipush (pc' := 50) (v := 599) kc_16_47 rfl rfl ?_
                refine xi_cmf (pc' := 53) kc_16_50 rfl (xc_gt_f (X := a12.toInt) (Y := 599) rfl (by decide) (by omega)) ?_
                refine xi_iload_n (pc' := 54) (x := a16) kc_16_53 rfl rfl ?_
                refine xi_iload_n (pc' := 55) (x := a14) kc_16_54 rfl rfl ?_
                refine xi_iff (pc' := 58) kc_16_55 rfl (xc_ne_f (X := a14.toInt) (Y := 0) rfl (by decide) (by omega)) ?_
                refine xi_bipush (pc' := 60) (v := 30) kc_16_58 rfl rfl ?_
                refine xi_goto (pc' := 65) kc_16_60 rfl ?_
                refine xi_cmf (pc' := 68) kc_16_65 rfl (xc_le_f (X := a16.toInt) (Y := 30) rfl (by decide) (by omega)) ?_
                refine xi_iload_n (pc' := 69) (x := a16) kc_16_68 rfl rfl ?_
                refine xi_bipush (pc' := 71) (v := 99) kc_16_69 rfl rfl ?_
                refine xi_cmt (pc' := 81) kc_16_71 rfl (xc_eq_t (X := a16.toInt) (Y := 99) rfl (by decide) (by omega)) ?_
                refine xi_iload_n (pc' := 82) (x := a14) kc_16_81 rfl rfl ?_
                refine xi_iff (pc' := 85) kc_16_82 rfl (xc_ne_f (X := a14.toInt) (Y := 0) rfl (by decide) (by omega)) ?_
                refine xi_aload_n (pc' := 86) (x := 115) kc_16_85 rfl rfl ?_
                refine xi_getfield (pc' := 89) (v := .ref 123) kc_16_86 rfl rfl rfl eh278.1 rfl ?_
                refine xi_iload_n (pc' := 90) (x := a12) kc_16_89 rfl rfl ?_
                have A281 := ((eh278.2.1 123 (by decide)).trans ((eh261.2.1 123 (by decide)).trans ((eh212.2.1 123 (by decide)).trans ((eh200.2.1 123 (by decide)).trans A2))))
                refine xi_iaload (pc' := 91) (v := v211) kc_16_90 rfl A281 (by decide) rfl (xi_in (by omega) (by rw [hy2]; omega)) (xE_ld H9 (by first | omega | decide) (by first | omega | decide) (by omega) ev211) ?_
                refine xi_goto (pc' := 100) kc_16_91 rfl ?_
                refine xi_istore (pc' := 102) (lv' := [(4, .int v211), (0, .ref 115), (1, .int a12), (2, .int a14), (3, .int a16)]) kc_16_100 rfl rfl (xm_lt ml_16 rfl) ?_
                refine xi_aload_n (pc' := 103) (x := 115) kc_16_102 rfl rfl ?_
                refine xi_getfield (pc' := 106) (v := .ref 123) kc_16_103 rfl rfl rfl eh278.1 rfl ?_
                refine xi_iload_n (pc' := 107) (x := a12) kc_16_106 rfl rfl ?_
                refine xi_iload_n (pc' := 108) (x := a14) kc_16_107 rfl rfl ?_
                refine xi_iff (pc' := 111) kc_16_108 rfl (xc_ne_f (X := a14.toInt) (Y := 0) rfl (by decide) (by omega)) ?_
                refine xi_iload_n (pc' := 112) (x := a16) kc_16_111 rfl rfl ?_
                refine xi_goto (pc' := 121) kc_16_112 rfl ?_
                obtain ⟨y282, s282, hy282, ry282⟩ := xj_set (v := a16) hy2 ry2 a12 (by first | omega | decide) (by first | omega | decide)
                refine xi_iastore (pc' := 122) (x' := y282) kc_16_121 rfl A281 rfl (xi_in (by omega) (by rw [hy2]; omega)) s282 (fun hh282 eh282 => ?_)
                have K283 := xk_pa K280 (xk_wa (by decide +kernel)) xD_123 hy282 ry282 eh282
                refine xi_aload_n (pc' := 123) (x := 115) kc_16_122 rfl rfl ?_
                have A284 := ((eh282.2.1 115 (by decide)).trans eh278.1)
                refine xi_getfield (pc' := 126) (v := .ref 124) kc_16_123 rfl rfl rfl A284 rfl ?_
                refine xi_iload_n (pc' := 127) (x := a12) kc_16_126 rfl rfl ?_
                refine xi_iload_n (pc' := 128) (x := a14) kc_16_127 rfl rfl ?_
                refine xi_iconst (pc' := 129) (v := 1) kc_16_128 rfl rfl ?_
                refine xi_cmt (pc' := 136) kc_16_129 rfl (xc_ne_t (X := a14.toInt) (Y := 1) rfl (by decide) (by omega)) ?_
                refine xi_aload_n (pc' := 137) (x := 115) kc_16_136 rfl rfl ?_
                refine xi_getfield (pc' := 140) (v := .ref 124) kc_16_137 rfl rfl rfl A284 rfl ?_
                refine xi_iload_n (pc' := 141) (x := a12) kc_16_140 rfl rfl ?_
                obtain ⟨v285, ev285, bv285, dv285⟩ := xj_get hy4 ry4 (i := a12) (by omega) (by omega)
                have A286 := ((eh282.2.1 124 (by decide)).trans ((eh278.2.1 124 (by decide)).trans ((eh261.2.1 124 (by decide)).trans ((eh212.2.1 124 (by decide)).trans ((eh200.2.1 124 (by decide)).trans A4)))))
                refine xi_iaload (pc' := 142) (v := v285) kc_16_141 rfl A286 (by decide) rfl (xi_in (by omega) (by rw [hy4]; omega)) ev285 ?_
                obtain ⟨y287, s287, hy287, ry287⟩ := xj_set (v := v285) hy4 ry4 a12 (by first | omega | decide) (by first | omega | decide)
                refine xi_iastore (pc' := 143) (x' := y287) kc_16_142 rfl A286 rfl (xi_in (by omega) (by rw [hy4]; omega)) s287 (fun hh287 eh287 => ?_)
                have K288 := xk_pa K283 (xk_wa (by decide +kernel)) xD_124 hy287 ry287 eh287
                refine xi_aload_n (pc' := 144) (x := 115) kc_16_143 rfl rfl ?_
                refine xi_iconst (pc' := 145) (v := 0) kc_16_144 rfl rfl ?_
                have A289 := ((eh287.2.1 115 (by decide)).trans A284)
                refine xi_putfield (pc' := 148) (fs' := [.int 0, .int u264, .ref 116, .ref 117, .ref 118, .ref 119, .ref 120, .ref 121, .ref 122, .ref 123, .ref 124, .ref 125, .ref 126, .ref 127, .ref 128, .ref 129, .int u265, .ref 130, .int u266, .ref 131, .ref 132, .ref 133, .ref 134, .int u267, .ref 135, .ref 136, .ref 137, .ref 138, .ref 139, .ref 140, .ref 141, .ref 142, .int u268, .int u269, .int u270, .ref 143, .ref 144, .ref 145, .ref 146, .ref 147, .ref 148, .int 0, .ref 149, .ref 150, .ref 151, .int u272, .ref 152, .ref 153, .ref 154, .ref 155, .ref 156, .ref 157, .ref 158, .ref 159, .int u273, .ref 160, .int u274, .ref 161, .ref 162, .ref 163, .ref 164, .int u275, .ref 165, .ref 166]) kc_16_145 rfl rfl rfl A289 rfl rfl rfl (Nat.le_of_ble_eq_true rfl) rfl (fun hh291 eh290 => ?_)
                have K292 := xk_pf (k := 41) (v := 0) K288 (xk_wf (by decide +kernel)) xD_115 A289 rfl (by first | omega | decide) (by first | omega | decide) eh290 rfl
                refine xi_iload (pc' := 150) (x := v211) kc_16_148 rfl rfl ?_
                refine xi_ireturn kc_16_150 mr_16 rfl ?_
                show xw J ov 100 195 (335, [(4, .int x4), (3, .ref 167), (2, .ref 115), (1, .ref 0), (0, .ref 1000000)], [.int v211], hh291) _
                refine xi_pop (pc' := 336) kc_195_335 rfl rfl ?_
                refine xi_goto (pc' := 1501) kc_195_336 rfl ?_
                obtain ⟨v293, ev293⟩ : ∃ q : Int32, x4 + 6 = q := ⟨_, rfl⟩
                have zv293 : v293.toInt = (x4.toInt + 6) := by rw [← ev293]; exact (xz_add (X := x4.toInt) (Y := 6) rfl (by decide) (by omega) (by omega)).trans (by omega)
                refine xi_iinc (pc' := 1504) (x := x4) (v := v293) (lv' := [(4, .int v293), (3, .ref 167), (2, .ref 115), (1, .ref 0), (0, .ref 1000000)]) kc_195_1501 rfl rfl ev293 rfl (xm_lt ml_195 rfl) ?_
                refine xi_goto (pc' := 23) kc_195_1504 rfl ?_
                have A294 := ((eh290.2.1 6 (by decide)).trans ((eh287.2.1 6 (by decide)).trans ((eh282.2.1 6 (by decide)).trans ((eh278.2.1 6 (by decide)).trans ((eh261.2.1 6 (by decide)).trans eh212.1)))))
                have A295 := ((eh290.2.1 123 (by decide)).trans ((eh287.2.1 123 (by decide)).trans eh282.1))
                have A296 := ((eh290.2.1 9 (by decide)).trans ((eh287.2.1 9 (by decide)).trans ((eh282.2.1 9 (by decide)).trans ((eh278.2.1 9 (by decide)).trans ((eh261.2.1 9 (by decide)).trans ((eh212.2.1 9 (by decide)).trans ((eh200.2.1 9 (by decide)).trans A3)))))))
                have A297 := ((eh290.2.1 124 (by decide)).trans eh287.1)
                have A298 := ((eh290.2.1 7 (by decide)).trans ((eh287.2.1 7 (by decide)).trans ((eh282.2.1 7 (by decide)).trans ((eh278.2.1 7 (by decide)).trans eh261.1))))
                have A299 := ((eh290.2.1 10 (by decide)).trans ((eh287.2.1 10 (by decide)).trans ((eh282.2.1 10 (by decide)).trans ((eh278.2.1 10 (by decide)).trans ((eh261.2.1 10 (by decide)).trans ((eh212.2.1 10 (by decide)).trans ((eh200.2.1 10 (by decide)).trans A6)))))))
                have A300 := ((eh290.2.1 5 (by decide)).trans ((eh287.2.1 5 (by decide)).trans ((eh282.2.1 5 (by decide)).trans ((eh278.2.1 5 (by decide)).trans ((eh261.2.1 5 (by decide)).trans A215)))))
                have A301 := ((eh290.2.1 8 (by decide)).trans ((eh287.2.1 8 (by decide)).trans ((eh282.2.1 8 (by decide)).trans ((eh278.2.1 8 (by decide)).trans ((eh261.2.1 8 (by decide)).trans ((eh212.2.1 8 (by decide)).trans ((eh200.2.1 8 (by decide)).trans A10)))))))
                exact kk v293 hh291 (by omega) K292 ⟨((K292.2.1 (0, 9) (by decide +kernel)).trans (I.1.trans (K292.2.1 (115, 1) (by decide +kernel)).symm)), (xWW_fr I.2.1 (K292.2.1 (64, 0) (by decide +kernel)) (K292.2.1 (121, 0) (by decide +kernel))), (xSG_fr I.2.2.1 (fun l hl => K292.2.1 l (xk_el (by decide +kernel) hl))), (by rw [(K292.2.1 (13, 0) (by decide +kernel)), (K292.2.1 (122, 0) (by decide +kernel))]; exact I.2.2.2.1), (by rw [(K292.2.1 (16, 0) (by decide +kernel)), (K292.2.1 (122, 0) (by decide +kernel))]; exact I.2.2.2.2.1), (by rw [(K292.2.1 (19, 0) (by decide +kernel)), (K292.2.1 (122, 0) (by decide +kernel))]; exact I.2.2.2.2.2.1), (by rw [(K292.2.1 (22, 0) (by decide +kernel)), (K292.2.1 (122, 0) (by decide +kernel))]; exact I.2.2.2.2.2.2.1), (by rw [(K292.2.1 (25, 0) (by decide +kernel)), (K292.2.1 (122, 0) (by decide +kernel))]; exact I.2.2.2.2.2.2.2.1), (by rw [(K292.2.1 (28, 0) (by decide +kernel)), (K292.2.1 (122, 0) (by decide +kernel))]; exact I.2.2.2.2.2.2.2.2.1), (xE_mk A294 A295 (xE_set H9 (by first | omega | decide) (by omega) (by omega) (by omega) s212 s282)), (xE_mk A296 A297 (xE_id H10 ev285 s287)), (xL_mk A298 A294 HL261), (xL_mk A299 A296 H12), (xl_of A300 rfl), (xl_of A301 rfl), (xGR_fr I.2.2.2.2.2.2.2.2.2.2.2.2.2.2.2.1 K292.2.1 (by decide +kernel) (by decide +kernel)), (xGR_fr I.2.2.2.2.2.2.2.2.2.2.2.2.2.2.2.2.1 K292.2.1 (by decide +kernel) (by decide +kernel)), ((K292.2.1 (1, 5) (by decide +kernel)).trans (I.2.2.2.2.2.2.2.2.2.2.2.2.2.2.2.2.2.1.trans (K292.2.1 (115, 23) (by decide +kernel)).symm)), (xGR_fr I.2.2.2.2.2.2.2.2.2.2.2.2.2.2.2.2.2.2.1 K292.2.1 (by decide +kernel) (by decide +kernel)), (xGR_fr I.2.2.2.2.2.2.2.2.2.2.2.2.2.2.2.2.2.2.2.1 K292.2.1 (by decide +kernel) (by decide +kernel)), (xGR_fr I.2.2.2.2.2.2.2.2.2.2.2.2.2.2.2.2.2.2.2.2.1 K292.2.1 (by decide +kernel) (by decide +kernel)), (xGR_fr I.2.2.2.2.2.2.2.2.2.2.2.2.2.2.2.2.2.2.2.2.2.1 K292.2.1 (by decide +kernel) (by decide +kernel)), (by rw [(K292.2.1 (63, 2) (by decide +kernel)), (K292.2.1 (139, 0) (by decide +kernel)), (K292.2.1 (1, 5) (by decide +kernel))]; exact I.2.2.2.2.2.2.2.2.2.2.2.2.2.2.2.2.2.2.2.2.2.2.1), ((K292.2.1 (0, 8) (by decide +kernel)).trans (I.2.2.2.2.2.2.2.2.2.2.2.2.2.2.2.2.2.2.2.2.2.2.2.1.trans (K292.2.1 (115, 34) (by decide +kernel)).symm)), (xGR_fr I.2.2.2.2.2.2.2.2.2.2.2.2.2.2.2.2.2.2.2.2.2.2.2.2.1 K292.2.1 (by decide +kernel) (by decide +kernel)), (xGR_fr I.2.2.2.2.2.2.2.2.2.2.2.2.2.2.2.2.2.2.2.2.2.2.2.2.2.1 K292.2.1 (by decide +kernel) (by decide +kernel)), (xGR_fr I.2.2.2.2.2.2.2.2.2.2.2.2.2.2.2.2.2.2.2.2.2.2.2.2.2.2.1 K292.2.1 (by decide +kernel) (by decide +kernel)), (xGR_fr I.2.2.2.2.2.2.2.2.2.2.2.2.2.2.2.2.2.2.2.2.2.2.2.2.2.2.2.1 K292.2.1 (by decide +kernel) (by decide +kernel)), (xts_fr I.2.2.2.2.2.2.2.2.2.2.2.2.2.2.2.2.2.2.2.2.2.2.2.2.2.2.2.2.1 (fun l hl => K292.2.1 l (xk_el (by decide +kernel) hl))), ((K292.2.1 (63, 3) (by decide +kernel)).trans I.2.2.2.2.2.2.2.2.2.2.2.2.2.2.2.2.2.2.2.2.2.2.2.2.2.2.2.2.2)⟩
            · refine xi_cmf (pc' := 77) kc_95_74 rfl (xc_eq_f (X := a16.toInt) (Y := 99) rfl (by decide) (by omega)) ?_
              refine xi_aload_n (pc' := 78) (x := 0) kc_95_77 rfl rfl ?_
              refine xi_bipush (pc' := 80) (v := (-6)) kc_95_78 rfl rfl ?_
              refine xi_virtual (mj := 96) (as := [.int (-6)]) (st1 := []) (lv0 := [(0, .ref 0), (1, .int (-6))]) kc_95_80 rfl rfl rfl rfl rfl A19 (Nat.le_of_ble_eq_true rfl) (hJ _ _ _ _ (by decide)) (xm_le ml_96 rfl) rfl ?_
              refine xi_ldc_w (pc' := 3) (v := 1000000000) kc_96_0 rfl rfl ?_
              refine xi_aload_n (pc' := 4) (x := 0) kc_96_3 rfl rfl ?_
              refine xi_iload_n (pc' := 5) (x := (-6)) kc_96_4 rfl rfl ?_
              refine xi_virtual (mj := 90) (as := [.int (-6)]) (st1 := [.int 1000000000]) (lv0 := [(0, .ref 0), (1, .int (-6))]) kc_96_5 rfl rfl rfl rfl rfl A19 (Nat.le_of_ble_eq_true rfl) (hJ _ _ _ _ (by decide)) (xm_le ml_90 rfl) rfl ?_
              refine xi_iload_n (pc' := 1) (x := (-6)) kc_90_0 rfl rfl ?_
              refine xi_ineg (pc' := 2) (v := 6) kc_90_1 rfl rfl ?_
              refine xi_istore_n (pc' := 3) (lv' := [(2, .int 6), (0, .ref 0), (1, .int (-6))]) kc_90_2 rfl rfl (xm_lt ml_90 rfl) ?_
              refine xi_iload_n (pc' := 4) (x := 6) kc_90_3 rfl rfl ?_
              refine xi_iff (pc' := 7) kc_90_4 rfl rfl ?_
              refine xi_iload_n (pc' := 8) (x := 6) kc_90_7 rfl rfl ?_
              refine xi_aload_n (pc' := 9) (x := 0) kc_90_8 rfl rfl ?_
              refine xi_getfield (pc' := 12) (v := .ref 94) kc_90_9 rfl rfl rfl A19 rfl ?_
              obtain ⟨y302, A302, hy302, ry302⟩ := xk_arr K.1 xD_94
              refine xi_arraylength (pc' := 13) (n := 7) (v := 7) kc_90_12 rfl (xl_lenI (by decide) (by decide) A302 hy302) rfl ?_
              refine xi_cmf (pc' := 16) kc_90_13 rfl rfl ?_
              refine xi_aload_n (pc' := 17) (x := 0) kc_90_16 rfl rfl ?_
              refine xi_getfield (pc' := 20) (v := .ref 94) kc_90_17 rfl rfl rfl A19 rfl ?_
              refine xi_iload_n (pc' := 21) (x := 6) kc_90_20 rfl rfl ?_
              refine xi_dup2 (pc' := 22) kc_90_21 rfl ⟨rfl, rfl⟩ ?_
              obtain ⟨v303, ev303, bv303, dv303⟩ := xj_get hy302 ry302 (i := 6) (by decide) (by decide)
              refine xi_iaload (pc' := 23) (v := v303) kc_90_22 rfl A302 (by decide) rfl (xi_in (by decide) (by rw [hy302]; decide)) ev303 ?_
              refine xi_iconst (pc' := 24) (v := 1) kc_90_23 rfl rfl ?_
              obtain ⟨v304, ev304⟩ : ∃ q : Int32, (v303 : Int32) + 1 = q := ⟨_, rfl⟩
              have rv304 := xc_rng v304
              refine xi_iadd (pc' := 25) (v := v304) kc_90_24 rfl ev304 ?_
              obtain ⟨y305, s305, hy305, ry305⟩ := xj_set (v := v304) hy302 ry302 6 (by first | omega | decide) (by first | omega | decide)
              refine xi_iastore (pc' := 26) (x' := y305) kc_90_25 rfl A302 rfl (xi_in (by decide) (by rw [hy302]; decide)) s305 (fun hh305 eh305 => ?_)
              have K306 := xk_pa K (xk_wa (by decide +kernel)) xD_94 hy305 ry305 eh305
              have KR307 := xk_pa KR (xk_wa (by decide +kernel)) xD_94 hy305 ry305 eh305
              refine xi_iload_n (pc' := 27) (x := (-6)) kc_90_26 rfl rfl ?_
              refine xi_ireturn kc_90_27 mr_90 rfl ?_
              show xw J ov 98 96 (8, [(0, .ref 0), (1, .int (-6))], [.int (-6), .int 1000000000], hh305) _
              refine xi_isub (pc' := 9) (v := 1000000006) kc_96_8 rfl rfl ?_
              refine xi_ireturn kc_96_9 mr_96 rfl ?_
              show xw J ov 99 95 (83, [(5, .int 30), (4, .int (-20)), (0, .ref 0), (1, .int a12), (2, .int a14), (3, .int a16)], [.int 1000000006], hh305) _
              refine xi_ireturn kc_95_83 mr_95 rfl ?_
              show xw J ov 100 195 (312, [(4, .int x4), (3, .ref 167), (2, .ref 115), (1, .ref 0), (0, .ref 1000000)], [.int 1000000006], hh305) _
              refine xi_pop (pc' := 313) kc_195_312 rfl rfl ?_
              refine xi_aload_n (pc' := 314) (x := 115) kc_195_313 rfl rfl ?_
              refine xi_aload_n (pc' := 315) (x := 1000000) kc_195_314 rfl rfl ?_
              refine xi_iload (pc' := 317) (x := x4) kc_195_315 rfl rfl ?_
              refine xi_iconst (pc' := 318) (v := 1) kc_195_317 rfl rfl ?_
              refine xi_iadd (pc' := 319) (v := v11) kc_195_318 rfl ev11 ?_
              refine xi_ialoadO (pc' := 320) (v := a12) kc_195_319 rfl (by decide) hov0 (xi_in (by omega) (by omega)) ea12 ?_
              refine xi_aload_n (pc' := 321) (x := 1000000) kc_195_320 rfl rfl ?_
              refine xi_iload (pc' := 323) (x := x4) kc_195_321 rfl rfl ?_
              refine xi_iconst (pc' := 324) (v := 2) kc_195_323 rfl rfl ?_
              refine xi_iadd (pc' := 325) (v := v13) kc_195_324 rfl ev13 ?_
              refine xi_ialoadO (pc' := 326) (v := a14) kc_195_325 rfl (by decide) hov0 (xi_in (by omega) (by omega)) ea14 ?_
              refine xi_aload_n (pc' := 327) (x := 1000000) kc_195_326 rfl rfl ?_
              refine xi_iload (pc' := 329) (x := x4) kc_195_327 rfl rfl ?_
              refine xi_iconst (pc' := 330) (v := 3) kc_195_329 rfl rfl ?_
              refine xi_iadd (pc' := 331) (v := v15) kc_195_330 rfl ev15 ?_
              refine xi_ialoadO (pc' := 332) (v := a16) kc_195_331 rfl (by decide) hov0 (xi_in (by omega) (by omega)) ea16 ?_
              obtain ⟨u308, u309, u310, u311, u312, u313, u314, u315, u316, u317, u318, u319, u320, bu308, bu309, bu310, bu311, bu312, bu313, bu314, bu315, bu316, bu317, bu318, bu319, bu320, A321⟩ := xq_115 K.1
              have A322 := ((eh305.2.1 115 (by decide)).trans A321)
              refine xi_virtual (mj := 16) (as := [.int a12, .int a14, .int a16]) (st1 := []) (lv0 := [(0, .ref 115), (1, .int a12), (2, .int a14), (3, .int a16)]) kc_195_332 rfl rfl rfl rfl rfl A322 (Nat.le_of_ble_eq_true rfl) (hJ _ _ _ _ (by decide)) (xm_le ml_16 rfl) rfl ?_
              refine xi_aload_n (pc' := 1) (x := 115) kc_16_0 rfl rfl ?_
              refine xi_iconst (pc' := 2) (v := 0) kc_16_1 rfl rfl ?_
              refine xi_putfield (pc' := 5) (fs' := [.int 0, .int u309, .ref 116, .ref 117, .ref 118, .ref 119, .ref 120, .ref 121, .ref 122, .ref 123, .ref 124, .ref 125, .ref 126, .ref 127, .ref 128, .ref 129, .int u310, .ref 130, .int u311, .ref 131, .ref 132, .ref 133, .ref 134, .int u312, .ref 135, .ref 136, .ref 137, .ref 138, .ref 139, .ref 140, .ref 141, .ref 142, .int u313, .int u314, .int u315, .ref 143, .ref 144, .ref 145, .ref 146, .ref 147, .ref 148, .int u316, .ref 149, .ref 150, .ref 151, .int u317, .ref 152, .ref 153, .ref 154, .ref 155, .ref 156, .ref 157, .ref 158, .ref 159, .int u318, .ref 160, .int u319, .ref 161, .ref 162, .ref 163, .ref 164, .int u320, .ref 165, .ref 166]) kc_16_2 rfl rfl rfl A322 rfl rfl rfl (Nat.le_of_ble_eq_true rfl) rfl (fun hh324 eh323 => ?_)
              have K325 := xk_pf (k := 0) (v := 0) K306 (xk_wf (by decide +kernel)) xD_115 A322 rfl (by first | omega | decide) (by first | omega | decide) eh323 rfl
              have KR326 := xk_pf (k := 0) (v := 0) KR307 (xk_wf (by decide +kernel)) xD_115 A322 rfl (by first | omega | decide) (by first | omega | decide) eh323 rfl
              refine xi_iload_n (pc' := 6) (x := a14) kc_16_5 rfl rfl ?_
              refine xi_iconst (pc' := 7) (v := 0) kc_16_6 rfl rfl ?_
              refine xi_iconst (pc' := 8) (v := 1) kc_16_7 rfl rfl ?_
              refine xi_static (mj := 11) (as := [.int a14, .int 0, .int 1]) (st1 := []) (lv0 := [(0, .int a14), (1, .int 0), (2, .int 1)]) kc_16_8 rfl rfl (Nat.le_of_ble_eq_true rfl) rfl rfl (Nat.le_of_ble_eq_true rfl) (hJ _ _ _ _ (by decide)) (xm_le ml_11 rfl) rfl ?_
              refine xi_iload_n (pc' := 1) (x := a14) kc_11_0 rfl rfl ?_
              refine xi_iload_n (pc' := 2) (x := 0) kc_11_1 rfl rfl ?_
              refine xi_cmf (pc' := 5) kc_11_2 rfl (xc_lt_f (X := a14.toInt) (Y := 0) rfl (by decide) (by omega)) ?_
              refine xi_iload_n (pc' := 6) (x := a14) kc_11_5 rfl rfl ?_
              refine xi_iload_n (pc' := 7) (x := 1) kc_11_6 rfl rfl ?_
              refine xi_cmf (pc' := 10) kc_11_7 rfl (xc_gt_f (X := a14.toInt) (Y := 1) rfl (by decide) (by omega)) ?_
              refine xi_iconst (pc' := 11) (v := 1) kc_11_10 rfl rfl ?_
              refine xi_goto (pc' := 15) kc_11_11 rfl ?_
              refine xi_ireturn kc_11_15 mr_11 rfl ?_
              show xw J ov 99 16 (11, [(0, .ref 115), (1, .int a12), (2, .int a14), (3, .int a16)], [.int 1], hh324) _
              refine xi_ift (pc' := 21) kc_16_11 rfl rfl ?_
              refine xi_iload_n (pc' := 22) (x := a12) kc_16_21 rfl rfl ?_
              refine xi_iff (pc' := 25) kc_16_22 rfl (xc_lt_f (X := a12.toInt) (Y := 0) rfl (by decide) (by omega)) ?_
              refine xi_iload_n (pc' := 26) (x := a16) kc_16_25 rfl rfl ?_
              refine xi_iload_n (pc' := 27) (x := a14) kc_16_26 rfl rfl ?_
              refine xi_iff (pc' := 30) kc_16_27 rfl (xc_ne_f (X := a14.toInt) (Y := 0) rfl (by decide) (by omega)) ?_
              refine xi_bipush (pc' := 32) (v := (-20)) kc_16_30 rfl rfl ?_
              refine xi_goto (pc' := 36) kc_16_32 rfl ?_
              refine xi_cmt (pc' := 46) kc_16_36 rfl (xc_ge_t (X := a16.toInt) (Y := (-20)) rfl (by decide) (by omega)) ?_
              refine xi_iload_n (pc' := 47) (x := a12) kc_16_46 rfl rfl ?_
              refine xi_sipush (pc' := 50) (v := 599) kc_16_47 rfl rfl ?_
              refine xi_cmf (pc' := 53) kc_16_50 rfl (xc_gt_f (X := a12.toInt) (Y := 599) rfl (by decide) (by omega)) ?_
              refine xi_iload_n (pc' := 54) (x := a16) kc_16_53 rfl rfl ?_
              refine xi_iload_n (pc' := 55) (x := a14) kc_16_54 rfl rfl ?_
              refine xi_iff (pc' := 58) kc_16_55 rfl (xc_ne_f (X := a14.toInt) (Y := 0) rfl (by decide) (by omega)) ?_
              refine xi_bipush (pc' := 60) (v := 30) kc_16_58 rfl rfl ?_
              refine xi_goto (pc' := 65) kc_16_60 rfl ?_
              refine xi_cmf (pc' := 68) kc_16_65 rfl (xc_le_f (X := a16.toInt) (Y := 30) rfl (by decide) (by omega)) ?_
              refine xi_iload_n (pc' := 69) (x := a16) kc_16_68 rfl rfl ?_
              refine xi_bipush (pc' := 71) (v := 99) kc_16_69 rfl rfl ?_
              refine xi_cmf (pc' := 74) kc_16_71 rfl (xc_eq_f (X := a16.toInt) (Y := 99) rfl (by decide) (by omega)) ?_
              refine xi_aload_n (pc' := 75) (x := 115) kc_16_74 rfl rfl ?_
              refine xi_bipush (pc' := 77) (v := (-6)) kc_16_75 rfl rfl ?_
              refine xi_virtual (mj := 17) (as := [.int (-6)]) (st1 := []) (lv0 := [(0, .ref 115), (1, .int (-6))]) kc_16_77 rfl rfl rfl rfl rfl eh323.1 (Nat.le_of_ble_eq_true rfl) (hJ _ _ _ _ (by decide)) (xm_le ml_17 rfl) rfl ?_
              refine xi_aload_n (pc' := 1) (x := 115) kc_17_0 rfl rfl ?_
              refine xi_getfield (pc' := 4) (v := .ref 140) kc_17_1 rfl rfl rfl eh323.1 rfl ?_
              refine xi_iload_n (pc' := 5) (x := (-6)) kc_17_4 rfl rfl ?_
              refine xi_ineg (pc' := 6) (v := 6) kc_17_5 rfl rfl ?_
              refine xi_dup2 (pc' := 7) kc_17_6 rfl ⟨rfl, rfl⟩ ?_
              obtain ⟨y327, A327, hy327, ry327⟩ := xk_arr K.1 xD_140
              obtain ⟨v328, ev328, bv328, dv328⟩ := xj_get hy327 ry327 (i := 6) (by decide) (by decide)
              have A329 := ((eh323.2.1 140 (by decide)).trans ((eh305.2.1 140 (by decide)).trans A327))
              refine xi_iaload (pc' := 8) (v := v328) kc_17_7 rfl A329 (by decide) rfl (xi_in (by decide) (by rw [hy327]; decide)) ev328 ?_
              refine xi_iconst (pc' := 9) (v := 1) kc_17_8 rfl rfl ?_
              obtain ⟨v330, ev330⟩ : ∃ q : Int32, (v328 : Int32) + 1 = q := ⟨_, rfl⟩
              have rv330 := xc_rng v330
              refine xi_iadd (pc' := 10) (v := v330) kc_17_9 rfl ev330 ?_
              obtain ⟨y331, s331, hy331, ry331⟩ := xj_set (v := v330) hy327 ry327 6 (by first | omega | decide) (by first | omega | decide)
              refine xi_iastore (pc' := 11) (x' := y331) kc_17_10 rfl A329 rfl (xi_in (by decide) (by rw [hy327]; decide)) s331 (fun hh331 eh331 => ?_)
              have K332 := xk_pa K325 (xk_wa (by decide +kernel)) xD_140 hy331 ry331 eh331
              have KR333 := xk_pa KR326 (xk_wa (by decide +kernel)) xD_140 hy331 ry331 eh331
              refine xi_ldc (pc' := 13) (v := 1000000000) kc_17_11 rfl rfl ?_
              refine xi_iload_n (pc' := 14) (x := (-6)) kc_17_13 rfl rfl ?_
              refine xi_isub (pc' := 15) (v := 1000000006) kc_17_14 rfl rfl ?_
              refine xi_ireturn kc_17_15 mr_17 rfl ?_
              show xw J ov 99 16 (80, [(0, .ref 115), (1, .int a12), (2, .int a14), (3, .int a16)], [.int 1000000006], hh331) _
              refine xi_ireturn kc_16_80 mr_16 rfl ?_
              show xw J ov 100 195 (335, [(4, .int x4), (3, .ref 167), (2, .ref 115), (1, .ref 0), (0, .ref 1000000)], [.int 1000000006], hh331) _
              refine xi_pop (pc' := 336) kc_195_335 rfl rfl ?_
              refine xi_goto (pc' := 1501) kc_195_336 rfl ?_
              obtain ⟨v334, ev334⟩ : ∃ q : Int32, x4 + 6 = q := ⟨_, rfl⟩
              have zv334 : v334.toInt = (x4.toInt + 6) := by rw [← ev334]; exact (xz_add (X := x4.toInt) (Y := 6) rfl (by decide) (by omega) (by omega)).trans (by omega)
              refine xi_iinc (pc' := 1504) (x := x4) (v := v334) (lv' := [(4, .int v334), (3, .ref 167), (2, .ref 115), (1, .ref 0), (0, .ref 1000000)]) kc_195_1501 rfl rfl ev334 rfl (xm_lt ml_195 rfl) ?_
              refine xi_goto (pc' := 23) kc_195_1504 rfl ?_
              exact kk v334 hh331 (by omega) K332 (xI_kept I KR333.2.1)
      · refine xi_cmf (pc' := 51) kc_95_48 rfl (xc_ge_f (X := a16.toInt) (Y := (-20)) rfl (by decide) (by omega)) ?_
        refine xi_aload_n (pc' := 52) (x := 0) kc_95_51 rfl rfl ?_
        refine xi_bipush (pc' := 54) (v := (-4)) kc_95_52 rfl rfl ?_
        refine xi_virtual (mj := 96) (as := [.int (-4)]) (st1 := []) (lv0 := [(0, .ref 0), (1, .int (-4))]) kc_95_54 rfl rfl rfl rfl rfl A19 (Nat.le_of_ble_eq_true rfl) (hJ _ _ _ _ (by decide)) (xm_le ml_96 rfl) rfl ?_
        refine xi_ldc_w (pc' := 3) (v := 1000000000) kc_96_0 rfl rfl ?_
        refine xi_aload_n (pc' := 4) (x := 0) kc_96_3 rfl rfl ?_
        refine xi_iload_n (pc' := 5) (x := (-4)) kc_96_4 rfl rfl ?_
        refine xi_virtual (mj := 90) (as := [.int (-4)]) (st1 := [.int 1000000000]) (lv0 := [(0, .ref 0), (1, .int (-4))]) kc_96_5 rfl rfl rfl rfl rfl A19 (Nat.le_of_ble_eq_true rfl) (hJ _ _ _ _ (by decide)) (xm_le ml_90 rfl) rfl ?_
        refine xi_iload_n (pc' := 1) (x := (-4)) kc_90_0 rfl rfl ?_
        refine xi_ineg (pc' := 2) (v := 4) kc_90_1 rfl rfl ?_
        refine xi_istore_n (pc' := 3) (lv' := [(2, .int 4), (0, .ref 0), (1, .int (-4))]) kc_90_2 rfl rfl (xm_lt ml_90 rfl) ?_
        refine xi_iload_n (pc' := 4) (x := 4) kc_90_3 rfl rfl ?_
        refine xi_iff (pc' := 7) kc_90_4 rfl rfl ?_
        refine xi_iload_n (pc' := 8) (x := 4) kc_90_7 rfl rfl ?_
        refine xi_aload_n (pc' := 9) (x := 0) kc_90_8 rfl rfl ?_
        refine xi_getfield (pc' := 12) (v := .ref 94) kc_90_9 rfl rfl rfl A19 rfl ?_
        obtain ⟨y335, A335, hy335, ry335⟩ := xk_arr K.1 xD_94
        refine xi_arraylength (pc' := 13) (n := 7) (v := 7) kc_90_12 rfl (xl_lenI (by decide) (by decide) A335 hy335) rfl ?_
        refine xi_cmf (pc' := 16) kc_90_13 rfl rfl ?_
        refine xi_aload_n (pc' := 17) (x := 0) kc_90_16 rfl rfl ?_
        refine xi_getfield (pc' := 20) (v := .ref 94) kc_90_17 rfl rfl rfl A19 rfl ?_
        refine xi_iload_n (pc' := 21) (x := 4) kc_90_20 rfl rfl ?_
        refine xi_dup2 (pc' := 22) kc_90_21 rfl ⟨rfl, rfl⟩ ?_
        obtain ⟨v336, ev336, bv336, dv336⟩ := xj_get hy335 ry335 (i := 4) (by decide) (by decide)
        refine xi_iaload (pc' := 23) (v := v336) kc_90_22 rfl A335 (by decide) rfl (xi_in (by decide) (by rw [hy335]; decide)) ev336 ?_
        refine xi_iconst (pc' := 24) (v := 1) kc_90_23 rfl rfl ?_
        obtain ⟨v337, ev337⟩ : ∃ q : Int32, (v336 : Int32) + 1 = q := ⟨_, rfl⟩
        have rv337 := xc_rng v337
        refine xi_iadd (pc' := 25) (v := v337) kc_90_24 rfl ev337 ?_
        obtain ⟨y338, s338, hy338, ry338⟩ := xj_set (v := v337) hy335 ry335 4 (by first | omega | decide) (by first | omega | decide)
        refine xi_iastore (pc' := 26) (x' := y338) kc_90_25 rfl A335 rfl (xi_in (by decide) (by rw [hy335]; decide)) s338 (fun hh338 eh338 => ?_)
        have K339 := xk_pa K (xk_wa (by decide +kernel)) xD_94 hy338 ry338 eh338
        have KR340 := xk_pa KR (xk_wa (by decide +kernel)) xD_94 hy338 ry338 eh338
        refine xi_iload_n (pc' := 27) (x := (-4)) kc_90_26 rfl rfl ?_
        refine xi_ireturn kc_90_27 mr_90 rfl ?_
        show xw J ov 98 96 (8, [(0, .ref 0), (1, .int (-4))], [.int (-4), .int 1000000000], hh338) _
        refine xi_isub (pc' := 9) (v := 1000000004) kc_96_8 rfl rfl ?_
        refine xi_ireturn kc_96_9 mr_96 rfl ?_
        show xw J ov 99 95 (57, [(5, .int 30), (4, .int (-20)), (0, .ref 0), (1, .int a12), (2, .int a14), (3, .int a16)], [.int 1000000004], hh338) _
        refine xi_ireturn kc_95_57 mr_95 rfl ?_
        show xw J ov 100 195 (312, [(4, .int x4), (3, .ref 167), (2, .ref 115), (1, .ref 0), (0, .ref 1000000)], [.int 1000000004], hh338) _
        refine xi_pop (pc' := 313) kc_195_312 rfl rfl ?_
        refine xi_aload_n (pc' := 314) (x := 115) kc_195_313 rfl rfl ?_
        refine xi_aload_n (pc' := 315) (x := 1000000) kc_195_314 rfl rfl ?_
        refine xi_iload (pc' := 317) (x := x4) kc_195_315 rfl rfl ?_
        refine xi_iconst (pc' := 318) (v := 1) kc_195_317 rfl rfl ?_
        refine xi_iadd (pc' := 319) (v := v11) kc_195_318 rfl ev11 ?_
        refine xi_ialoadO (pc' := 320) (v := a12) kc_195_319 rfl (by decide) hov0 (xi_in (by omega) (by omega)) ea12 ?_
        refine xi_aload_n (pc' := 321) (x := 1000000) kc_195_320 rfl rfl ?_
        refine xi_iload (pc' := 323) (x := x4) kc_195_321 rfl rfl ?_
        refine xi_iconst (pc' := 324) (v := 2) kc_195_323 rfl rfl ?_
        refine xi_iadd (pc' := 325) (v := v13) kc_195_324 rfl ev13 ?_
        refine xi_ialoadO (pc' := 326) (v := a14) kc_195_325 rfl (by decide) hov0 (xi_in (by omega) (by omega)) ea14 ?_
        refine xi_aload_n (pc' := 327) (x := 1000000) kc_195_326 rfl rfl ?_
        refine xi_iload (pc' := 329) (x := x4) kc_195_327 rfl rfl ?_
        refine xi_iconst (pc' := 330) (v := 3) kc_195_329 rfl rfl ?_
        refine xi_iadd (pc' := 331) (v := v15) kc_195_330 rfl ev15 ?_
        refine xi_ialoadO (pc' := 332) (v := a16) kc_195_331 rfl (by decide) hov0 (xi_in (by omega) (by omega)) ea16 ?_
        obtain ⟨u341, u342, u343, u344, u345, u346, u347, u348, u349, u350, u351, u352, u353, bu341, bu342, bu343, bu344, bu345, bu346, bu347, bu348, bu349, bu350, bu351, bu352, bu353, A354⟩ := xq_115 K.1
        have A355 := ((eh338.2.1 115 (by decide)).trans A354)
        refine xi_virtual (mj := 16) (as := [.int a12, .int a14, .int a16]) (st1 := []) (lv0 := [(0, .ref 115), (1, .int a12), (2, .int a14), (3, .int a16)]) kc_195_332 rfl rfl rfl rfl rfl A355 (Nat.le_of_ble_eq_true rfl) (hJ _ _ _ _ (by decide)) (xm_le ml_16 rfl) rfl ?_
        refine xi_aload_n (pc' := 1) (x := 115) kc_16_0 rfl rfl ?_
        refine xi_iconst (pc' := 2) (v := 0) kc_16_1 rfl rfl ?_
        refine xi_putfield (pc' := 5) (fs' := [.int 0, .int u342, .ref 116, .ref 117, .ref 118, .ref 119, .ref 120, .ref 121, .ref 122, .ref 123, .ref 124, .ref 125, .ref 126, .ref 127, .ref 128, .ref 129, .int u343, .ref 130, .int u344, .ref 131, .ref 132, .ref 133, .ref 134, .int u345, .ref 135, .ref 136, .ref 137, .ref 138, .ref 139, .ref 140, .ref 141, .ref 142, .int u346, .int u347, .int u348, .ref 143, .ref 144, .ref 145, .ref 146, .ref 147, .ref 148, .int u349, .ref 149, .ref 150, .ref 151, .int u350, .ref 152, .ref 153, .ref 154, .ref 155, .ref 156, .ref 157, .ref 158, .ref 159, .int u351, .ref 160, .int u352, .ref 161, .ref 162, .ref 163, .ref 164, .int u353, .ref 165, .ref 166]) kc_16_2 rfl rfl rfl A355 rfl rfl rfl (Nat.le_of_ble_eq_true rfl) rfl (fun hh357 eh356 => ?_)
        have K358 := xk_pf (k := 0) (v := 0) K339 (xk_wf (by decide +kernel)) xD_115 A355 rfl (by first | omega | decide) (by first | omega | decide) eh356 rfl
        have KR359 := xk_pf (k := 0) (v := 0) KR340 (xk_wf (by decide +kernel)) xD_115 A355 rfl (by first | omega | decide) (by first | omega | decide) eh356 rfl
        refine xi_iload_n (pc' := 6) (x := a14) kc_16_5 rfl rfl ?_
        refine xi_iconst (pc' := 7) (v := 0) kc_16_6 rfl rfl ?_
        refine xi_iconst (pc' := 8) (v := 1) kc_16_7 rfl rfl ?_
        refine xi_static (mj := 11) (as := [.int a14, .int 0, .int 1]) (st1 := []) (lv0 := [(0, .int a14), (1, .int 0), (2, .int 1)]) kc_16_8 rfl rfl (Nat.le_of_ble_eq_true rfl) rfl rfl (Nat.le_of_ble_eq_true rfl) (hJ _ _ _ _ (by decide)) (xm_le ml_11 rfl) rfl ?_
        refine xi_iload_n (pc' := 1) (x := a14) kc_11_0 rfl rfl ?_
        refine xi_iload_n (pc' := 2) (x := 0) kc_11_1 rfl rfl ?_
        refine xi_cmf (pc' := 5) kc_11_2 rfl (xc_lt_f (X := a14.toInt) (Y := 0) rfl (by decide) (by omega)) ?_
        refine xi_iload_n (pc' := 6) (x := a14) kc_11_5 rfl rfl ?_
        refine xi_iload_n (pc' := 7) (x := 1) kc_11_6 rfl rfl ?_
        refine xi_cmf (pc' := 10) kc_11_7 rfl (xc_gt_f (X := a14.toInt) (Y := 1) rfl (by decide) (by omega)) ?_
        refine xi_iconst (pc' := 11) (v := 1) kc_11_10 rfl rfl ?_
        refine xi_goto (pc' := 15) kc_11_11 rfl ?_
        refine xi_ireturn kc_11_15 mr_11 rfl ?_
        show xw J ov 99 16 (11, [(0, .ref 115), (1, .int a12), (2, .int a14), (3, .int a16)], [.int 1], hh357) _
        refine xi_ift (pc' := 21) kc_16_11 rfl rfl ?_
        refine xi_iload_n (pc' := 22) (x := a12) kc_16_21 rfl rfl ?_
        refine xi_iff (pc' := 25) kc_16_22 rfl (xc_lt_f (X := a12.toInt) (Y := 0) rfl (by decide) (by omega)) ?_
        refine xi_iload_n (pc' := 26) (x := a16) kc_16_25 rfl rfl ?_
        refine xi_iload_n (pc' := 27) (x := a14) kc_16_26 rfl rfl ?_
        refine xi_iff (pc' := 30) kc_16_27 rfl (xc_ne_f (X := a14.toInt) (Y := 0) rfl (by decide) (by omega)) ?_
        refine xi_bipush (pc' := 32) (v := (-20)) kc_16_30 rfl rfl ?_
        refine xi_goto (pc' := 36) kc_16_32 rfl ?_
        refine xi_cmf (pc' := 39) kc_16_36 rfl (xc_ge_f (X := a16.toInt) (Y := (-20)) rfl (by decide) (by omega)) ?_
        refine xi_aload_n (pc' := 40) (x := 115) kc_16_39 rfl rfl ?_
        refine xi_bipush (pc' := 42) (v := (-4)) kc_16_40 rfl rfl ?_
        refine xi_virtual (mj := 17) (as := [.int (-4)]) (st1 := []) (lv0 := [(0, .ref 115), (1, .int (-4))]) kc_16_42 rfl rfl rfl rfl rfl eh356.1 (Nat.le_of_ble_eq_true rfl) (hJ _ _ _ _ (by decide)) (xm_le ml_17 rfl) rfl ?_
        refine xi_aload_n (pc' := 1) (x := 115) kc_17_0 rfl rfl ?_
        refine xi_getfield (pc' := 4) (v := .ref 140) kc_17_1 rfl rfl rfl eh356.1 rfl ?_
        refine xi_iload_n (pc' := 5) (x := (-4)) kc_17_4 rfl rfl ?_
        refine xi_ineg (pc' := 6) (v := 4) kc_17_5 rfl rfl ?_
        refine xi_dup2 (pc' := 7) kc_17_6 rfl ⟨rfl, rfl⟩ ?_
        obtain ⟨y360, A360, hy360, ry360⟩ := xk_arr K.1 xD_140
        obtain ⟨v361, ev361, bv361, dv361⟩ := xj_get hy360 ry360 (i := 4) (by decide) (by decide)
        have A362 := ((eh356.2.1 140 (by decide)).trans ((eh338.2.1 140 (by decide)).trans A360))
        refine xi_iaload (pc' := 8) (v := v361) kc_17_7 rfl A362 (by decide) rfl (xi_in (by decide) (by rw [hy360]; decide)) ev361 ?_
        refine xi_iconst (pc' := 9) (v := 1) kc_17_8 rfl rfl ?_
        obtain ⟨v363, ev363⟩ : ∃ q : Int32, (v361 : Int32) + 1 = q := ⟨_, rfl⟩
        have rv363 := xc_rng v363
        refine xi_iadd (pc' := 10) (v := v363) kc_17_9 rfl ev363 ?_
        obtain ⟨y364, s364, hy364, ry364⟩ := xj_set (v := v363) hy360 ry360 4 (by first | omega | decide) (by first | omega | decide)
        refine xi_iastore (pc' := 11) (x' := y364) kc_17_10 rfl A362 rfl (xi_in (by decide) (by rw [hy360]; decide)) s364 (fun hh364 eh364 => ?_)
        have K365 := xk_pa K358 (xk_wa (by decide +kernel)) xD_140 hy364 ry364 eh364
        have KR366 := xk_pa KR359 (xk_wa (by decide +kernel)) xD_140 hy364 ry364 eh364
        refine xi_ldc (pc' := 13) (v := 1000000000) kc_17_11 rfl rfl ?_
        refine xi_iload_n (pc' := 14) (x := (-4)) kc_17_13 rfl rfl ?_
        refine xi_isub (pc' := 15) (v := 1000000004) kc_17_14 rfl rfl ?_
        refine xi_ireturn kc_17_15 mr_17 rfl ?_
        show xw J ov 99 16 (45, [(0, .ref 115), (1, .int a12), (2, .int a14), (3, .int a16)], [.int 1000000004], hh364) _
        refine xi_ireturn kc_16_45 mr_16 rfl ?_
        show xw J ov 100 195 (335, [(4, .int x4), (3, .ref 167), (2, .ref 115), (1, .ref 0), (0, .ref 1000000)], [.int 1000000004], hh364) _
        refine xi_pop (pc' := 336) kc_195_335 rfl rfl ?_
        refine xi_goto (pc' := 1501) kc_195_336 rfl ?_
        obtain ⟨v367, ev367⟩ : ∃ q : Int32, x4 + 6 = q := ⟨_, rfl⟩
        have zv367 : v367.toInt = (x4.toInt + 6) := by rw [← ev367]; exact (xz_add (X := x4.toInt) (Y := 6) rfl (by decide) (by omega) (by omega)).trans (by omega)
        refine xi_iinc (pc' := 1504) (x := x4) (v := v367) (lv' := [(4, .int v367), (3, .ref 167), (2, .ref 115), (1, .ref 0), (0, .ref 1000000)]) kc_195_1501 rfl rfl ev367 rfl (xm_lt ml_195 rfl) ?_
        refine xi_goto (pc' := 23) kc_195_1504 rfl ?_
        exact kk v367 hh364 (by omega) K365 (xI_kept I KR366.2.1)
  · refine xi_iff (pc' := 4) kc_95_1 rfl (xc_eq_f (X := a14.toInt) (Y := 0) rfl (by decide) (by omega)) ?_
    refine xi_iload_n (pc' := 5) (x := a14) kc_95_4 rfl rfl ?_
    refine xi_iconst (pc' := 6) (v := 1) kc_95_5 rfl rfl ?_
    by_cases c368 : a14.toInt = 1
    · refine xi_cmt (pc' := 16) kc_95_6 rfl (xc_eq_t (X := a14.toInt) (Y := 1) rfl (by decide) (by omega)) ?_
      refine xi_iload_n (pc' := 17) (x := a14) kc_95_16 rfl rfl ?_
      refine xi_ift (pc' := 25) kc_95_17 rfl (xc_ne_t (X := a14.toInt) (Y := 0) rfl (by decide) (by omega)) ?_
      refine xi_iconst (pc' := 26) (v := 0) kc_95_25 rfl rfl ?_
      refine xi_istore (pc' := 28) (lv' := [(4, .int 0), (0, .ref 0), (1, .int a12), (2, .int a14), (3, .int a16)]) kc_95_26 rfl rfl (xm_lt ml_95 rfl) ?_
      refine xi_iload_n (pc' := 29) (x := a14) kc_95_28 rfl rfl ?_
      refine xi_ift (pc' := 37) kc_95_29 rfl (xc_ne_t (X := a14.toInt) (Y := 0) rfl (by decide) (by omega)) ?_
      refine xi_bipush (pc' := 39) (v := 20) kc_95_37 rfl rfl ?_
      refine xi_istore (pc' := 41) (lv' := [(5, .int 20), (4, .int 0), (0, .ref 0), (1, .int a12), (2, .int a14), (3, .int a16)]) kc_95_39 rfl rfl (xm_lt ml_95 rfl) ?_
      refine xi_iload_n (pc' := 42) (x := a12) kc_95_41 rfl rfl ?_
      by_cases c369 : a12.toInt < 0
      · refine xi_ift (pc' := 51) kc_95_42 rfl (xc_lt_t (X := a12.toInt) (Y := 0) rfl (by decide) (by omega)) ?_
        refine xi_aload_n (pc' := 52) (x := 0) kc_95_51 rfl rfl ?_
        refine xi_bipush (pc' := 54) (v := (-4)) kc_95_52 rfl rfl ?_
        refine xi_virtual (mj := 96) (as := [.int (-4)]) (st1 := []) (lv0 := [(0, .ref 0), (1, .int (-4))]) kc_95_54 rfl rfl rfl rfl rfl A19 (Nat.le_of_ble_eq_true rfl) (hJ _ _ _ _ (by decide)) (xm_le ml_96 rfl) rfl ?_
        refine xi_ldc_w (pc' := 3) (v := 1000000000) kc_96_0 rfl rfl ?_
        refine xi_aload_n (pc' := 4) (x := 0) kc_96_3 rfl rfl ?_
        refine xi_iload_n (pc' := 5) (x := (-4)) kc_96_4 rfl rfl ?_
        refine xi_virtual (mj := 90) (as := [.int (-4)]) (st1 := [.int 1000000000]) (lv0 := [(0, .ref 0), (1, .int (-4))]) kc_96_5 rfl rfl rfl rfl rfl A19 (Nat.le_of_ble_eq_true rfl) (hJ _ _ _ _ (by decide)) (xm_le ml_90 rfl) rfl ?_
        refine xi_iload_n (pc' := 1) (x := (-4)) kc_90_0 rfl rfl ?_
        refine xi_ineg (pc' := 2) (v := 4) kc_90_1 rfl rfl ?_
        refine xi_istore_n (pc' := 3) (lv' := [(2, .int 4), (0, .ref 0), (1, .int (-4))]) kc_90_2 rfl rfl (xm_lt ml_90 rfl) ?_
        refine xi_iload_n (pc' := 4) (x := 4) kc_90_3 rfl rfl ?_
        refine xi_iff (pc' := 7) kc_90_4 rfl rfl ?_
        refine xi_iload_n (pc' := 8) (x := 4) kc_90_7 rfl rfl ?_
        refine xi_aload_n (pc' := 9) (x := 0) kc_90_8 rfl rfl ?_
        refine xi_getfield (pc' := 12) (v := .ref 94) kc_90_9 rfl rfl rfl A19 rfl ?_
        obtain ⟨y370, A370, hy370, ry370⟩ := xk_arr K.1 xD_94
        refine xi_arraylength (pc' := 13) (n := 7) (v := 7) kc_90_12 rfl (xl_lenI (by decide) (by decide) A370 hy370) rfl ?_
        refine xi_cmf (pc' := 16) kc_90_13 rfl rfl ?_
        refine xi_aload_n (pc' := 17) (x := 0) kc_90_16 rfl rfl ?_
        refine xi_getfield (pc' := 20) (v := .ref 94) kc_90_17 rfl rfl rfl A19 rfl ?_
        refine xi_iload_n (pc' := 21) (x := 4) kc_90_20 rfl rfl ?_
        refine xi_dup2 (pc' := 22) kc_90_21 rfl ⟨rfl, rfl⟩ ?_
        obtain ⟨v371, ev371, bv371, dv371⟩ := xj_get hy370 ry370 (i := 4) (by decide) (by decide)
        refine xi_iaload (pc' := 23) (v := v371) kc_90_22 rfl A370 (by decide) rfl (xi_in (by decide) (by rw [hy370]; decide)) ev371 ?_
        refine xi_iconst (pc' := 24) (v := 1) kc_90_23 rfl rfl ?_
        obtain ⟨v372, ev372⟩ : ∃ q : Int32, (v371 : Int32) + 1 = q := ⟨_, rfl⟩
        have rv372 := xc_rng v372
        refine xi_iadd (pc' := 25) (v := v372) kc_90_24 rfl ev372 ?_
        obtain ⟨y373, s373, hy373, ry373⟩ := xj_set (v := v372) hy370 ry370 4 (by first | omega | decide) (by first | omega | decide)
        refine xi_iastore (pc' := 26) (x' := y373) kc_90_25 rfl A370 rfl (xi_in (by decide) (by rw [hy370]; decide)) s373 (fun hh373 eh373 => ?_)
        have K374 := xk_pa K (xk_wa (by decide +kernel)) xD_94 hy373 ry373 eh373
        have KR375 := xk_pa KR (xk_wa (by decide +kernel)) xD_94 hy373 ry373 eh373
        refine xi_iload_n (pc' := 27) (x := (-4)) kc_90_26 rfl rfl ?_
        refine xi_ireturn kc_90_27 mr_90 rfl ?_
        show xw J ov 98 96 (8, [(0, .ref 0), (1, .int (-4))], [.int (-4), .int 1000000000], hh373) _
        refine xi_isub (pc' := 9) (v := 1000000004) kc_96_8 rfl rfl ?_
        refine xi_ireturn kc_96_9 mr_96 rfl ?_
        show xw J ov 99 95 (57, [(5, .int 20), (4, .int 0), (0, .ref 0), (1, .int a12), (2, .int a14), (3, .int a16)], [.int 1000000004], hh373) _
        refine xi_ireturn kc_95_57 mr_95 rfl ?_
        show xw J ov 100 195 (312, [(4, .int x4), (3, .ref 167), (2, .ref 115), (1, .ref 0), (0, .ref 1000000)], [.int 1000000004], hh373) _
        refine xi_pop (pc' := 313) kc_195_312 rfl rfl ?_
        refine xi_aload_n (pc' := 314) (x := 115) kc_195_313 rfl rfl ?_
        refine xi_aload_n (pc' := 315) (x := 1000000) kc_195_314 rfl rfl ?_
        refine xi_iload (pc' := 317) (x := x4) kc_195_315 rfl rfl ?_
        refine xi_iconst (pc' := 318) (v := 1) kc_195_317 rfl rfl ?_
        refine xi_iadd (pc' := 319) (v := v11) kc_195_318 rfl ev11 ?_
        refine xi_ialoadO (pc' := 320) (v := a12) kc_195_319 rfl (by decide) hov0 (xi_in (by omega) (by omega)) ea12 ?_
        refine xi_aload_n (pc' := 321) (x := 1000000) kc_195_320 rfl rfl ?_
        refine xi_iload (pc' := 323) (x := x4) kc_195_321 rfl rfl ?_
        refine xi_iconst (pc' := 324) (v := 2) kc_195_323 rfl rfl ?_
        refine xi_iadd (pc' := 325) (v := v13) kc_195_324 rfl ev13 ?_
        refine xi_ialoadO (pc' := 326) (v := a14) kc_195_325 rfl (by decide) hov0 (xi_in (by omega) (by omega)) ea14 ?_
        refine xi_aload_n (pc' := 327) (x := 1000000) kc_195_326 rfl rfl ?_
        refine xi_iload (pc' := 329) (x := x4) kc_195_327 rfl rfl ?_
        refine xi_iconst (pc' := 330) (v := 3) kc_195_329 rfl rfl ?_
        refine xi_iadd (pc' := 331) (v := v15) kc_195_330 rfl ev15 ?_
        refine xi_ialoadO (pc' := 332) (v := a16) kc_195_331 rfl (by decide) hov0 (xi_in (by omega) (by omega)) ea16 ?_
        obtain ⟨u376, u377, u378, u379, u380, u381, u382, u383, u384, u385, u386, u387, u388, bu376, bu377, bu378, bu379, bu380, bu381, bu382, bu383, bu384, bu385, bu386, bu387, bu388, A389⟩ := xq_115 K.1
        have A390 := ((eh373.2.1 115 (by decide)).trans A389)
        refine xi_virtual (mj := 16) (as := [.int a12, .int a14, .int a16]) (st1 := []) (lv0 := [(0, .ref 115), (1, .int a12), (2, .int a14), (3, .int a16)]) kc_195_332 rfl rfl rfl rfl rfl A390 (Nat.le_of_ble_eq_true rfl) (hJ _ _ _ _ (by decide)) (xm_le ml_16 rfl) rfl ?_
        refine xi_aload_n (pc' := 1) (x := 115) kc_16_0 rfl rfl ?_
        refine xi_iconst (pc' := 2) (v := 0) kc_16_1 rfl rfl ?_
        refine xi_putfield (pc' := 5) (fs' := [.int 0, .int u377, .ref 116, .ref 117, .ref 118, .ref 119, .ref 120, .ref 121, .ref 122, .ref 123, .ref 124, .ref 125, .ref 126, .ref 127, .ref 128, .ref 129, .int u378, .ref 130, .int u379, .ref 131, .ref 132, .ref 133, .ref 134, .int u380, .ref 135, .ref 136, .ref 137, .ref 138, .ref 139, .ref 140, .ref 141, .ref 142, .int u381, .int u382, .int u383, .ref 143, .ref 144, .ref 145, .ref 146, .ref 147, .ref 148, .int u384, .ref 149, .ref 150, .ref 151, .int u385, .ref 152, .ref 153, .ref 154, .ref 155, .ref 156, .ref 157, .ref 158, .ref 159, .int u386, .ref 160, .int u387, .ref 161, .ref 162, .ref 163, .ref 164, .int u388, .ref 165, .ref 166]) kc_16_2 rfl rfl rfl A390 rfl rfl rfl (Nat.le_of_ble_eq_true rfl) rfl (fun hh392 eh391 => ?_)
        have K393 := xk_pf (k := 0) (v := 0) K374 (xk_wf (by decide +kernel)) xD_115 A390 rfl (by first | omega | decide) (by first | omega | decide) eh391 rfl
        have KR394 := xk_pf (k := 0) (v := 0) KR375 (xk_wf (by decide +kernel)) xD_115 A390 rfl (by first | omega | decide) (by first | omega | decide) eh391 rfl
        refine xi_iload_n (pc' := 6) (x := a14) kc_16_5 rfl rfl ?_
        refine xi_iconst (pc' := 7) (v := 0) kc_16_6 rfl rfl ?_
        refine xi_iconst (pc' := 8) (v := 1) kc_16_7 rfl rfl ?_
        refine xi_static (mj := 11) (as := [.int a14, .int 0, .int 1]) (st1 := []) (lv0 := [(0, .int a14), (1, .int 0), (2, .int 1)]) kc_16_8 rfl rfl (Nat.le_of_ble_eq_true rfl) rfl rfl (Nat.le_of_ble_eq_true rfl) (hJ _ _ _ _ (by decide)) (xm_le ml_11 rfl) rfl ?_
        refine xi_iload_n (pc' := 1) (x := a14) kc_11_0 rfl rfl ?_
        refine xi_iload_n (pc' := 2) (x := 0) kc_11_1 rfl rfl ?_
        refine xi_cmf (pc' := 5) kc_11_2 rfl (xc_lt_f (X := a14.toInt) (Y := 0) rfl (by decide) (by omega)) ?_
        refine xi_iload_n (pc' := 6) (x := a14) kc_11_5 rfl rfl ?_
        refine xi_iload_n (pc' := 7) (x := 1) kc_11_6 rfl rfl ?_
        refine xi_cmf (pc' := 10) kc_11_7 rfl (xc_gt_f (X := a14.toInt) (Y := 1) rfl (by decide) (by omega)) ?_
        refine xi_iconst (pc' := 11) (v := 1) kc_11_10 rfl rfl ?_
        refine xi_goto (pc' := 15) kc_11_11 rfl ?_
        refine xi_ireturn kc_11_15 mr_11 rfl ?_
        show xw J ov 99 16 (11, [(0, .ref 115), (1, .int a12), (2, .int a14), (3, .int a16)], [.int 1], hh392) _
        refine xi_ift (pc' := 21) kc_16_11 rfl rfl ?_
        refine xi_iload_n (pc' := 22) (x := a12) kc_16_21 rfl rfl ?_
        refine xi_ift (pc' := 39) kc_16_22 rfl (xc_lt_t (X := a12.toInt) (Y := 0) rfl (by decide) (by omega)) ?_
        refine xi_aload_n (pc' := 40) (x := 115) kc_16_39 rfl rfl ?_
        refine xi_bipush (pc' := 42) (v := (-4)) kc_16_40 rfl rfl ?_
        refine xi_virtual (mj := 17) (as := [.int (-4)]) (st1 := []) (lv0 := [(0, .ref 115), (1, .int (-4))]) kc_16_42 rfl rfl rfl rfl rfl eh391.1 (Nat.le_of_ble_eq_true rfl) (hJ _ _ _ _ (by decide)) (xm_le ml_17 rfl) rfl ?_
        refine xi_aload_n (pc' := 1) (x := 115) kc_17_0 rfl rfl ?_
        refine xi_getfield (pc' := 4) (v := .ref 140) kc_17_1 rfl rfl rfl eh391.1 rfl ?_
        refine xi_iload_n (pc' := 5) (x := (-4)) kc_17_4 rfl rfl ?_
        refine xi_ineg (pc' := 6) (v := 4) kc_17_5 rfl rfl ?_
        refine xi_dup2 (pc' := 7) kc_17_6 rfl ⟨rfl, rfl⟩ ?_
        obtain ⟨y395, A395, hy395, ry395⟩ := xk_arr K.1 xD_140
        obtain ⟨v396, ev396, bv396, dv396⟩ := xj_get hy395 ry395 (i := 4) (by decide) (by decide)
        have A397 := ((eh391.2.1 140 (by decide)).trans ((eh373.2.1 140 (by decide)).trans A395))
        refine xi_iaload (pc' := 8) (v := v396) kc_17_7 rfl A397 (by decide) rfl (xi_in (by decide) (by rw [hy395]; decide)) ev396 ?_
        refine xi_iconst (pc' := 9) (v := 1) kc_17_8 rfl rfl ?_
        obtain ⟨v398, ev398⟩ : ∃ q : Int32, (v396 : Int32) + 1 = q := ⟨_, rfl⟩
        have rv398 := xc_rng v398
        refine xi_iadd (pc' := 10) (v := v398) kc_17_9 rfl ev398 ?_
        obtain ⟨y399, s399, hy399, ry399⟩ := xj_set (v := v398) hy395 ry395 4 (by first | omega | decide) (by first | omega | decide)
        refine xi_iastore (pc' := 11) (x' := y399) kc_17_10 rfl A397 rfl (xi_in (by decide) (by rw [hy395]; decide)) s399 (fun hh399 eh399 => ?_)
        have K400 := xk_pa K393 (xk_wa (by decide +kernel)) xD_140 hy399 ry399 eh399
        have KR401 := xk_pa KR394 (xk_wa (by decide +kernel)) xD_140 hy399 ry399 eh399
        refine xi_ldc (pc' := 13) (v := 1000000000) kc_17_11 rfl rfl ?_
        refine xi_iload_n (pc' := 14) (x := (-4)) kc_17_13 rfl rfl ?_
        refine xi_isub (pc' := 15) (v := 1000000004) kc_17_14 rfl rfl ?_
        refine xi_ireturn kc_17_15 mr_17 rfl ?_
        show xw J ov 99 16 (45, [(0, .ref 115), (1, .int a12), (2, .int a14), (3, .int a16)], [.int 1000000004], hh399) _
        refine xi_ireturn kc_16_45 mr_16 rfl ?_
        show xw J ov 100 195 (335, [(4, .int x4), (3, .ref 167), (2, .ref 115), (1, .ref 0), (0, .ref 1000000)], [.int 1000000004], hh399) _
        refine xi_pop (pc' := 336) kc_195_335 rfl rfl ?_
        refine xi_goto (pc' := 1501) kc_195_336 rfl ?_
        obtain ⟨v402, ev402⟩ : ∃ q : Int32, x4 + 6 = q := ⟨_, rfl⟩
        have zv402 : v402.toInt = (x4.toInt + 6) := by rw [← ev402]; exact (xz_add (X := x4.toInt) (Y := 6) rfl (by decide) (by omega) (by omega)).trans (by omega)
        refine xi_iinc (pc' := 1504) (x := x4) (v := v402) (lv' := [(4, .int v402), (3, .ref 167), (2, .ref 115), (1, .ref 0), (0, .ref 1000000)]) kc_195_1501 rfl rfl ev402 rfl (xm_lt ml_195 rfl) ?_
        refine xi_goto (pc' := 23) kc_195_1504 rfl ?_
        exact kk v402 hh399 (by omega) K400 (xI_kept I KR401.2.1)
      · refine xi_iff (pc' := 45) kc_95_42 rfl (xc_lt_f (X := a12.toInt) (Y := 0) rfl (by decide) (by omega)) ?_
        refine xi_iload_n (pc' := 46) (x := a16) kc_95_45 rfl rfl ?_
        refine xi_iload (pc' := 48) (x := 0) kc_95_46 rfl rfl ?_
        by_cases c403 : 0 ≤ a16.toInt
        · refine xi_cmt (pc' := 58) kc_95_48 rfl (xc_ge_t (X := a16.toInt) (Y := 0) rfl (by decide) (by omega)) ?_
          refine xi_iload_n (pc' := 59) (x := a12) kc_95_58 rfl rfl ?_
          refine xi_sipush (pc' := 62) (v := 600) kc_95_59 rfl rfl ?_
          by_cases c404 : 600 ≤ a12.toInt
          · refine xi_cmt (pc' := 77) kc_95_62 rfl (xc_ge_t (X := a12.toInt) (Y := 600) rfl (by decide) (by omega)) ?_
            refine xi_aload_n (pc' := 78) (x := 0) kc_95_77 rfl rfl ?_
            refine xi_bipush (pc' := 80) (v := (-6)) kc_95_78 rfl rfl ?_
            refine xi_virtual (mj := 96) (as := [.int (-6)]) (st1 := []) (lv0 := [(0, .ref 0), (1, .int (-6))]) kc_95_80 rfl rfl rfl rfl rfl A19 (Nat.le_of_ble_eq_true rfl) (hJ _ _ _ _ (by decide)) (xm_le ml_96 rfl) rfl ?_
            refine xi_ldc_w (pc' := 3) (v := 1000000000) kc_96_0 rfl rfl ?_
            refine xi_aload_n (pc' := 4) (x := 0) kc_96_3 rfl rfl ?_
            refine xi_iload_n (pc' := 5) (x := (-6)) kc_96_4 rfl rfl ?_
            refine xi_virtual (mj := 90) (as := [.int (-6)]) (st1 := [.int 1000000000]) (lv0 := [(0, .ref 0), (1, .int (-6))]) kc_96_5 rfl rfl rfl rfl rfl A19 (Nat.le_of_ble_eq_true rfl) (hJ _ _ _ _ (by decide)) (xm_le ml_90 rfl) rfl ?_
            refine xi_iload_n (pc' := 1) (x := (-6)) kc_90_0 rfl rfl ?_
            refine xi_ineg (pc' := 2) (v := 6) kc_90_1 rfl rfl ?_
            refine xi_istore_n (pc' := 3) (lv' := [(2, .int 6), (0, .ref 0), (1, .int (-6))]) kc_90_2 rfl rfl (xm_lt ml_90 rfl) ?_
            refine xi_iload_n (pc' := 4) (x := 6) kc_90_3 rfl rfl ?_
            refine xi_iff (pc' := 7) kc_90_4 rfl rfl ?_
            refine xi_iload_n (pc' := 8) (x := 6) kc_90_7 rfl rfl ?_
            refine xi_aload_n (pc' := 9) (x := 0) kc_90_8 rfl rfl ?_
            refine xi_getfield (pc' := 12) (v := .ref 94) kc_90_9 rfl rfl rfl A19 rfl ?_
            obtain ⟨y405, A405, hy405, ry405⟩ := xk_arr K.1 xD_94
            refine xi_arraylength (pc' := 13) (n := 7) (v := 7) kc_90_12 rfl (xl_lenI (by decide) (by decide) A405 hy405) rfl ?_
            refine xi_cmf (pc' := 16) kc_90_13 rfl rfl ?_
            refine xi_aload_n (pc' := 17) (x := 0) kc_90_16 rfl rfl ?_
            refine xi_getfield (pc' := 20) (v := .ref 94) kc_90_17 rfl rfl rfl A19 rfl ?_
            refine xi_iload_n (pc' := 21) (x := 6) kc_90_20 rfl rfl ?_
            refine xi_dup2 (pc' := 22) kc_90_21 rfl ⟨rfl, rfl⟩ ?_
            obtain ⟨v406, ev406, bv406, dv406⟩ := xj_get hy405 ry405 (i := 6) (by decide) (by decide)
            refine xi_iaload (pc' := 23) (v := v406) kc_90_22 rfl A405 (by decide) rfl (xi_in (by decide) (by rw [hy405]; decide)) ev406 ?_
            refine xi_iconst (pc' := 24) (v := 1) kc_90_23 rfl rfl ?_
            obtain ⟨v407, ev407⟩ : ∃ q : Int32, (v406 : Int32) + 1 = q := ⟨_, rfl⟩
            have rv407 := xc_rng v407
            refine xi_iadd (pc' := 25) (v := v407) kc_90_24 rfl ev407 ?_
            obtain ⟨y408, s408, hy408, ry408⟩ := xj_set (v := v407) hy405 ry405 6 (by first | omega | decide) (by first | omega | decide)
            refine xi_iastore (pc' := 26) (x' := y408) kc_90_25 rfl A405 rfl (xi_in (by decide) (by rw [hy405]; decide)) s408 (fun hh408 eh408 => ?_)
            have K409 := xk_pa K (xk_wa (by decide +kernel)) xD_94 hy408 ry408 eh408
            have KR410 := xk_pa KR (xk_wa (by decide +kernel)) xD_94 hy408 ry408 eh408
            refine xi_iload_n (pc' := 27) (x := (-6)) kc_90_26 rfl rfl ?_
            refine xi_ireturn kc_90_27 mr_90 rfl ?_
            show xw J ov 98 96 (8, [(0, .ref 0), (1, .int (-6))], [.int (-6), .int 1000000000], hh408) _
            refine xi_isub (pc' := 9) (v := 1000000006) kc_96_8 rfl rfl ?_
            refine xi_ireturn kc_96_9 mr_96 rfl ?_
            show xw J ov 99 95 (83, [(5, .int 20), (4, .int 0), (0, .ref 0), (1, .int a12), (2, .int a14), (3, .int a16)], [.int 1000000006], hh408) _
            refine xi_ireturn kc_95_83 mr_95 rfl ?_
            show xw J ov 100 195 (312, [(4, .int x4), (3, .ref 167), (2, .ref 115), (1, .ref 0), (0, .ref 1000000)], [.int 1000000006], hh408) _
            refine xi_pop (pc' := 313) kc_195_312 rfl rfl ?_
            refine xi_aload_n (pc' := 314) (x := 115) kc_195_313 rfl rfl ?_
            refine xi_aload_n (pc' := 315) (x := 1000000) kc_195_314 rfl rfl ?_
            refine xi_iload (pc' := 317) (x := x4) kc_195_315 rfl rfl ?_
            refine xi_iconst (pc' := 318) (v := 1) kc_195_317 rfl rfl ?_
            refine xi_iadd (pc' := 319) (v := v11) kc_195_318 rfl ev11 ?_
            refine xi_ialoadO (pc' := 320) (v := a12) kc_195_319 rfl (by decide) hov0 (xi_in (by omega) (by omega)) ea12 ?_
            refine xi_aload_n (pc' := 321) (x := 1000000) kc_195_320 rfl rfl ?_
            refine xi_iload (pc' := 323) (x := x4) kc_195_321 rfl rfl ?_
            refine xi_iconst (pc' := 324) (v := 2) kc_195_323 rfl rfl ?_
            refine xi_iadd (pc' := 325) (v := v13) kc_195_324 rfl ev13 ?_
            refine xi_ialoadO (pc' := 326) (v := a14) kc_195_325 rfl (by decide) hov0 (xi_in (by omega) (by omega)) ea14 ?_
            refine xi_aload_n (pc' := 327) (x := 1000000) kc_195_326 rfl rfl ?_
            refine xi_iload (pc' := 329) (x := x4) kc_195_327 rfl rfl ?_
            refine xi_iconst (pc' := 330) (v := 3) kc_195_329 rfl rfl ?_
            refine xi_iadd (pc' := 331) (v := v15) kc_195_330 rfl ev15 ?_
            refine xi_ialoadO (pc' := 332) (v := a16) kc_195_331 rfl (by decide) hov0 (xi_in (by omega) (by omega)) ea16 ?_
            obtain ⟨u411, u412, u413, u414, u415, u416, u417, u418, u419, u420, u421, u422, u423, bu411, bu412, bu413, bu414, bu415, bu416, bu417, bu418, bu419, bu420, bu421, bu422, bu423, A424⟩ := xq_115 K.1
            have A425 := ((eh408.2.1 115 (by decide)).trans A424)
            refine xi_virtual (mj := 16) (as := [.int a12, .int a14, .int a16]) (st1 := []) (lv0 := [(0, .ref 115), (1, .int a12), (2, .int a14), (3, .int a16)]) kc_195_332 rfl rfl rfl rfl rfl A425 (Nat.le_of_ble_eq_true rfl) (hJ _ _ _ _ (by decide)) (xm_le ml_16 rfl) rfl ?_
            refine xi_aload_n (pc' := 1) (x := 115) kc_16_0 rfl rfl ?_
            refine xi_iconst (pc' := 2) (v := 0) kc_16_1 rfl rfl ?_
            refine xi_putfield (pc' := 5) (fs' := [.int 0, .int u412, .ref 116, .ref 117, .ref 118, .ref 119, .ref 120, .ref 121, .ref 122, .ref 123, .ref 124, .ref 125, .ref 126, .ref 127, .ref 128, .ref 129, .int u413, .ref 130, .int u414, .ref 131, .ref 132, .ref 133, .ref 134, .int u415, .ref 135, .ref 136, .ref 137, .ref 138, .ref 139, .ref 140, .ref 141, .ref 142, .int u416, .int u417, .int u418, .ref 143, .ref 144, .ref 145, .ref 146, .ref 147, .ref 148, .int u419, .ref 149, .ref 150, .ref 151, .int u420, .ref 152, .ref 153, .ref 154, .ref 155, .ref 156, .ref 157, .ref 158, .ref 159, .int u421, .ref 160, .int u422, .ref 161, .ref 162, .ref 163, .ref 164, .int u423, .ref 165, .ref 166]) kc_16_2 rfl rfl rfl A425 rfl rfl rfl (Nat.le_of_ble_eq_true rfl) rfl (fun hh427 eh426 => ?_)
            have K428 := xk_pf (k := 0) (v := 0) K409 (xk_wf (by decide +kernel)) xD_115 A425 rfl (by first | omega | decide) (by first | omega | decide) eh426 rfl
            have KR429 := xk_pf (k := 0) (v := 0) KR410 (xk_wf (by decide +kernel)) xD_115 A425 rfl (by first | omega | decide) (by first | omega | decide) eh426 rfl
            refine xi_iload_n (pc' := 6) (x := a14) kc_16_5 rfl rfl ?_
            refine xi_iconst (pc' := 7) (v := 0) kc_16_6 rfl rfl ?_
            refine xi_iconst (pc' := 8) (v := 1) kc_16_7 rfl rfl ?_
            refine xi_static (mj := 11) (as := [.int a14, .int 0, .int 1]) (st1 := []) (lv0 := [(0, .int a14), (1, .int 0), (2, .int 1)]) kc_16_8 rfl rfl (Nat.le_of_ble_eq_true rfl) rfl rfl (Nat.le_of_ble_eq_true rfl) (hJ _ _ _ _ (by decide)) (xm_le ml_11 rfl) rfl ?_
            refine xi_iload_n (pc' := 1) (x := a14) kc_11_0 rfl rfl ?_
            refine xi_iload_n (pc' := 2) (x := 0) kc_11_1 rfl rfl ?_
            refine xi_cmf (pc' := 5) kc_11_2 rfl (xc_lt_f (X := a14.toInt) (Y := 0) rfl (by decide) (by omega)) ?_
            refine xi_iload_n (pc' := 6) (x := a14) kc_11_5 rfl rfl ?_
            refine xi_iload_n (pc' := 7) (x := 1) kc_11_6 rfl rfl ?_
            refine xi_cmf (pc' := 10) kc_11_7 rfl (xc_gt_f (X := a14.toInt) (Y := 1) rfl (by decide) (by omega)) ?_
            refine xi_iconst (pc' := 11) (v := 1) kc_11_10 rfl rfl ?_
            refine xi_goto (pc' := 15) kc_11_11 rfl ?_
            refine xi_ireturn kc_11_15 mr_11 rfl ?_
            show xw J ov 99 16 (11, [(0, .ref 115), (1, .int a12), (2, .int a14), (3, .int a16)], [.int 1], hh427) _
            refine xi_ift (pc' := 21) kc_16_11 rfl rfl ?_
            refine xi_iload_n (pc' := 22) (x := a12) kc_16_21 rfl rfl ?_
            refine xi_iff (pc' := 25) kc_16_22 rfl (xc_lt_f (X := a12.toInt) (Y := 0) rfl (by decide) (by omega)) ?_
            refine xi_iload_n (pc' := 26) (x := a16) kc_16_25 rfl rfl ?_
            refine xi_iload_n (pc' := 27) (x := a14) kc_16_26 rfl rfl ?_
            refine xi_ift (pc' := 35) kc_16_27 rfl (xc_ne_t (X := a14.toInt) (Y := 0) rfl (by decide) (by omega)) ?_
            refine xi_iconst (pc' := 36) (v := 0) kc_16_35 rfl rfl ?_
            refine xi_cmt (pc' := 46) kc_16_36 rfl (xc_ge_t (X := a16.toInt) (Y := 0) rfl (by decide) (by omega)) ?_
            refine xi_iload_n (pc' := 47) (x := a12) kc_16_46 rfl rfl ?_
            refine xi_sipush (pc' := 50) (v := 599) kc_16_47 rfl rfl ?_
            refine xi_cmt (pc' := 74) kc_16_50 rfl (xc_gt_t (X := a12.toInt) (Y := 599) rfl (by decide) (by omega)) ?_
            refine xi_aload_n (pc' := 75) (x := 115) kc_16_74 rfl rfl ?_
            refine xi_bipush (pc' := 77) (v := (-6)) kc_16_75 rfl rfl ?_
            refine xi_virtual (mj := 17) (as := [.int (-6)]) (st1 := []) (lv0 := [(0, .ref 115), (1, .int (-6))]) kc_16_77 rfl rfl rfl rfl rfl eh426.1 (Nat.le_of_ble_eq_true rfl) (hJ _ _ _ _ (by decide)) (xm_le ml_17 rfl) rfl ?_
            refine xi_aload_n (pc' := 1) (x := 115) kc_17_0 rfl rfl ?_
            refine xi_getfield (pc' := 4) (v := .ref 140) kc_17_1 rfl rfl rfl eh426.1 rfl ?_
            refine xi_iload_n (pc' := 5) (x := (-6)) kc_17_4 rfl rfl ?_
            refine xi_ineg (pc' := 6) (v := 6) kc_17_5 rfl rfl ?_
            refine xi_dup2 (pc' := 7) kc_17_6 rfl ⟨rfl, rfl⟩ ?_
            obtain ⟨y430, A430, hy430, ry430⟩ := xk_arr K.1 xD_140
            obtain ⟨v431, ev431, bv431, dv431⟩ := xj_get hy430 ry430 (i := 6) (by decide) (by decide)
            have A432 := ((eh426.2.1 140 (by decide)).trans ((eh408.2.1 140 (by decide)).trans A430))
            refine xi_iaload (pc' := 8) (v := v431) kc_17_7 rfl A432 (by decide) rfl (xi_in (by decide) (by rw [hy430]; decide)) ev431 ?_
            refine xi_iconst (pc' := 9) (v := 1) kc_17_8 rfl rfl ?_
            obtain ⟨v433, ev433⟩ : ∃ q : Int32, (v431 : Int32) + 1 = q := ⟨_, rfl⟩
            have rv433 := xc_rng v433
            refine xi_iadd (pc' := 10) (v := v433) kc_17_9 rfl ev433 ?_
            obtain ⟨y434, s434, hy434, ry434⟩ := xj_set (v := v433) hy430 ry430 6 (by first | omega | decide) (by first | omega | decide)
            refine xi_iastore (pc' := 11) (x' := y434) kc_17_10 rfl A432 rfl (xi_in (by decide) (by rw [hy430]; decide)) s434 (fun hh434 eh434 => ?_)
            have K435 := xk_pa K428 (xk_wa (by decide +kernel)) xD_140 hy434 ry434 eh434
            have KR436 := xk_pa KR429 (xk_wa (by decide +kernel)) xD_140 hy434 ry434 eh434
            refine xi_ldc (pc' := 13) (v := 1000000000) kc_17_11 rfl rfl ?_
            refine xi_iload_n (pc' := 14) (x := (-6)) kc_17_13 rfl rfl ?_
            refine xi_isub (pc' := 15) (v := 1000000006) kc_17_14 rfl rfl ?_
            refine xi_ireturn kc_17_15 mr_17 rfl ?_
            show xw J ov 99 16 (80, [(0, .ref 115), (1, .int a12), (2, .int a14), (3, .int a16)], [.int 1000000006], hh434) _
            refine xi_ireturn kc_16_80 mr_16 rfl ?_
            show xw J ov 100 195 (335, [(4, .int x4), (3, .ref 167), (2, .ref 115), (1, .ref 0), (0, .ref 1000000)], [.int 1000000006], hh434) _
            refine xi_pop (pc' := 336) kc_195_335 rfl rfl ?_
            refine xi_goto (pc' := 1501) kc_195_336 rfl ?_
            obtain ⟨v437, ev437⟩ : ∃ q : Int32, x4 + 6 = q := ⟨_, rfl⟩
            have zv437 : v437.toInt = (x4.toInt + 6) := by rw [← ev437]; exact (xz_add (X := x4.toInt) (Y := 6) rfl (by decide) (by omega) (by omega)).trans (by omega)
            refine xi_iinc (pc' := 1504) (x := x4) (v := v437) (lv' := [(4, .int v437), (3, .ref 167), (2, .ref 115), (1, .ref 0), (0, .ref 1000000)]) kc_195_1501 rfl rfl ev437 rfl (xm_lt ml_195 rfl) ?_
            refine xi_goto (pc' := 23) kc_195_1504 rfl ?_
            exact kk v437 hh434 (by omega) K435 (xI_kept I KR436.2.1)
          · refine xi_cmf (pc' := 65) kc_95_62 rfl (xc_ge_f (X := a12.toInt) (Y := 600) rfl (by decide) (by omega)) ?_
            refine xi_iload_n (pc' := 66) (x := a16) kc_95_65 rfl rfl ?_
            refine xi_iload (pc' := 68) (x := 20) kc_95_66 rfl rfl ?_
            by_cases c438 : a16.toInt ≤ 20
            · refine xi_cmt (pc' := 84) kc_95_68 rfl (xc_le_t (X := a16.toInt) (Y := 20) rfl (by decide) (by omega)) ?_
              refine xi_aload_n (pc' := 85) (x := 0) kc_95_84 rfl rfl ?_
              refine xi_getfield (pc' := 88) (v := .ref 66) kc_95_85 rfl rfl rfl A19 rfl ?_
              obtain ⟨u440, wl439, bu440, A441⟩ := xq_66 K.1
              refine xi_virtual (mj := 91) (as := []) (st1 := []) (lv0 := [(0, .ref 66)]) kc_95_88 rfl rfl rfl rfl rfl A441 (Nat.le_of_ble_eq_true rfl) (hJ _ _ _ _ (by decide)) (xm_le ml_91 rfl) rfl ?_
              refine xi_aload_n (pc' := 1) (x := 66) kc_91_0 rfl rfl ?_
              refine xi_lconst (pc' := 2) (v := 0) kc_91_1 rfl rfl ?_
              refine xi_putfield (pc' := 5) (fs' := [.ref 1, .ref 67, .ref 70, .ref 71, .ref 72, .ref 73, .ref 74, .long 0, .int u440]) kc_91_2 rfl rfl rfl A441 rfl rfl rfl (Nat.le_of_ble_eq_true rfl) rfl (fun hh443 eh442 => ?_)
              have K444 := xk_pl (k := 7) (v := 0) K (xk_wf (by decide +kernel)) xD_66 A441 rfl eh442 rfl
              have KR445 := xk_pl (k := 7) (v := 0) KR (xk_wf (by decide +kernel)) xD_66 A441 rfl eh442 rfl
              refine xi_return kc_91_5 mr_91 ?_
              show xw J ov 99 95 (91, [(5, .int 20), (4, .int 0), (0, .ref 0), (1, .int a12), (2, .int a14), (3, .int a16)], [], hh443) _
              refine xi_aload_n (pc' := 92) (x := 0) kc_95_91 rfl rfl ?_
              have A446 := ((eh442.2.1 0 (by decide)).trans A19)
              refine xi_getfield (pc' := 95) (v := .ref 1) kc_95_92 rfl rfl rfl A446 rfl ?_
              refine xi_iload_n (pc' := 96) (x := a14) kc_95_95 rfl rfl ?_
              obtain ⟨u447, u448, bu447, bu448, A449⟩ := xq_1 K.1
              have A450 := ((eh442.2.1 1 (by decide)).trans A449)
              refine xi_virtual (mj := 97) (as := [.int a14]) (st1 := []) (lv0 := [(0, .ref 1), (1, .int a14)]) kc_95_96 rfl rfl rfl rfl rfl A450 (Nat.le_of_ble_eq_true rfl) (hJ _ _ _ _ (by decide)) (xm_le ml_97 rfl) rfl ?_
              refine xi_iload_n (pc' := 1) (x := a14) kc_97_0 rfl rfl ?_
              refine xi_ift (pc' := 11) kc_97_1 rfl (xc_ne_t (X := a14.toInt) (Y := 0) rfl (by decide) (by omega)) ?_
              refine xi_aload_n (pc' := 12) (x := 1) kc_97_11 rfl rfl ?_
              refine xi_getfield (pc' := 15) (v := .ref 8) kc_97_12 rfl rfl rfl A450 rfl ?_
              refine xi_areturn kc_97_15 (by rw [mr_97]; rfl) ?_
              show xw J ov 99 95 (99, [(5, .int 20), (4, .int 0), (0, .ref 0), (1, .int a12), (2, .int a14), (3, .int a16)], [.ref 8], hh443) _
              refine xi_iload_n (pc' := 100) (x := a12) kc_95_99 rfl rfl ?_
              refine xi_iload_n (pc' := 101) (x := a16) kc_95_100 rfl rfl ?_
              have A451 := ((eh442.2.1 8 (by decide)).trans A10)
              refine xi_virtual (mj := 98) (as := [.int a12, .int a16]) (st1 := []) (lv0 := [(0, .ref 8), (1, .int a12), (2, .int a16)]) kc_95_101 rfl rfl rfl rfl rfl A451 (Nat.le_of_ble_eq_true rfl) (hJ _ _ _ _ (by decide)) (xm_le ml_98 rfl) rfl ?_
              refine xi_iload_n (pc' := 1) (x := a12) kc_98_0 rfl rfl ?_
              refine xi_iff (pc' := 4) kc_98_1 rfl (xc_lt_f (X := a12.toInt) (Y := 0) rfl (by decide) (by omega)) ?_
              refine xi_iload_n (pc' := 5) (x := a12) kc_98_4 rfl rfl ?_
              refine xi_aload_n (pc' := 6) (x := 8) kc_98_5 rfl rfl ?_
              refine xi_getfield (pc' := 9) (v := .ref 9) kc_98_6 rfl rfl rfl A451 rfl ?_
              have A452 := ((eh442.2.1 9 (by decide)).trans A3)
              refine xi_arraylength (pc' := 10) (n := 601) (v := 601) kc_98_9 rfl (xl_lenI (by decide) (by decide) A452 hy3) rfl ?_
              refine xi_cmt (pc' := 16) kc_98_10 rfl (xc_lt_t (X := a12.toInt) (Y := 601) rfl (by decide) (by omega)) ?_
              refine xi_aload_n (pc' := 17) (x := 8) kc_98_16 rfl rfl ?_
              refine xi_getfield (pc' := 20) (v := .ref 9) kc_98_17 rfl rfl rfl A451 rfl ?_
              refine xi_iload_n (pc' := 21) (x := a12) kc_98_20 rfl rfl ?_
              obtain ⟨v453, ev453, bv453, dv453⟩ := xj_get hy3 ry3 (i := a12) (by omega) (by omega)
              refine xi_iaload (pc' := 22) (v := v453) kc_98_21 rfl A452 (by decide) rfl (xi_in (by omega) (by rw [hy3]; omega)) ev453 ?_
              refine xi_istore_n (pc' := 23) (lv' := [(3, .int v453), (0, .ref 8), (1, .int a12), (2, .int a16)]) kc_98_22 rfl rfl (xm_lt ml_98 rfl) ?_
              refine xi_aload_n (pc' := 24) (x := 8) kc_98_23 rfl rfl ?_
              refine xi_getfield (pc' := 27) (v := .ref 9) kc_98_24 rfl rfl rfl A451 rfl ?_
              refine xi_iload_n (pc' := 28) (x := a12) kc_98_27 rfl rfl ?_
              refine xi_iload_n (pc' := 29) (x := a16) kc_98_28 rfl rfl ?_
              obtain ⟨y454, s454, hy454, ry454⟩ := xj_set (v := a16) hy3 ry3 a12 (by first | omega | decide) (by first | omega | decide)
              refine xi_iastore (pc' := 30) (x' := y454) kc_98_29 rfl A452 rfl (xi_in (by omega) (by rw [hy3]; omega)) s454 (fun hh454 eh454 => ?_)
              have K455 := xk_pa K444 (xk_wa (by decide +kernel)) xD_9 hy454 ry454 eh454
              refine xi_aload_n (pc' := 31) (x := 8) kc_98_30 rfl rfl ?_
              refine xi_iload_n (pc' := 32) (x := a12) kc_98_31 rfl rfl ?_
              refine xi_iconst (pc' := 33) (v := 1) kc_98_32 rfl rfl ?_
              obtain ⟨v456, ev456⟩ : ∃ q : Int32, a12 - 1 = q := ⟨_, rfl⟩
              have zv456 : v456.toInt = (a12.toInt + (-1)) := by rw [← ev456]; exact (xz_sub (X := a12.toInt) (Y := 1) rfl (by decide) (by omega) (by omega)).trans (by omega)
              refine xi_isub (pc' := 34) (v := v456) kc_98_33 rfl ev456 ?_
              have A457 := ((eh454.2.1 8 (by decide)).trans A451)
              refine xi_virtual (mj := 99) (as := [.int v456]) (st1 := []) (lv0 := [(0, .ref 8), (1, .int v456)]) kc_98_34 rfl rfl rfl rfl rfl A457 (Nat.le_of_ble_eq_true rfl) (hJ _ _ _ _ (by decide)) (xm_le ml_99 rfl) rfl ?_
              refine xi_iload_n (pc' := 1) (x := v456) kc_99_0 rfl rfl ?_
              by_cases c458 : (a12.toInt + (-1)) < 0
              · refine xi_ift (pc' := 13) kc_99_1 rfl (xc_lt_t (X := (a12.toInt + (-1))) (Y := 0) zv456 (by decide) (by omega)) ?_
                refine xi_aload_n (pc' := 14) (x := 8) kc_99_13 rfl rfl ?_
                refine xi_getfield (pc' := 17) (v := .int 0) kc_99_14 rfl rfl rfl A457 rfl ?_
                refine xi_goto (pc' := 26) kc_99_17 rfl ?_
                refine xi_ireturn kc_99_26 mr_99 rfl ?_
                show xw J ov 98 98 (37, [(3, .int v453), (0, .ref 8), (1, .int a12), (2, .int a16)], [.int 0], hh454) _
                refine xi_istore (pc' := 39) (lv' := [(4, .int 0), (3, .int v453), (0, .ref 8), (1, .int a12), (2, .int a16)]) kc_98_37 rfl rfl (xm_lt ml_98 rfl) ?_
                refine xi_iload_n (pc' := 40) (x := a12) kc_98_39 rfl rfl ?_
                refine xi_istore (pc' := 42) (lv' := [(5, .int a12), (4, .int 0), (3, .int v453), (0, .ref 8), (1, .int a12), (2, .int a16)]) kc_98_40 rfl rfl (xm_lt ml_98 rfl) ?_
                refine xw_lv (b := [(0, .ref 8), (3, .int v453), (4, .int 0), (5, .int a12)]) (lvS_cons (lvS_cons (lvS_cons (lvS_cons (lvS_nil (show ([5, 4, 3, 0, 1, 2] : List Nat).Nodup by decide)) rfl) rfl) rfl) rfl) ?_
                have A460 := ((eh454.2.1 10 (by decide)).trans ((eh442.2.1 10 (by decide)).trans A6))
                refine xw_tell (o := 8) (t := 9) (c := 10) (hb := hh454) (f := 0) (was := v453) (by decide) (by decide) (by decide) A457 rfl rfl eh454.1 hy454 (fun z9459 hh459 hz459 HL459 eh459 => ?_) 602 a12 0 y6 hh454 (by omega) (by omega) (by omega) hy6 (xL_la0 (by omega)) (xL_pre H12 (by omega) (by omega) s454) (xh_rf A460)
                have ry459 : ∀ i, i < 601 → (-2147483648) ≤ (z9459.getD i 0).toInt ∧ (z9459.getD i 0).toInt ≤ 2147483647 := fun i _ => ⟨(xc_rng _).1, by have := (xc_rng (z9459.getD i 0)).2; omega⟩
                have K461 := xk_pa K455 (xk_wa (by decide +kernel)) xD_10 hz459 ry459 eh459
                show xw J ov 99 95 (104, [(5, .int 20), (4, .int 0), (0, .ref 0), (1, .int a12), (2, .int a14), (3, .int a16)], [.int v453], hh459) _
                refine xi_ireturn kc_95_104 mr_95 rfl ?_
                show xw J ov 100 195 (312, [(4, .int x4), (3, .ref 167), (2, .ref 115), (1, .ref 0), (0, .ref 1000000)], [.int v453], hh459) _
                refine xi_pop (pc' := 313) kc_195_312 rfl rfl ?_
                refine xi_aload_n (pc' := 314) (x := 115) kc_195_313 rfl rfl ?_
                refine xi_aload_n (pc' := 315) (x := 1000000) kc_195_314 rfl rfl ?_
                refine xi_iload (pc' := 317) (x := x4) kc_195_315 rfl rfl ?_
                refine xi_iconst (pc' := 318) (v := 1) kc_195_317 rfl rfl ?_
                refine xi_iadd (pc' := 319) (v := v11) kc_195_318 rfl ev11 ?_
                refine xi_ialoadO (pc' := 320) (v := a12) kc_195_319 rfl (by decide) hov0 (xi_in (by omega) (by omega)) ea12 ?_
                refine xi_aload_n (pc' := 321) (x := 1000000) kc_195_320 rfl rfl ?_
                refine xi_iload (pc' := 323) (x := x4) kc_195_321 rfl rfl ?_
                refine xi_iconst (pc' := 324) (v := 2) kc_195_323 rfl rfl ?_
                refine xi_iadd (pc' := 325) (v := v13) kc_195_324 rfl ev13 ?_
                refine xi_ialoadO (pc' := 326) (v := a14) kc_195_325 rfl (by decide) hov0 (xi_in (by omega) (by omega)) ea14 ?_
                refine xi_aload_n (pc' := 327) (x := 1000000) kc_195_326 rfl rfl ?_
                refine xi_iload (pc' := 329) (x := x4) kc_195_327 rfl rfl ?_
                refine xi_iconst (pc' := 330) (v := 3) kc_195_329 rfl rfl ?_
                refine xi_iadd (pc' := 331) (v := v15) kc_195_330 rfl ev15 ?_
                refine xi_ialoadO (pc' := 332) (v := a16) kc_195_331 rfl (by decide) hov0 (xi_in (by omega) (by omega)) ea16 ?_
                obtain ⟨u462, u463, u464, u465, u466, u467, u468, u469, u470, u471, u472, u473, u474, bu462, bu463, bu464, bu465, bu466, bu467, bu468, bu469, bu470, bu471, bu472, bu473, bu474, A475⟩ := xq_115 K.1
                have A476 := ((eh459.2.1 115 (by decide)).trans ((eh454.2.1 115 (by decide)).trans ((eh442.2.1 115 (by decide)).trans A475)))
                refine xi_virtual (mj := 16) (as := [.int a12, .int a14, .int a16]) (st1 := []) (lv0 := [(0, .ref 115), (1, .int a12), (2, .int a14), (3, .int a16)]) kc_195_332 rfl rfl rfl rfl rfl A476 (Nat.le_of_ble_eq_true rfl) (hJ _ _ _ _ (by decide)) (xm_le ml_16 rfl) rfl ?_
                refine xi_aload_n (pc' := 1) (x := 115) kc_16_0 rfl rfl ?_
                refine xi_iconst (pc' := 2) (v := 0) kc_16_1 rfl rfl ?_
                refine xi_putfield (pc' := 5) (fs' := [.int 0, .int u463, .ref 116, .ref 117, .ref 118, .ref 119, .ref 120, .ref 121, .ref 122, .ref 123, .ref 124, .ref 125, .ref 126, .ref 127, .ref 128, .ref 129, .int u464, .ref 130, .int u465, .ref 131, .ref 132, .ref 133, .ref 134, .int u466, .ref 135, .ref 136, .ref 137, .ref 138, .ref 139, .ref 140, .ref 141, .ref 142, .int u467, .int u468, .int u469, .ref 143, .ref 144, .ref 145, .ref 146, .ref 147, .ref 148, .int u470, .ref 149, .ref 150, .ref 151, .int u471, .ref 152, .ref 153, .ref 154, .ref 155, .ref 156, .ref 157, .ref 158, .ref 159, .int u472, .ref 160, .int u473, .ref 161, .ref 162, .ref 163, .ref 164, .int u474, .ref 165, .ref 166]) kc_16_2 rfl rfl rfl A476 rfl rfl rfl (Nat.le_of_ble_eq_true rfl) rfl (fun hh478 eh477 => ?_)
                have K479 := xk_pf (k := 0) (v := 0) K461 (xk_wf (by decide +kernel)) xD_115 A476 rfl (by first | omega | decide) (by first | omega | decide) eh477 rfl
                refine xi_iload_n (pc' := 6) (x := a14) kc_16_5 rfl rfl ?_
                refine xi_iconst (pc' := 7) (v := 0) kc_16_6 rfl rfl ?_
                refine xi_iconst (pc' := 8) (v := 1) kc_16_7 rfl rfl ?_
                refine xi_static (mj := 11) (as := [.int a14, .int 0, .int 1]) (st1 := []) (lv0 := [(0, .int a14), (1, .int 0), (2, .int 1)]) kc_16_8 rfl rfl (Nat.le_of_ble_eq_true rfl) rfl rfl (Nat.le_of_ble_eq_true rfl) (hJ _ _ _ _ (by decide)) (xm_le ml_11 rfl) rfl ?_
                refine xi_iload_n (pc' := 1) (x := a14) kc_11_0 rfl rfl ?_
                refine xi_iload_n (pc' := 2) (x := 0) kc_11_1 rfl rfl ?_
                refine xi_cmf (pc' := 5) kc_11_2 rfl (xc_lt_f (X := a14.toInt) (Y := 0) rfl (by decide) (by omega)) ?_
                refine xi_iload_n (pc' := 6) (x := a14) kc_11_5 rfl rfl ?_
                refine xi_iload_n (pc' := 7) (x := 1) kc_11_6 rfl rfl ?_
                refine xi_cmf (pc' := 10) kc_11_7 rfl (xc_gt_f (X := a14.toInt) (Y := 1) rfl (by decide) (by omega)) ?_
                refine xi_iconst (pc' := 11) (v := 1) kc_11_10 rfl rfl ?_
                refine xi_goto (pc' := 15) kc_11_11 rfl ?_
                refine xi_ireturn kc_11_15 mr_11 rfl ?_
                show xw J ov 99 16 (11, [(0, .ref 115), (1, .int a12), (2, .int a14), (3, .int a16)], [.int 1], hh478) _
                refine xi_ift (pc' := 21) kc_16_11 rfl rfl ?_
                refine xi_iload_n (pc' := 22) (x := a12) kc_16_21 rfl rfl ?_
                refine xi_iff (pc' := 25) kc_16_22 rfl (xc_lt_f (X := a12.toInt) (Y := 0) rfl (by decide) (by omega)) ?_
                refine xi_iload_n (pc' := 26) (x := a16) kc_16_25 rfl rfl ?_
                refine xi_iload_n (pc' := 27) (x := a14) kc_16_26 rfl rfl ?_
                refine xi_ift (pc' := 35) kc_16_27 rfl (xc_ne_t (X := a14.toInt) (Y := 0) rfl (by decide) (by omega)) ?_
                refine xi_iconst (pc' := 36) (v := 0) kc_16_35 rfl rfl ?_
                refine xi_cmt (pc' := 46) kc_16_36 rfl (xc_ge_t (X := a16.toInt) (Y := 0) rfl (by decide) (by omega)) ?_
                refine xi_iload_n (pc' := 47) (x := a12) kc_16_46 rfl rfl ?_
                refine xi_sipush (pc' := 50) (v := 599) kc_16_47 rfl rfl ?_
                refine xi_cmf (pc' := 53) kc_16_50 rfl (xc_gt_f (X := a12.toInt) (Y := 599) rfl (by decide) (by omega)) ?_
                refine xi_iload_n (pc' := 54) (x := a16) kc_16_53 rfl rfl ?_
                refine xi_iload_n (pc' := 55) (x := a14) kc_16_54 rfl rfl ?_
                refine xi_ift (pc' := 63) kc_16_55 rfl (xc_ne_t (X := a14.toInt) (Y := 0) rfl (by decide) (by omega)) ?_
                refine xi_bipush (pc' := 65) (v := 20) kc_16_63 rfl rfl ?_
                refine xi_cmt (pc' := 81) kc_16_65 rfl (xc_le_t (X := a16.toInt) (Y := 20) rfl (by decide) (by omega)) ?_
                refine xi_iload_n (pc' := 82) (x := a14) kc_16_81 rfl rfl ?_
                refine xi_ift (pc' := 94) kc_16_82 rfl (xc_ne_t (X := a14.toInt) (Y := 0) rfl (by decide) (by omega)) ?_
                refine xi_aload_n (pc' := 95) (x := 115) kc_16_94 rfl rfl ?_
                refine xi_getfield (pc' := 98) (v := .ref 124) kc_16_95 rfl rfl rfl eh477.1 rfl ?_
                refine xi_iload_n (pc' := 99) (x := a12) kc_16_98 rfl rfl ?_
                have A480 := ((eh477.2.1 124 (by decide)).trans ((eh459.2.1 124 (by decide)).trans ((eh454.2.1 124 (by decide)).trans ((eh442.2.1 124 (by decide)).trans A4))))
                refine xi_iaload (pc' := 100) (v := v453) kc_16_99 rfl A480 (by decide) rfl (xi_in (by omega) (by rw [hy4]; omega)) (xE_ld H10 (by first | omega | decide) (by first | omega | decide) (by omega) ev453) ?_
                refine xi_istore (pc' := 102) (lv' := [(4, .int v453), (0, .ref 115), (1, .int a12), (2, .int a14), (3, .int a16)]) kc_16_100 rfl rfl (xm_lt ml_16 rfl) ?_
                refine xi_aload_n (pc' := 103) (x := 115) kc_16_102 rfl rfl ?_
                refine xi_getfield (pc' := 106) (v := .ref 123) kc_16_103 rfl rfl rfl eh477.1 rfl ?_
                refine xi_iload_n (pc' := 107) (x := a12) kc_16_106 rfl rfl ?_
                refine xi_iload_n (pc' := 108) (x := a14) kc_16_107 rfl rfl ?_
                refine xi_ift (pc' := 115) kc_16_108 rfl (xc_ne_t (X := a14.toInt) (Y := 0) rfl (by decide) (by omega)) ?_
                refine xi_aload_n (pc' := 116) (x := 115) kc_16_115 rfl rfl ?_
                refine xi_getfield (pc' := 119) (v := .ref 123) kc_16_116 rfl rfl rfl eh477.1 rfl ?_
                refine xi_iload_n (pc' := 120) (x := a12) kc_16_119 rfl rfl ?_
                obtain ⟨v481, ev481, bv481, dv481⟩ := xj_get hy2 ry2 (i := a12) (by omega) (by omega)
                have A482 := ((eh477.2.1 123 (by decide)).trans ((eh459.2.1 123 (by decide)).trans ((eh454.2.1 123 (by decide)).trans ((eh442.2.1 123 (by decide)).trans A2))))
                refine xi_iaload (pc' := 121) (v := v481) kc_16_120 rfl A482 (by decide) rfl (xi_in (by omega) (by rw [hy2]; omega)) ev481 ?_
                obtain ⟨y483, s483, hy483, ry483⟩ := xj_set (v := v481) hy2 ry2 a12 (by first | omega | decide) (by first | omega | decide)
                refine xi_iastore (pc' := 122) (x' := y483) kc_16_121 rfl A482 rfl (xi_in (by omega) (by rw [hy2]; omega)) s483 (fun hh483 eh483 => ?_)
                have K484 := xk_pa K479 (xk_wa (by decide +kernel)) xD_123 hy483 ry483 eh483
                refine xi_aload_n (pc' := 123) (x := 115) kc_16_122 rfl rfl ?_
                have A485 := ((eh483.2.1 115 (by decide)).trans eh477.1)
                refine xi_getfield (pc' := 126) (v := .ref 124) kc_16_123 rfl rfl rfl A485 rfl ?_
                refine xi_iload_n (pc' := 127) (x := a12) kc_16_126 rfl rfl ?_
                refine xi_iload_n (pc' := 128) (x := a14) kc_16_127 rfl rfl ?_
                refine xi_iconst (pc' := 129) (v := 1) kc_16_128 rfl rfl ?_
                refine xi_cmf (pc' := 132) kc_16_129 rfl (xc_ne_f (X := a14.toInt) (Y := 1) rfl (by decide) (by omega)) ?_
                refine xi_iload_n (pc' := 133) (x := a16) kc_16_132 rfl rfl ?_
                refine xi_goto (pc' := 142) kc_16_133 rfl ?_
                have A486 := ((eh483.2.1 124 (by decide)).trans A480)
                obtain ⟨y487, s487, hy487, ry487⟩ := xj_set (v := a16) hy4 ry4 a12 (by first | omega | decide) (by first | omega | decide)
                refine xi_iastore (pc' := 143) (x' := y487) kc_16_142 rfl A486 rfl (xi_in (by omega) (by rw [hy4]; omega)) s487 (fun hh487 eh487 => ?_)
                have K488 := xk_pa K484 (xk_wa (by decide +kernel)) xD_124 hy487 ry487 eh487
                refine xi_aload_n (pc' := 144) (x := 115) kc_16_143 rfl rfl ?_
                refine xi_iconst (pc' := 145) (v := 0) kc_16_144 rfl rfl ?_
                have A489 := ((eh487.2.1 115 (by decide)).trans A485)
                refine xi_putfield (pc' := 148) (fs' := [.int 0, .int u463, .ref 116, .ref 117, .ref 118, .ref 119, .ref 120, .ref 121, .ref 122, .ref 123, .ref 124, .ref 125, .ref 126, .ref 127, .ref 128, .ref 129, .int u464, .ref 130, .int u465, .ref 131, .ref 132, .ref 133, .ref 134, .int u466, .ref 135, .ref 136, .ref 137, .ref 138, .ref 139, .ref 140, .ref 141, .ref 142, .int u467, .int u468, .int u469, .ref 143, .ref 144, .ref 145, .ref 146, .ref 147, .ref 148, .int 0, .ref 149, .ref 150, .ref 151, .int u471, .ref 152, .ref 153, .ref 154, .ref 155, .ref 156, .ref 157, .ref 158, .ref 159, .int u472, .ref 160, .int u473, .ref 161, .ref 162, .ref 163, .ref 164, .int u474, .ref 165, .ref 166]) kc_16_145 rfl rfl rfl A489 rfl rfl rfl (Nat.le_of_ble_eq_true rfl) rfl (fun hh491 eh490 => ?_)
                have K492 := xk_pf (k := 41) (v := 0) K488 (xk_wf (by decide +kernel)) xD_115 A489 rfl (by first | omega | decide) (by first | omega | decide) eh490 rfl
                refine xi_iload (pc' := 150) (x := v453) kc_16_148 rfl rfl ?_
                refine xi_ireturn kc_16_150 mr_16 rfl ?_
                show xw J ov 100 195 (335, [(4, .int x4), (3, .ref 167), (2, .ref 115), (1, .ref 0), (0, .ref 1000000)], [.int v453], hh491) _
                refine xi_pop (pc' := 336) kc_195_335 rfl rfl ?_
                refine xi_goto (pc' := 1501) kc_195_336 rfl ?_
                obtain ⟨v493, ev493⟩ : ∃ q : Int32, x4 + 6 = q := ⟨_, rfl⟩
                have zv493 : v493.toInt = (x4.toInt + 6) := by rw [← ev493]; exact (xz_add (X := x4.toInt) (Y := 6) rfl (by decide) (by omega) (by omega)).trans (by omega)
                refine xi_iinc (pc' := 1504) (x := x4) (v := v493) (lv' := [(4, .int v493), (3, .ref 167), (2, .ref 115), (1, .ref 0), (0, .ref 1000000)]) kc_195_1501 rfl rfl ev493 rfl (xm_lt ml_195 rfl) ?_
                refine xi_goto (pc' := 23) kc_195_1504 rfl ?_
                have A494 := ((eh490.2.1 6 (by decide)).trans ((eh487.2.1 6 (by decide)).trans ((eh483.2.1 6 (by decide)).trans ((eh477.2.1 6 (by decide)).trans ((eh459.2.1 6 (by decide)).trans ((eh454.2.1 6 (by decide)).trans ((eh442.2.1 6 (by decide)).trans A1)))))))
                have A495 := ((eh490.2.1 123 (by decide)).trans ((eh487.2.1 123 (by decide)).trans eh483.1))
                have A496 := ((eh490.2.1 9 (by decide)).trans ((eh487.2.1 9 (by decide)).trans ((eh483.2.1 9 (by decide)).trans ((eh477.2.1 9 (by decide)).trans ((eh459.2.1 9 (by decide)).trans eh454.1)))))
                have A497 := ((eh490.2.1 124 (by decide)).trans eh487.1)
                have A498 := ((eh490.2.1 7 (by decide)).trans ((eh487.2.1 7 (by decide)).trans ((eh483.2.1 7 (by decide)).trans ((eh477.2.1 7 (by decide)).trans ((eh459.2.1 7 (by decide)).trans ((eh454.2.1 7 (by decide)).trans ((eh442.2.1 7 (by decide)).trans A5)))))))
                have A499 := ((eh490.2.1 10 (by decide)).trans ((eh487.2.1 10 (by decide)).trans ((eh483.2.1 10 (by decide)).trans ((eh477.2.1 10 (by decide)).trans eh459.1))))
                have A500 := ((eh490.2.1 5 (by decide)).trans ((eh487.2.1 5 (by decide)).trans ((eh483.2.1 5 (by decide)).trans ((eh477.2.1 5 (by decide)).trans ((eh459.2.1 5 (by decide)).trans ((eh454.2.1 5 (by decide)).trans ((eh442.2.1 5 (by decide)).trans A8)))))))
                have A501 := ((eh490.2.1 8 (by decide)).trans ((eh487.2.1 8 (by decide)).trans ((eh483.2.1 8 (by decide)).trans ((eh477.2.1 8 (by decide)).trans ((eh459.2.1 8 (by decide)).trans A457)))))
                exact kk v493 hh491 (by omega) K492 ⟨((K492.2.1 (0, 9) (by decide +kernel)).trans (I.1.trans (K492.2.1 (115, 1) (by decide +kernel)).symm)), (xWW_fr I.2.1 (K492.2.1 (64, 0) (by decide +kernel)) (K492.2.1 (121, 0) (by decide +kernel))), (xSG_fr I.2.2.1 (fun l hl => K492.2.1 l (xk_el (by decide +kernel) hl))), (by rw [(K492.2.1 (13, 0) (by decide +kernel)), (K492.2.1 (122, 0) (by decide +kernel))]; exact I.2.2.2.1), (by rw [(K492.2.1 (16, 0) (by decide +kernel)), (K492.2.1 (122, 0) (by decide +kernel))]; exact I.2.2.2.2.1), (by rw [(K492.2.1 (19, 0) (by decide +kernel)), (K492.2.1 (122, 0) (by decide +kernel))]; exact I.2.2.2.2.2.1), (by rw [(K492.2.1 (22, 0) (by decide +kernel)), (K492.2.1 (122, 0) (by decide +kernel))]; exact I.2.2.2.2.2.2.1), (by rw [(K492.2.1 (25, 0) (by decide +kernel)), (K492.2.1 (122, 0) (by decide +kernel))]; exact I.2.2.2.2.2.2.2.1), (by rw [(K492.2.1 (28, 0) (by decide +kernel)), (K492.2.1 (122, 0) (by decide +kernel))]; exact I.2.2.2.2.2.2.2.2.1), (xE_mk A494 A495 (xE_id H9 ev481 s483)), (xE_mk A496 A497 (xE_set H10 (by first | omega | decide) (by omega) (by omega) (by omega) s454 s487)), (xL_mk A498 A494 H11), (xL_mk A499 A496 HL459), (xl_of A500 rfl), (xl_of A501 rfl), (xGR_fr I.2.2.2.2.2.2.2.2.2.2.2.2.2.2.2.1 K492.2.1 (by decide +kernel) (by decide +kernel)), (xGR_fr I.2.2.2.2.2.2.2.2.2.2.2.2.2.2.2.2.1 K492.2.1 (by decide +kernel) (by decide +kernel)), ((K492.2.1 (1, 5) (by decide +kernel)).trans (I.2.2.2.2.2.2.2.2.2.2.2.2.2.2.2.2.2.1.trans (K492.2.1 (115, 23) (by decide +kernel)).symm)), (xGR_fr I.2.2.2.2.2.2.2.2.2.2.2.2.2.2.2.2.2.2.1 K492.2.1 (by decide +kernel) (by decide +kernel)), (xGR_fr I.2.2.2.2.2.2.2.2.2.2.2.2.2.2.2.2.2.2.2.1 K492.2.1 (by decide +kernel) (by decide +kernel)), (xGR_fr I.2.2.2.2.2.2.2.2.2.2.2.2.2.2.2.2.2.2.2.2.1 K492.2.1 (by decide +kernel) (by decide +kernel)), (xGR_fr I.2.2.2.2.2.2.2.2.2.2.2.2.2.2.2.2.2.2.2.2.2.1 K492.2.1 (by decide +kernel) (by decide +kernel)), (by rw [(K492.2.1 (63, 2) (by decide +kernel)), (K492.2.1 (139, 0) (by decide +kernel)), (K492.2.1 (1, 5) (by decide +kernel))]; exact I.2.2.2.2.2.2.2.2.2.2.2.2.2.2.2.2.2.2.2.2.2.2.1), ((K492.2.1 (0, 8) (by decide +kernel)).trans (I.2.2.2.2.2.2.2.2.2.2.2.2.2.2.2.2.2.2.2.2.2.2.2.1.trans (K492.2.1 (115, 34) (by decide +kernel)).symm)), (xGR_fr I.2.2.2.2.2.2.2.2.2.2.2.2.2.2.2.2.2.2.2.2.2.2.2.2.1 K492.2.1 (by decide +kernel) (by decide +kernel)), (xGR_fr I.2.2.2.2.2.2.2.2.2.2.2.2.2.2.2.2.2.2.2.2.2.2.2.2.2.1 K492.2.1 (by decide +kernel) (by decide +kernel)), (xGR_fr I.2.2.2.2.2.2.2.2.2.2.2.2.2.2.2.2.2.2.2.2.2.2.2.2.2.2.1 K492.2.1 (by decide +kernel) (by decide +kernel)), (xGR_fr I.2.2.2.2.2.2.2.2.2.2.2.2.2.2.2.2.2.2.2.2.2.2.2.2.2.2.2.1 K492.2.1 (by decide +kernel) (by decide +kernel)), (xts_fr I.2.2.2.2.2.2.2.2.2.2.2.2.2.2.2.2.2.2.2.2.2.2.2.2.2.2.2.2.1 (fun l hl => K492.2.1 l (xk_el (by decide +kernel) hl))), ((K492.2.1 (63, 3) (by decide +kernel)).trans I.2.2.2.2.2.2.2.2.2.2.2.2.2.2.2.2.2.2.2.2.2.2.2.2.2.2.2.2.2)⟩
              · refine xi_iff (pc' := 4) kc_99_1 rfl (xc_lt_f (X := (a12.toInt + (-1))) (Y := 0) zv456 (by decide) (by omega)) ?_
                refine xi_iload_n (pc' := 5) (x := v456) kc_99_4 rfl rfl ?_
                refine xi_aload_n (pc' := 6) (x := 8) kc_99_5 rfl rfl ?_
                refine xi_getfield (pc' := 9) (v := .ref 10) kc_99_6 rfl rfl rfl A457 rfl ?_
                have A502 := ((eh454.2.1 10 (by decide)).trans ((eh442.2.1 10 (by decide)).trans A6))
                refine xi_arraylength (pc' := 10) (n := 601) (v := 601) kc_99_9 rfl (xl_lenI (by decide) (by decide) A502 hy6) rfl ?_
                refine xi_cmt (pc' := 20) kc_99_10 rfl (xc_lt_t (X := (a12.toInt + (-1))) (Y := 601) zv456 (by decide) (by omega)) ?_
                refine xi_aload_n (pc' := 21) (x := 8) kc_99_20 rfl rfl ?_
                refine xi_getfield (pc' := 24) (v := .ref 10) kc_99_21 rfl rfl rfl A457 rfl ?_
                refine xi_iload_n (pc' := 25) (x := v456) kc_99_24 rfl rfl ?_
                obtain ⟨v503, ev503, bv503, dv503⟩ := xj_get hy6 ry6 (i := v456) (by rw [zv456]; omega) (by rw [zv456]; omega)
                refine xi_iaload (pc' := 26) (v := v503) kc_99_25 rfl A502 (by decide) rfl (xi_in (by rw [zv456]; omega) (by rw [hy6]; rw [zv456]; omega)) ev503 ?_
                refine xi_ireturn kc_99_26 mr_99 rfl ?_
                show xw J ov 98 98 (37, [(3, .int v453), (0, .ref 8), (1, .int a12), (2, .int a16)], [.int v503], hh454) _
                refine xi_istore (pc' := 39) (lv' := [(4, .int v503), (3, .int v453), (0, .ref 8), (1, .int a12), (2, .int a16)]) kc_98_37 rfl rfl (xm_lt ml_98 rfl) ?_
                refine xi_iload_n (pc' := 40) (x := a12) kc_98_39 rfl rfl ?_
                refine xi_istore (pc' := 42) (lv' := [(5, .int a12), (4, .int v503), (3, .int v453), (0, .ref 8), (1, .int a12), (2, .int a16)]) kc_98_40 rfl rfl (xm_lt ml_98 rfl) ?_
                refine xw_lv (b := [(0, .ref 8), (3, .int v453), (4, .int v503), (5, .int a12)]) (lvS_cons (lvS_cons (lvS_cons (lvS_cons (lvS_nil (show ([5, 4, 3, 0, 1, 2] : List Nat).Nodup by decide)) rfl) rfl) rfl) rfl) ?_
                refine xw_tell (o := 8) (t := 9) (c := 10) (hb := hh454) (f := 0) (was := v453) (by decide) (by decide) (by decide) A457 rfl rfl eh454.1 hy454 (fun z9504 hh504 hz504 HL504 eh504 => ?_) 602 a12 v503 y6 hh454 (by omega) (by omega) (by omega) hy6 (xL_la (w := v456) H12 (by omega) (by omega) (by omega) (by omega) s454 ev503) (xL_pre H12 (by omega) (by omega) s454) (xh_rf A502)
                have ry504 : ∀ i, i < 601 → (-2147483648) ≤ (z9504.getD i 0).toInt ∧ (z9504.getD i 0).toInt ≤ 2147483647 := fun i _ => ⟨(xc_rng _).1, by have := (xc_rng (z9504.getD i 0)).2; omega⟩
                have K505 := xk_pa K455 (xk_wa (by decide +kernel)) xD_10 hz504 ry504 eh504
                show xw J ov 99 95 (104, [(5, .int 20), (4, .int 0), (0, .ref 0), (1, .int a12), (2, .int a14), (3, .int a16)], [.int v453], hh504) _
                refine xi_ireturn kc_95_104 mr_95 rfl ?_
                show xw J ov 100 195 (312, [(4, .int x4), (3, .ref 167), (2, .ref 115), (1, .ref 0), (0, .ref 1000000)], [.int v453], hh504) _
                refine xi_pop (pc' := 313) kc_195_312 rfl rfl ?_
                refine xi_aload_n (pc' := 314) (x := 115) kc_195_313 rfl rfl ?_
                refine xi_aload_n (pc' := 315) (x := 1000000) kc_195_314 rfl rfl ?_
                refine xi_iload (pc' := 317) (x := x4) kc_195_315 rfl rfl ?_
                refine xi_iconst (pc' := 318) (v := 1) kc_195_317 rfl rfl ?_
                refine xi_iadd (pc' := 319) (v := v11) kc_195_318 rfl ev11 ?_
                refine xi_ialoadO (pc' := 320) (v := a12) kc_195_319 rfl (by decide) hov0 (xi_in (by omega) (by omega)) ea12 ?_
                refine xi_aload_n (pc' := 321) (x := 1000000) kc_195_320 rfl rfl ?_
                refine xi_iload (pc' := 323) (x := x4) kc_195_321 rfl rfl ?_
                refine xi_iconst (pc' := 324) (v := 2) kc_195_323 rfl rfl ?_
                refine xi_iadd (pc' := 325) (v := v13) kc_195_324 rfl ev13 ?_
                refine xi_ialoadO (pc' := 326) (v := a14) kc_195_325 rfl (by decide) hov0 (xi_in (by omega) (by omega)) ea14 ?_
                refine xi_aload_n (pc' := 327) (x := 1000000) kc_195_326 rfl rfl ?_
                refine xi_iload (pc' := 329) (x := x4) kc_195_327 rfl rfl ?_
                refine xi_iconst (pc' := 330) (v := 3) kc_195_329 rfl rfl ?_
                refine xi_iadd (pc' := 331) (v := v15) kc_195_330 rfl ev15 ?_
                refine xi_ialoadO (pc' := 332) (v := a16) kc_195_331 rfl (by decide) hov0 (xi_in (by omega) (by omega)) ea16 ?_
                obtain ⟨u506, u507, u508, u509, u510, u511, u512, u513, u514, u515, u516, u517, u518, bu506, bu507, bu508, bu509, bu510, bu511, bu512, bu513, bu514, bu515, bu516, bu517, bu518, A519⟩ := xq_115 K.1
                have A520 := ((eh504.2.1 115 (by decide)).trans ((eh454.2.1 115 (by decide)).trans ((eh442.2.1 115 (by decide)).trans A519)))
                refine xi_virtual (mj := 16) (as := [.int a12, .int a14, .int a16]) (st1 := []) (lv0 := [(0, .ref 115), (1, .int a12), (2, .int a14), (3, .int a16)]) kc_195_332 rfl rfl rfl rfl rfl A520 (Nat.le_of_ble_eq_true rfl) (hJ _ _ _ _ (by decide)) (xm_le ml_16 rfl) rfl ?_
                refine xi_aload_n (pc' := 1) (x := 115) kc_16_0 rfl rfl ?_
                refine xi_iconst (pc' := 2) (v := 0) kc_16_1 rfl rfl ?_
                refine xi_putfield (pc' := 5) (fs' := [.int 0, .int u507, .ref 116, .ref 117, .ref 118, .ref 119, .ref 120, .ref 121, .ref 122, .ref 123, .ref 124, .ref 125, .ref 126, .ref 127, .ref 128, .ref 129, .int u508, .ref 130, .int u509, .ref 131, .ref 132, .ref 133, .ref 134, .int u510, .ref 135, .ref 136, .ref 137, .ref 138, .ref 139, .ref 140, .ref 141, .ref 142, .int u511, .int u512, .int u513, .ref 143, .ref 144, .ref 145, .ref 146, .ref 147, .ref 148, .int u514, .ref 149, .ref 150, .ref 151, .int u515, .ref 152, .ref 153, .ref 154, .ref 155, .ref 156, .ref 157, .ref 158, .ref 159, .int u516, .ref 160, .int u517, .ref 161, .ref 162, .ref 163, .ref 164, .int u518, .ref 165, .ref 166]) kc_16_2 rfl rfl rfl A520 rfl rfl rfl (Nat.le_of_ble_eq_true rfl) rfl (fun hh522 eh521 => ?_)
                have K523 := xk_pf (k := 0) (v := 0) K505 (xk_wf (by decide +kernel)) xD_115 A520 rfl (by first | omega | decide) (by first | omega | decide) eh521 rfl
                refine xi_iload_n (pc' := 6) (x := a14) kc_16_5 rfl rfl ?_
                refine xi_iconst (pc' := 7) (v := 0) kc_16_6 rfl rfl ?_
                refine xi_iconst (pc' := 8) (v := 1) kc_16_7 rfl rfl ?_
                refine xi_static (mj := 11) (as := [.int a14, .int 0, .int 1]) (st1 := []) (lv0 := [(0, .int a14), (1, .int 0), (2, .int 1)]) kc_16_8 rfl rfl (Nat.le_of_ble_eq_true rfl) rfl rfl (Nat.le_of_ble_eq_true rfl) (hJ _ _ _ _ (by decide)) (xm_le ml_11 rfl) rfl ?_
                refine xi_iload_n (pc' := 1) (x := a14) kc_11_0 rfl rfl ?_
                refine xi_iload_n (pc' := 2) (x := 0) kc_11_1 rfl rfl ?_
                refine xi_cmf (pc' := 5) kc_11_2 rfl (xc_lt_f (X := a14.toInt) (Y := 0) rfl (by decide) (by omega)) ?_
                refine xi_iload_n (pc' := 6) (x := a14) kc_11_5 rfl rfl ?_
                refine xi_iload_n (pc' := 7) (x := 1) kc_11_6 rfl rfl ?_
                refine xi_cmf (pc' := 10) kc_11_7 rfl (xc_gt_f (X := a14.toInt) (Y := 1) rfl (by decide) (by omega)) ?_
                refine xi_iconst (pc' := 11) (v := 1) kc_11_10 rfl rfl ?_
                refine xi_goto (pc' := 15) kc_11_11 rfl ?_
                refine xi_ireturn kc_11_15 mr_11 rfl ?_
                show xw J ov 99 16 (11, [(0, .ref 115), (1, .int a12), (2, .int a14), (3, .int a16)], [.int 1], hh522) _
                refine xi_ift (pc' := 21) kc_16_11 rfl rfl ?_
                refine xi_iload_n (pc' := 22) (x := a12) kc_16_21 rfl rfl ?_
                refine xi_iff (pc' := 25) kc_16_22 rfl (xc_lt_f (X := a12.toInt) (Y := 0) rfl (by decide) (by omega)) ?_
                refine xi_iload_n (pc' := 26) (x := a16) kc_16_25 rfl rfl ?_
                refine xi_iload_n (pc' := 27) (x := a14) kc_16_26 rfl rfl ?_
                refine xi_ift (pc' := 35) kc_16_27 rfl (xc_ne_t (X := a14.toInt) (Y := 0) rfl (by decide) (by omega)) ?_
                refine xi_iconst (pc' := 36) (v := 0) kc_16_35 rfl rfl ?_
                refine xi_cmt (pc' := 46) kc_16_36 rfl (xc_ge_t (X := a16.toInt) (Y := 0) rfl (by decide) (by omega)) ?_
                refine xi_iload_n (pc' := 47) (x := a12) kc_16_46 rfl rfl ?_
                refine xi_sipush (pc' := 50) (v := 599) kc_16_47 rfl rfl ?_
                refine xi_cmf (pc' := 53) kc_16_50 rfl (xc_gt_f (X := a12.toInt) (Y := 599) rfl (by decide) (by omega)) ?_
                refine xi_iload_n (pc' := 54) (x := a16) kc_16_53 rfl rfl ?_
                refine xi_iload_n (pc' := 55) (x := a14) kc_16_54 rfl rfl ?_
                refine xi_ift (pc' := 63) kc_16_55 rfl (xc_ne_t (X := a14.toInt) (Y := 0) rfl (by decide) (by omega)) ?_
                refine xi_bipush (pc' := 65) (v := 20) kc_16_63 rfl rfl ?_
                refine xi_cmt (pc' := 81) kc_16_65 rfl (xc_le_t (X := a16.toInt) (Y := 20) rfl (by decide) (by omega)) ?_
                refine xi_iload_n (pc' := 82) (x := a14) kc_16_81 rfl rfl ?_
                refine xi_ift (pc' := 94) kc_16_82 rfl (xc_ne_t (X := a14.toInt) (Y := 0) rfl (by decide) (by omega)) ?_
                refine xi_aload_n (pc' := 95) (x := 115) kc_16_94 rfl rfl ?_
                refine xi_getfield (pc' := 98) (v := .ref 124) kc_16_95 rfl rfl rfl eh521.1 rfl ?_
                refine xi_iload_n (pc' := 99) (x := a12) kc_16_98 rfl rfl ?_
                have A524 := ((eh521.2.1 124 (by decide)).trans ((eh504.2.1 124 (by decide)).trans ((eh454.2.1 124 (by decide)).trans ((eh442.2.1 124 (by decide)).trans A4))))
                refine xi_iaload (pc' := 100) (v := v453) kc_16_99 rfl A524 (by decide) rfl (xi_in (by omega) (by rw [hy4]; omega)) (xE_ld H10 (by first | omega | decide) (by first | omega | decide) (by omega) ev453) ?_
                refine xi_istore (pc' := 102) (lv' := [(4, .int v453), (0, .ref 115), (1, .int a12), (2, .int a14), (3, .int a16)]) kc_16_100 rfl rfl (xm_lt ml_16 rfl) ?_
                refine xi_aload_n (pc' := 103) (x := 115) kc_16_102 rfl rfl ?_
                refine xi_getfield (pc' := 106) (v := .ref 123) kc_16_103 rfl rfl rfl eh521.1 rfl ?_
                refine xi_iload_n (pc' := 107) (x := a12) kc_16_106 rfl rfl ?_
                refine xi_iload_n (pc' := 108) (x := a14) kc_16_107 rfl rfl ?_
                refine xi_ift (pc' := 115) kc_16_108 rfl (xc_ne_t (X := a14.toInt) (Y := 0) rfl (by decide) (by omega)) ?_
                refine xi_aload_n (pc' := 116) (x := 115) kc_16_115 rfl rfl ?_
                refine xi_getfield (pc' := 119) (v := .ref 123) kc_16_116 rfl rfl rfl eh521.1 rfl ?_
                refine xi_iload_n (pc' := 120) (x := a12) kc_16_119 rfl rfl ?_
                obtain ⟨v525, ev525, bv525, dv525⟩ := xj_get hy2 ry2 (i := a12) (by omega) (by omega)
                have A526 := ((eh521.2.1 123 (by decide)).trans ((eh504.2.1 123 (by decide)).trans ((eh454.2.1 123 (by decide)).trans ((eh442.2.1 123 (by decide)).trans A2))))
                refine xi_iaload (pc' := 121) (v := v525) kc_16_120 rfl A526 (by decide) rfl (xi_in (by omega) (by rw [hy2]; omega)) ev525 ?_
                obtain ⟨y527, s527, hy527, ry527⟩ := xj_set (v := v525) hy2 ry2 a12 (by first | omega | decide) (by first | omega | decide)
                refine xi_iastore (pc' := 122) (x' := y527) kc_16_121 rfl A526 rfl (xi_in (by omega) (by rw [hy2]; omega)) s527 (fun hh527 eh527 => ?_)
                have K528 := xk_pa K523 (xk_wa (by decide +kernel)) xD_123 hy527 ry527 eh527
                refine xi_aload_n (pc' := 123) (x := 115) kc_16_122 rfl rfl ?_
                have A529 := ((eh527.2.1 115 (by decide)).trans eh521.1)
                refine xi_getfield (pc' := 126) (v := .ref 124) kc_16_123 rfl rfl rfl A529 rfl ?_
                refine xi_iload_n (pc' := 127) (x := a12) kc_16_126 rfl rfl ?_
                refine xi_iload_n (pc' := 128) (x := a14) kc_16_127 rfl rfl ?_
                refine xi_iconst (pc' := 129) (v := 1) kc_16_128 rfl rfl ?_
                refine xi_cmf (pc' := 132) kc_16_129 rfl (xc_ne_f (X := a14.toInt) (Y := 1) rfl (by decide) (by omega)) ?_
                refine xi_iload_n (pc' := 133) (x := a16) kc_16_132 rfl rfl ?_
                refine xi_goto (pc' := 142) kc_16_133 rfl ?_
                have A530 := ((eh527.2.1 124 (by decide)).trans A524)
                obtain ⟨y531, s531, hy531, ry531⟩ := xj_set (v := a16) hy4 ry4 a12 (by first | omega | decide) (by first | omega | decide)
                refine xi_iastore (pc' := 143) (x' := y531) kc_16_142 rfl A530 rfl (xi_in (by omega) (by rw [hy4]; omega)) s531 (fun hh531 eh531 => ?_)
                have K532 := xk_pa K528 (xk_wa (by decide +kernel)) xD_124 hy531 ry531 eh531
                refine xi_aload_n (pc' := 144) (x := 115) kc_16_143 rfl rfl ?_
                refine xi_iconst (pc' := 145) (v := 0) kc_16_144 rfl rfl ?_
                have A533 := ((eh531.2.1 115 (by decide)).trans A529)
                refine xi_putfield (pc' := 148) (fs' := [.int 0, .int u507, .ref 116, .ref 117, .ref 118, .ref 119, .ref 120, .ref 121, .ref 122, .ref 123, .ref 124, .ref 125, .ref 126, .ref 127, .ref 128, .ref 129, .int u508, .ref 130, .int u509, .ref 131, .ref 132, .ref 133, .ref 134, .int u510, .ref 135, .ref 136, .ref 137, .ref 138, .ref 139, .ref 140, .ref 141, .ref 142, .int u511, .int u512, .int u513, .ref 143, .ref 144, .ref 145, .ref 146, .ref 147, .ref 148, .int 0, .ref 149, .ref 150, .ref 151, .int u515, .ref 152, .ref 153, .ref 154, .ref 155, .ref 156, .ref 157, .ref 158, .ref 159, .int u516, .ref 160, .int u517, .ref 161, .ref 162, .ref 163, .ref 164, .int u518, .ref 165, .ref 166]) kc_16_145 rfl rfl rfl A533 rfl rfl rfl (Nat.le_of_ble_eq_true rfl) rfl (fun hh535 eh534 => ?_)
                have K536 := xk_pf (k := 41) (v := 0) K532 (xk_wf (by decide +kernel)) xD_115 A533 rfl (by first | omega | decide) (by first | omega | decide) eh534 rfl
                refine xi_iload (pc' := 150) (x := v453) kc_16_148 rfl rfl ?_
                refine xi_ireturn kc_16_150 mr_16 rfl ?_
                show xw J ov 100 195 (335, [(4, .int x4), (3, .ref 167), (2, .ref 115), (1, .ref 0), (0, .ref 1000000)], [.int v453], hh535) _
                refine xi_pop (pc' := 336) kc_195_335 rfl rfl ?_
                refine xi_goto (pc' := 1501) kc_195_336 rfl ?_
                obtain ⟨v537, ev537⟩ : ∃ q : Int32, x4 + 6 = q := ⟨_, rfl⟩
                have zv537 : v537.toInt = (x4.toInt + 6) := by rw [← ev537]; exact (xz_add (X := x4.toInt) (Y := 6) rfl (by decide) (by omega) (by omega)).trans (by omega)
                refine xi_iinc (pc' := 1504) (x := x4) (v := v537) (lv' := [(4, .int v537), (3, .ref 167), (2, .ref 115), (1, .ref 0), (0, .ref 1000000)]) kc_195_1501 rfl rfl ev537 rfl (xm_lt ml_195 rfl) ?_
                refine xi_goto (pc' := 23) kc_195_1504 rfl ?_
                have A538 := ((eh534.2.1 6 (by decide)).trans ((eh531.2.1 6 (by decide)).trans ((eh527.2.1 6 (by decide)).trans ((eh521.2.1 6 (by decide)).trans ((eh504.2.1 6 (by decide)).trans ((eh454.2.1 6 (by decide)).trans ((eh442.2.1 6 (by decide)).trans A1)))))))
                have A539 := ((eh534.2.1 123 (by decide)).trans ((eh531.2.1 123 (by decide)).trans eh527.1))
                have A540 := ((eh534.2.1 9 (by decide)).trans ((eh531.2.1 9 (by decide)).trans ((eh527.2.1 9 (by decide)).trans ((eh521.2.1 9 (by decide)).trans ((eh504.2.1 9 (by decide)).trans eh454.1)))))
                have A541 := ((eh534.2.1 124 (by decide)).trans eh531.1)
                have A542 := ((eh534.2.1 7 (by decide)).trans ((eh531.2.1 7 (by decide)).trans ((eh527.2.1 7 (by decide)).trans ((eh521.2.1 7 (by decide)).trans ((eh504.2.1 7 (by decide)).trans ((eh454.2.1 7 (by decide)).trans ((eh442.2.1 7 (by decide)).trans A5)))))))
                have A543 := ((eh534.2.1 10 (by decide)).trans ((eh531.2.1 10 (by decide)).trans ((eh527.2.1 10 (by decide)).trans ((eh521.2.1 10 (by decide)).trans eh504.1))))
                have A544 := ((eh534.2.1 5 (by decide)).trans ((eh531.2.1 5 (by decide)).trans ((eh527.2.1 5 (by decide)).trans ((eh521.2.1 5 (by decide)).trans ((eh504.2.1 5 (by decide)).trans ((eh454.2.1 5 (by decide)).trans ((eh442.2.1 5 (by decide)).trans A8)))))))
                have A545 := ((eh534.2.1 8 (by decide)).trans ((eh531.2.1 8 (by decide)).trans ((eh527.2.1 8 (by decide)).trans ((eh521.2.1 8 (by decide)).trans ((eh504.2.1 8 (by decide)).trans A457)))))
                exact kk v537 hh535 (by omega) K536 ⟨((K536.2.1 (0, 9) (by decide +kernel)).trans (I.1.trans (K536.2.1 (115, 1) (by decide +kernel)).symm)), (xWW_fr I.2.1 (K536.2.1 (64, 0) (by decide +kernel)) (K536.2.1 (121, 0) (by decide +kernel))), (xSG_fr I.2.2.1 (fun l hl => K536.2.1 l (xk_el (by decide +kernel) hl))), (by rw [(K536.2.1 (13, 0) (by decide +kernel)), (K536.2.1 (122, 0) (by decide +kernel))]; exact I.2.2.2.1), (by rw [(K536.2.1 (16, 0) (by decide +kernel)), (K536.2.1 (122, 0) (by decide +kernel))]; exact I.2.2.2.2.1), (by rw [(K536.2.1 (19, 0) (by decide +kernel)), (K536.2.1 (122, 0) (by decide +kernel))]; exact I.2.2.2.2.2.1), (by rw [(K536.2.1 (22, 0) (by decide +kernel)), (K536.2.1 (122, 0) (by decide +kernel))]; exact I.2.2.2.2.2.2.1), (by rw [(K536.2.1 (25, 0) (by decide +kernel)), (K536.2.1 (122, 0) (by decide +kernel))]; exact I.2.2.2.2.2.2.2.1), (by rw [(K536.2.1 (28, 0) (by decide +kernel)), (K536.2.1 (122, 0) (by decide +kernel))]; exact I.2.2.2.2.2.2.2.2.1), (xE_mk A538 A539 (xE_id H9 ev525 s527)), (xE_mk A540 A541 (xE_set H10 (by first | omega | decide) (by omega) (by omega) (by omega) s454 s531)), (xL_mk A542 A538 H11), (xL_mk A543 A540 HL504), (xl_of A544 rfl), (xl_of A545 rfl), (xGR_fr I.2.2.2.2.2.2.2.2.2.2.2.2.2.2.2.1 K536.2.1 (by decide +kernel) (by decide +kernel)), (xGR_fr I.2.2.2.2.2.2.2.2.2.2.2.2.2.2.2.2.1 K536.2.1 (by decide +kernel) (by decide +kernel)), ((K536.2.1 (1, 5) (by decide +kernel)).trans (I.2.2.2.2.2.2.2.2.2.2.2.2.2.2.2.2.2.1.trans (K536.2.1 (115, 23) (by decide +kernel)).symm)), (xGR_fr I.2.2.2.2.2.2.2.2.2.2.2.2.2.2.2.2.2.2.1 K536.2.1 (by decide +kernel) (by decide +kernel)), (xGR_fr I.2.2.2.2.2.2.2.2.2.2.2.2.2.2.2.2.2.2.2.1 K536.2.1 (by decide +kernel) (by decide +kernel)), (xGR_fr I.2.2.2.2.2.2.2.2.2.2.2.2.2.2.2.2.2.2.2.2.1 K536.2.1 (by decide +kernel) (by decide +kernel)), (xGR_fr I.2.2.2.2.2.2.2.2.2.2.2.2.2.2.2.2.2.2.2.2.2.1 K536.2.1 (by decide +kernel) (by decide +kernel)), (by rw [(K536.2.1 (63, 2) (by decide +kernel)), (K536.2.1 (139, 0) (by decide +kernel)), (K536.2.1 (1, 5) (by decide +kernel))]; exact I.2.2.2.2.2.2.2.2.2.2.2.2.2.2.2.2.2.2.2.2.2.2.1), ((K536.2.1 (0, 8) (by decide +kernel)).trans (I.2.2.2.2.2.2.2.2.2.2.2.2.2.2.2.2.2.2.2.2.2.2.2.1.trans (K536.2.1 (115, 34) (by decide +kernel)).symm)), (xGR_fr I.2.2.2.2.2.2.2.2.2.2.2.2.2.2.2.2.2.2.2.2.2.2.2.2.1 K536.2.1 (by decide +kernel) (by decide +kernel)), (xGR_fr I.2.2.2.2.2.2.2.2.2.2.2.2.2.2.2.2.2.2.2.2.2.2.2.2.2.1 K536.2.1 (by decide +kernel) (by decide +kernel)), (xGR_fr I.2.2.2.2.2.2.2.2.2.2.2.2.2.2.2.2.2.2.2.2.2.2.2.2.2.2.1 K536.2.1 (by decide +kernel) (by decide +kernel)), (xGR_fr I.2.2.2.2.2.2.2.2.2.2.2.2.2.2.2.2.2.2.2.2.2.2.2.2.2.2.2.1 K536.2.1 (by decide +kernel) (by decide +kernel)), (xts_fr I.2.2.2.2.2.2.2.2.2.2.2.2.2.2.2.2.2.2.2.2.2.2.2.2.2.2.2.2.1 (fun l hl => K536.2.1 l (xk_el (by decide +kernel) hl))), ((K536.2.1 (63, 3) (by decide +kernel)).trans I.2.2.2.2.2.2.2.2.2.2.2.2.2.2.2.2.2.2.2.2.2.2.2.2.2.2.2.2.2)⟩
            · refine xi_cmf (pc' := 71) kc_95_68 rfl (xc_le_f (X := a16.toInt) (Y := 20) rfl (by decide) (by omega)) ?_
              refine xi_iload_n (pc' := 72) (x := a16) kc_95_71 rfl rfl ?_
              refine xi_bipush (pc' := 74) (v := 99) kc_95_72 rfl rfl ?_
              by_cases c546 : a16.toInt = 99
              · refine xi_cmt (pc' := 84) kc_95_74 rfl (xc_eq_t (X := a16.toInt) (Y := 99) rfl (by decide) (by omega)) ?_
                refine xi_aload_n (pc' := 85) (x := 0) kc_95_84 rfl rfl ?_
                refine xi_getfield (pc' := 88) (v := .ref 66) kc_95_85 rfl rfl rfl A19 rfl ?_
                obtain ⟨u548, wl547, bu548, A549⟩ := xq_66 K.1
                refine xi_virtual (mj := 91) (as := []) (st1 := []) (lv0 := [(0, .ref 66)]) kc_95_88 rfl rfl rfl rfl rfl A549 (Nat.le_of_ble_eq_true rfl) (hJ _ _ _ _ (by decide)) (xm_le ml_91 rfl) rfl ?_
                refine xi_aload_n (pc' := 1) (x := 66) kc_91_0 rfl rfl ?_
                refine xi_lconst (pc' := 2) (v := 0) kc_91_1 rfl rfl ?_
                refine xi_putfield (pc' := 5) (fs' := [.ref 1, .ref 67, .ref 70, .ref 71, .ref 72, .ref 73, .ref 74, .long 0, .int u548]) kc_91_2 rfl rfl rfl A549 rfl rfl rfl (Nat.le_of_ble_eq_true rfl) rfl (fun hh551 eh550 => ?_)
                have K552 := xk_pl (k := 7) (v := 0) K (xk_wf (by decide +kernel)) xD_66 A549 rfl eh550 rfl
                have KR553 := xk_pl (k := 7) (v := 0) KR (xk_wf (by decide +kernel)) xD_66 A549 rfl eh550 rfl
                refine xi_return kc_91_5 mr_91 ?_
                show xw J ov 99 95 (91, [(5, .int 20), (4, .int 0), (0, .ref 0), (1, .int a12), (2, .int a14), (3, .int a16)], [], hh551) _
                refine xi_aload_n (pc' := 92) (x := 0) kc_95_91 rfl rfl ?_
                have A554 := ((eh550.2.1 0 (by decide)).trans A19)
                refine xi_getfield (pc' := 95) (v := .ref 1) kc_95_92 rfl rfl rfl A554 rfl ?_
                refine xi_iload_n (pc' := 96) (x := a14) kc_95_95 rfl rfl ?_
                obtain ⟨u555, u556, bu555, bu556, A557⟩ := xq_1 K.1
                have A558 := ((eh550.2.1 1 (by decide)).trans A557)
                refine xi_virtual (mj := 97) (as := [.int a14]) (st1 := []) (lv0 := [(0, .ref 1), (1, .int a14)]) kc_95_96 rfl rfl rfl rfl rfl A558 (Nat.le_of_ble_eq_true rfl) (hJ _ _ _ _ (by decide)) (xm_le ml_97 rfl) rfl ?_
                refine xi_iload_n (pc' := 1) (x := a14) kc_97_0 rfl rfl ?_
                refine xi_ift (pc' := 11) kc_97_1 rfl (xc_ne_t (X := a14.toInt) (Y := 0) rfl (by decide) (by omega)) ?_
                refine xi_aload_n (pc' := 12) (x := 1) kc_97_11 rfl rfl ?_
                refine xi_getfield (pc' := 15) (v := .ref 8) kc_97_12 rfl rfl rfl A558 rfl ?_
                refine xi_areturn kc_97_15 (by rw [mr_97]; rfl) ?_
                show xw J ov 99 95 (99, [(5, .int 20), (4, .int 0), (0, .ref 0), (1, .int a12), (2, .int a14), (3, .int a16)], [.ref 8], hh551) _
                refine xi_iload_n (pc' := 100) (x := a12) kc_95_99 rfl rfl ?_
                refine xi_iload_n (pc' := 101) (x := a16) kc_95_100 rfl rfl ?_
                have A559 := ((eh550.2.1 8 (by decide)).trans A10)
                refine xi_virtual (mj := 98) (as := [.int a12, .int a16]) (st1 := []) (lv0 := [(0, .ref 8), (1, .int a12), (2, .int a16)]) kc_95_101 rfl rfl rfl rfl rfl A559 (Nat.le_of_ble_eq_true rfl) (hJ _ _ _ _ (by decide)) (xm_le ml_98 rfl) rfl ?_
                refine xi_iload_n (pc' := 1) (x := a12) kc_98_0 rfl rfl ?_
                refine xi_iff (pc' := 4) kc_98_1 rfl (xc_lt_f (X := a12.toInt) (Y := 0) rfl (by decide) (by omega)) ?_
                refine xi_iload_n (pc' := 5) (x := a12) kc_98_4 rfl rfl ?_
                refine xi_aload_n (pc' := 6) (x := 8) kc_98_5 rfl rfl ?_
                refine xi_getfield (pc' := 9) (v := .ref 9) kc_98_6 rfl rfl rfl A559 rfl ?_
                have A560 := ((eh550.2.1 9 (by decide)).trans A3)
                refine xi_arraylength (pc' := 10) (n := 601) (v := 601) kc_98_9 rfl (xl_lenI (by decide) (by decide) A560 hy3) rfl ?_
                refine xi_cmt (pc' := 16) kc_98_10 rfl (xc_lt_t (X := a12.toInt) (Y := 601) rfl (by decide) (by omega)) ?_
                refine xi_aload_n (pc' := 17) (x := 8) kc_98_16 rfl rfl ?_
                refine xi_getfield (pc' := 20) (v := .ref 9) kc_98_17 rfl rfl rfl A559 rfl ?_
                refine xi_iload_n (pc' := 21) (x := a12) kc_98_20 rfl rfl ?_
                obtain ⟨v561, ev561, bv561, dv561⟩ := xj_get hy3 ry3 (i := a12) (by omega) (by omega)
                refine xi_iaload (pc' := 22) (v := v561) kc_98_21 rfl A560 (by decide) rfl (xi_in (by omega) (by rw [hy3]; omega)) ev561 ?_
                refine xi_istore_n (pc' := 23) (lv' := [(3, .int v561), (0, .ref 8), (1, .int a12), (2, .int a16)]) kc_98_22 rfl rfl (xm_lt ml_98 rfl) ?_
                refine xi_aload_n (pc' := 24) (x := 8) kc_98_23 rfl rfl ?_
                refine xi_getfield (pc' := 27) (v := .ref 9) kc_98_24 rfl rfl rfl A559 rfl ?_
                refine xi_iload_n (pc' := 28) (x := a12) kc_98_27 rfl rfl ?_
                refine xi_iload_n (pc' := 29) (x := a16) kc_98_28 rfl rfl ?_
                obtain ⟨y562, s562, hy562, ry562⟩ := xj_set (v := a16) hy3 ry3 a12 (by first | omega | decide) (by first | omega | decide)
                refine xi_iastore (pc' := 30) (x' := y562) kc_98_29 rfl A560 rfl (xi_in (by omega) (by rw [hy3]; omega)) s562 (fun hh562 eh562 => ?_)
                have K563 := xk_pa K552 (xk_wa (by decide +kernel)) xD_9 hy562 ry562 eh562
                refine xi_aload_n (pc' := 31) (x := 8) kc_98_30 rfl rfl ?_
                refine xi_iload_n (pc' := 32) (x := a12) kc_98_31 rfl rfl ?_
                refine xi_iconst (pc' := 33) (v := 1) kc_98_32 rfl rfl ?_
                obtain ⟨v564, ev564⟩ : ∃ q : Int32, a12 - 1 = q := ⟨_, rfl⟩
                have zv564 : v564.toInt = (a12.toInt + (-1)) := by rw [← ev564]; exact (xz_sub (X := a12.toInt) (Y := 1) rfl (by decide) (by omega) (by omega)).trans (by omega)
                refine xi_isub (pc' := 34) (v := v564) kc_98_33 rfl ev564 ?_
                have A565 := ((eh562.2.1 8 (by decide)).trans A559)
                refine xi_virtual (mj := 99) (as := [.int v564]) (st1 := []) (lv0 := [(0, .ref 8), (1, .int v564)]) kc_98_34 rfl rfl rfl rfl rfl A565 (Nat.le_of_ble_eq_true rfl) (hJ _ _ _ _ (by decide)) (xm_le ml_99 rfl) rfl ?_
                refine xi_iload_n (pc' := 1) (x := v564) kc_99_0 rfl rfl ?_
                by_cases c566 : (a12.toInt + (-1)) < 0
                · refine xi_ift (pc' := 13) kc_99_1 rfl (xc_lt_t (X := (a12.toInt + (-1))) (Y := 0) zv564 (by decide) (by omega)) ?_
                  refine xi_aload_n (pc' := 14) (x := 8) kc_99_13 rfl rfl ?_
                  refine xi_getfield (pc' := 17) (v := .int 0) kc_99_14 rfl rfl rfl A565 rfl ?_
                  refine xi_goto (pc' := 26) kc_99_17 rfl ?_
                  refine xi_ireturn kc_99_26 mr_99 rfl ?_
                  show xw J ov 98 98 (37, [(3, .int v561), (0, .ref 8), (1, .int a12), (2, .int a16)], [.int 0], hh562) _
                  refine xi_istore (pc' := 39) (lv' := [(4, .int 0), (3, .int v561), (0, .ref 8), (1, .int a12), (2, .int a16)]) kc_98_37 rfl rfl (xm_lt ml_98 rfl) ?_
                  refine xi_iload_n (pc' := 40) (x := a12) kc_98_39 rfl rfl ?_
                  refine xi_istore (pc' := 42) (lv' := [(5, .int a12), (4, .int 0), (3, .int v561), (0, .ref 8), (1, .int a12), (2, .int a16)]) kc_98_40 rfl rfl (xm_lt ml_98 rfl) ?_
                  refine xw_lv (b := [(0, .ref 8), (3, .int v561), (4, .int 0), (5, .int a12)]) (lvS_cons (lvS_cons (lvS_cons (lvS_cons (lvS_nil (show ([5, 4, 3, 0, 1, 2] : List Nat).Nodup by decide)) rfl) rfl) rfl) rfl) ?_
                  have A568 := ((eh562.2.1 10 (by decide)).trans ((eh550.2.1 10 (by decide)).trans A6))
                  refine xw_tell (o := 8) (t := 9) (c := 10) (hb := hh562) (f := 0) (was := v561) (by decide) (by decide) (by decide) A565 rfl rfl eh562.1 hy562 (fun z9567 hh567 hz567 HL567 eh567 => ?_) 602 a12 0 y6 hh562 (by omega) (by omega) (by omega) hy6 (xL_la0 (by omega)) (xL_pre H12 (by omega) (by omega) s562) (xh_rf A568)
                  have ry567 : ∀ i, i < 601 → (-2147483648) ≤ (z9567.getD i 0).toInt ∧ (z9567.getD i 0).toInt ≤ 2147483647 := fun i _ => ⟨(xc_rng _).1, by have := (xc_rng (z9567.getD i 0)).2; omega⟩
                  have K569 := xk_pa K563 (xk_wa (by decide +kernel)) xD_10 hz567 ry567 eh567
                  show xw J ov 99 95 (104, [(5, .int 20), (4, .int 0), (0, .ref 0), (1, .int a12), (2, .int a14), (3, .int a16)], [.int v561], hh567) _
                  refine xi_ireturn kc_95_104 mr_95 rfl ?_
                  show xw J ov 100 195 (312, [(4, .int x4), (3, .ref 167), (2, .ref 115), (1, .ref 0), (0, .ref 1000000)], [.int v561], hh567) _
                  refine xi_pop (pc' := 313) kc_195_312 rfl rfl ?_
                  refine xi_aload_n (pc' := 314) (x := 115) kc_195_313 rfl rfl ?_
                  refine xi_aload_n (pc' := 315) (x := 1000000) kc_195_314 rfl rfl ?_
                  refine xi_iload (pc' := 317) (x := x4) kc_195_315 rfl rfl ?_
                  refine xi_iconst (pc' := 318) (v := 1) kc_195_317 rfl rfl ?_
                  refine xi_iadd (pc' := 319) (v := v11) kc_195_318 rfl ev11 ?_
                  refine xi_ialoadO (pc' := 320) (v := a12) kc_195_319 rfl (by decide) hov0 (xi_in (by omega) (by omega)) ea12 ?_
                  refine xi_aload_n (pc' := 321) (x := 1000000) kc_195_320 rfl rfl ?_
                  refine xi_iload (pc' := 323) (x := x4) kc_195_321 rfl rfl ?_
                  refine xi_iconst (pc' := 324) (v := 2) kc_195_323 rfl rfl ?_
                  refine xi_iadd (pc' := 325) (v := v13) kc_195_324 rfl ev13 ?_
                  refine xi_ialoadO (pc' := 326) (v := a14) kc_195_325 rfl (by decide) hov0 (xi_in (by omega) (by omega)) ea14 ?_
                  refine xi_aload_n (pc' := 327) (x := 1000000) kc_195_326 rfl rfl ?_
                  refine xi_iload (pc' := 329) (x := x4) kc_195_327 rfl rfl ?_
                  refine xi_iconst (pc' := 330) (v := 3) kc_195_329 rfl rfl ?_
                  refine xi_iadd (pc' := 331) (v := v15) kc_195_330 rfl ev15 ?_
                  refine xi_ialoadO (pc' := 332) (v := a16) kc_195_331 rfl (by decide) hov0 (xi_in (by omega) (by omega)) ea16 ?_
                  obtain ⟨u570, u571, u572, u573, u574, u575, u576, u577, u578, u579, u580, u581, u582, bu570, bu571, bu572, bu573, bu574, bu575, bu576, bu577, bu578, bu579, bu580, bu581, bu582, A583⟩ := xq_115 K.1
                  have A584 := ((eh567.2.1 115 (by decide)).trans ((eh562.2.1 115 (by decide)).trans ((eh550.2.1 115 (by decide)).trans A583)))
                  refine xi_virtual (mj := 16) (as := [.int a12, .int a14, .int a16]) (st1 := []) (lv0 := [(0, .ref 115), (1, .int a12), (2, .int a14), (3, .int a16)]) kc_195_332 rfl rfl rfl rfl rfl A584 (Nat.le_of_ble_eq_true rfl) (hJ _ _ _ _ (by decide)) (xm_le ml_16 rfl) rfl ?_
                  refine xi_aload_n (pc' := 1) (x := 115) kc_16_0 rfl rfl ?_
                  refine xi_iconst (pc' := 2) (v := 0) kc_16_1 rfl rfl ?_
                  refine xi_putfield (pc' := 5) (fs' := [.int 0, .int u571, .ref 116, .ref 117, .ref 118, .ref 119, .ref 120, .ref 121, .ref 122, .ref 123, .ref 124, .ref 125, .ref 126, .ref 127, .ref 128, .ref 129, .int u572, .ref 130, .int u573, .ref 131, .ref 132, .ref 133, .ref 134, .int u574, .ref 135, .ref 136, .ref 137, .ref 138, .ref 139, .ref 140, .ref 141, .ref 142, .int u575, .int u576, .int u577, .ref 143, .ref 144, .ref 145, .ref 146, .ref 147, .ref 148, .int u578, .ref 149, .ref 150, .ref 151, .int u579, .ref 152, .ref 153, .ref 154, .ref 155, .ref 156, .ref 157, .ref 158, .ref 159, .int u580, .ref 160, .int u581, .ref 161, .ref 162, .ref 163, .ref 164, .int u582, .ref 165, .ref 166]) kc_16_2 rfl rfl rfl A584 rfl rfl rfl (Nat.le_of_ble_eq_true rfl) rfl (fun hh586 eh585 => ?_)
                  have K587 := xk_pf (k := 0) (v := 0) K569 (xk_wf (by decide +kernel)) xD_115 A584 rfl (by first | omega | decide) (by first | omega | decide) eh585 rfl
                  refine xi_iload_n (pc' := 6) (x := a14) kc_16_5 rfl rfl ?_
                  refine xi_iconst (pc' := 7) (v := 0) kc_16_6 rfl rfl ?_
                  refine xi_iconst (pc' := 8) (v := 1) kc_16_7 rfl rfl ?_
                  refine xi_static (mj := 11) (as := [.int a14, .int 0, .int 1]) (st1 := []) (lv0 := [(0, .int a14), (1, .int 0), (2, .int 1)]) kc_16_8 rfl rfl (Nat.le_of_ble_eq_true rfl) rfl rfl (Nat.le_of_ble_eq_true rfl) (hJ _ _ _ _ (by decide)) (xm_le ml_11 rfl) rfl ?_
                  refine xi_iload_n (pc' := 1) (x := a14) kc_11_0 rfl rfl ?_
                  refine xi_iload_n (pc' := 2) (x := 0) kc_11_1 rfl rfl ?_
                  refine xi_cmf (pc' := 5) kc_11_2 rfl (xc_lt_f (X := a14.toInt) (Y := 0) rfl (by decide) (by omega)) ?_
                  refine xi_iload_n (pc' := 6) (x := a14) kc_11_5 rfl rfl ?_
                  refine xi_iload_n (pc' := 7) (x := 1) kc_11_6 rfl rfl ?_
                  refine xi_cmf (pc' := 10) kc_11_7 rfl (xc_gt_f (X := a14.toInt) (Y := 1) rfl (by decide) (by omega)) ?_
                  refine xi_iconst (pc' := 11) (v := 1) kc_11_10 rfl rfl ?_
                  refine xi_goto (pc' := 15) kc_11_11 rfl ?_
                  refine xi_ireturn kc_11_15 mr_11 rfl ?_
                  show xw J ov 99 16 (11, [(0, .ref 115), (1, .int a12), (2, .int a14), (3, .int a16)], [.int 1], hh586) _
                  refine xi_ift (pc' := 21) kc_16_11 rfl rfl ?_
                  refine xi_iload_n (pc' := 22) (x := a12) kc_16_21 rfl rfl ?_
                  refine xi_iff (pc' := 25) kc_16_22 rfl (xc_lt_f (X := a12.toInt) (Y := 0) rfl (by decide) (by omega)) ?_
                  refine xi_iload_n (pc' := 26) (x := a16) kc_16_25 rfl rfl ?_
                  refine xi_iload_n (pc' := 27) (x := a14) kc_16_26 rfl rfl ?_
                  refine xi_ift (pc' := 35) kc_16_27 rfl (xc_ne_t (X := a14.toInt) (Y := 0) rfl (by decide) (by omega)) ?_
                  refine xi_iconst (pc' := 36) (v := 0) kc_16_35 rfl rfl ?_
                  refine xi_cmt (pc' := 46) kc_16_36 rfl (xc_ge_t (X := a16.toInt) (Y := 0) rfl (by decide) (by omega)) ?_
                  refine xi_iload_n (pc' := 47) (x := a12) kc_16_46 rfl rfl ?_
                  refine xi_sipush (pc' := 50) (v := 599) kc_16_47 rfl rfl ?_
                  refine xi_cmf (pc' := 53) kc_16_50 rfl (xc_gt_f (X := a12.toInt) (Y := 599) rfl (by decide) (by omega)) ?_
                  refine xi_iload_n (pc' := 54) (x := a16) kc_16_53 rfl rfl ?_
                  refine xi_iload_n (pc' := 55) (x := a14) kc_16_54 rfl rfl ?_
                  refine xi_ift (pc' := 63) kc_16_55 rfl (xc_ne_t (X := a14.toInt) (Y := 0) rfl (by decide) (by omega)) ?_
                  refine xi_bipush (pc' := 65) (v := 20) kc_16_63 rfl rfl ?_
                  refine xi_cmf (pc' := 68) kc_16_65 rfl (xc_le_f (X := a16.toInt) (Y := 20) rfl (by decide) (by omega)) ?_
                  refine xi_iload_n (pc' := 69) (x := a16) kc_16_68 rfl rfl ?_
                  refine xi_bipush (pc' := 71) (v := 99) kc_16_69 rfl rfl ?_
                  refine xi_cmt (pc' := 81) kc_16_71 rfl (xc_eq_t (X := a16.toInt) (Y := 99) rfl (by decide) (by omega)) ?_
                  refine xi_iload_n (pc' := 82) (x := a14) kc_16_81 rfl rfl ?_
                  refine xi_ift (pc' := 94) kc_16_82 rfl (xc_ne_t (X := a14.toInt) (Y := 0) rfl (by decide) (by omega)) ?_
                  refine xi_aload_n (pc' := 95) (x := 115) kc_16_94 rfl rfl ?_
                  refine xi_getfield (pc' := 98) (v := .ref 124) kc_16_95 rfl rfl rfl eh585.1 rfl ?_
                  refine xi_iload_n (pc' := 99) (x := a12) kc_16_98 rfl rfl ?_
                  have A588 := ((eh585.2.1 124 (by decide)).trans ((eh567.2.1 124 (by decide)).trans ((eh562.2.1 124 (by decide)).trans ((eh550.2.1 124 (by decide)).trans A4))))
                  refine xi_iaload (pc' := 100) (v := v561) kc_16_99 rfl A588 (by decide) rfl (xi_in (by omega) (by rw [hy4]; omega)) (xE_ld H10 (by first | omega | decide) (by first | omega | decide) (by omega) ev561) ?_
                  refine xi_istore (pc' := 102) (lv' := [(4, .int v561), (0, .ref 115), (1, .int a12), (2, .int a14), (3, .int a16)]) kc_16_100 rfl rfl (xm_lt ml_16 rfl) ?_
                  refine xi_aload_n (pc' := 103) (x := 115) kc_16_102 rfl rfl ?_
                  refine xi_getfield (pc' := 106) (v := .ref 123) kc_16_103 rfl rfl rfl eh585.1 rfl ?_
                  refine xi_iload_n (pc' := 107) (x := a12) kc_16_106 rfl rfl ?_
                  refine xi_iload_n (pc' := 108) (x := a14) kc_16_107 rfl rfl ?_
                  refine xi_ift (pc' := 115) kc_16_108 rfl (xc_ne_t (X := a14.toInt) (Y := 0) rfl (by decide) (by omega)) ?_
                  refine xi_aload_n (pc' := 116) (x := 115) kc_16_115 rfl rfl ?_
                  refine xi_getfield (pc' := 119) (v := .ref 123) kc_16_116 rfl rfl rfl eh585.1 rfl ?_
                  refine xi_iload_n (pc' := 120) (x := a12) kc_16_119 rfl rfl ?_
                  obtain ⟨v589, ev589, bv589, dv589⟩ := xj_get hy2 ry2 (i := a12) (by omega) (by omega)
                  have A590 := ((eh585.2.1 123 (by decide)).trans ((eh567.2.1 123 (by decide)).trans ((eh562.2.1 123 (by decide)).trans ((eh550.2.1 123 (by decide)).trans A2))))
                  refine xi_iaload (pc' := 121) (v := v589) kc_16_120 rfl A590 (by decide) rfl (xi_in (by omega) (by rw [hy2]; omega)) ev589 ?_
                  obtain ⟨y591, s591, hy591, ry591⟩ := xj_set (v := v589) hy2 ry2 a12 (by first | omega | decide) (by first | omega | decide)
                  refine xi_iastore (pc' := 122) (x' := y591) kc_16_121 rfl A590 rfl (xi_in (by omega) (by rw [hy2]; omega)) s591 (fun hh591 eh591 => ?_)
                  have K592 := xk_pa K587 (xk_wa (by decide +kernel)) xD_123 hy591 ry591 eh591
                  refine xi_aload_n (pc' := 123) (x := 115) kc_16_122 rfl rfl ?_
                  have A593 := ((eh591.2.1 115 (by decide)).trans eh585.1)
                  refine xi_getfield (pc' := 126) (v := .ref 124) kc_16_123 rfl rfl rfl A593 rfl ?_
                  refine xi_iload_n (pc' := 127) (x := a12) kc_16_126 rfl rfl ?_
                  refine xi_iload_n (pc' := 128) (x := a14) kc_16_127 rfl rfl ?_
                  refine xi_iconst (pc' := 129) (v := 1) kc_16_128 rfl rfl ?_
                  refine xi_cmf (pc' := 132) kc_16_129 rfl (xc_ne_f (X := a14.toInt) (Y := 1) rfl (by decide) (by omega)) ?_
                  refine xi_iload_n (pc' := 133) (x := a16) kc_16_132 rfl rfl ?_
                  refine xi_goto (pc' := 142) kc_16_133 rfl ?_
                  have A594 := ((eh591.2.1 124 (by decide)).trans A588)
                  obtain ⟨y595, s595, hy595, ry595⟩ := xj_set (v := a16) hy4 ry4 a12 (by first | omega | decide) (by first | omega | decide)
                  refine xi_iastore (pc' := 143) (x' := y595) kc_16_142 rfl A594 rfl (xi_in (by omega) (by rw [hy4]; omega)) s595 (fun hh595 eh595 => ?_)
                  have K596 := xk_pa K592 (xk_wa (by decide +kernel)) xD_124 hy595 ry595 eh595
                  refine xi_aload_n (pc' := 144) (x := 115) kc_16_143 rfl rfl ?_
                  refine xi_iconst (pc' := 145) (v := 0) kc_16_144 rfl rfl ?_
                  have A597 := ((eh595.2.1 115 (by decide)).trans A593)
                  refine xi_putfield (pc' := 148) (fs' := [.int 0, .int u571, .ref 116, .ref 117, .ref 118, .ref 119, .ref 120, .ref 121, .ref 122, .ref 123, .ref 124, .ref 125, .ref 126, .ref 127, .ref 128, .ref 129, .int u572, .ref 130, .int u573, .ref 131, .ref 132, .ref 133, .ref 134, .int u574, .ref 135, .ref 136, .ref 137, .ref 138, .ref 139, .ref 140, .ref 141, .ref 142, .int u575, .int u576, .int u577, .ref 143, .ref 144, .ref 145, .ref 146, .ref 147, .ref 148, .int 0, .ref 149, .ref 150, .ref 151, .int u579, .ref 152, .ref 153, .ref 154, .ref 155, .ref 156, .ref 157, .ref 158, .ref 159, .int u580, .ref 160, .int u581, .ref 161, .ref 162, .ref 163, .ref 164, .int u582, .ref 165, .ref 166]) kc_16_145 rfl rfl rfl A597 rfl rfl rfl (Nat.le_of_ble_eq_true rfl) rfl (fun hh599 eh598 => ?_)
                  have K600 := xk_pf (k := 41) (v := 0) K596 (xk_wf (by decide +kernel)) xD_115 A597 rfl (by first | omega | decide) (by first | omega | decide) eh598 rfl
                  refine xi_iload (pc' := 150) (x := v561) kc_16_148 rfl rfl ?_
                  refine xi_ireturn kc_16_150 mr_16 rfl ?_
                  show xw J ov 100 195 (335, [(4, .int x4), (3, .ref 167), (2, .ref 115), (1, .ref 0), (0, .ref 1000000)], [.int v561], hh599) _
                  refine xi_pop (pc' := 336) kc_195_335 rfl rfl ?_
                  refine xi_goto (pc' := 1501) kc_195_336 rfl ?_
                  obtain ⟨v601, ev601⟩ : ∃ q : Int32, x4 + 6 = q := ⟨_, rfl⟩
                  have zv601 : v601.toInt = (x4.toInt + 6) := by rw [← ev601]; exact (xz_add (X := x4.toInt) (Y := 6) rfl (by decide) (by omega) (by omega)).trans (by omega)
                  refine xi_iinc (pc' := 1504) (x := x4) (v := v601) (lv' := [(4, .int v601), (3, .ref 167), (2, .ref 115), (1, .ref 0), (0, .ref 1000000)]) kc_195_1501 rfl rfl ev601 rfl (xm_lt ml_195 rfl) ?_
                  refine xi_goto (pc' := 23) kc_195_1504 rfl ?_
                  have A602 := ((eh598.2.1 6 (by decide)).trans ((eh595.2.1 6 (by decide)).trans ((eh591.2.1 6 (by decide)).trans ((eh585.2.1 6 (by decide)).trans ((eh567.2.1 6 (by decide)).trans ((eh562.2.1 6 (by decide)).trans ((eh550.2.1 6 (by decide)).trans A1)))))))
                  have A603 := ((eh598.2.1 123 (by decide)).trans ((eh595.2.1 123 (by decide)).trans eh591.1))
                  have A604 := ((eh598.2.1 9 (by decide)).trans ((eh595.2.1 9 (by decide)).trans ((eh591.2.1 9 (by decide)).trans ((eh585.2.1 9 (by decide)).trans ((eh567.2.1 9 (by decide)).trans eh562.1)))))
                  have A605 := ((eh598.2.1 124 (by decide)).trans eh595.1)
                  have A606 := ((eh598.2.1 7 (by decide)).trans ((eh595.2.1 7 (by decide)).trans ((eh591.2.1 7 (by decide)).trans ((eh585.2.1 7 (by decide)).trans ((eh567.2.1 7 (by decide)).trans ((eh562.2.1 7 (by decide)).trans ((eh550.2.1 7 (by decide)).trans A5)))))))
                  have A607 := ((eh598.2.1 10 (by decide)).trans ((eh595.2.1 10 (by decide)).trans ((eh591.2.1 10 (by decide)).trans ((eh585.2.1 10 (by decide)).trans eh567.1))))
                  have A608 := ((eh598.2.1 5 (by decide)).trans ((eh595.2.1 5 (by decide)).trans ((eh591.2.1 5 (by decide)).trans ((eh585.2.1 5 (by decide)).trans ((eh567.2.1 5 (by decide)).trans ((eh562.2.1 5 (by decide)).trans ((eh550.2.1 5 (by decide)).trans A8)))))))
                  have A609 := ((eh598.2.1 8 (by decide)).trans ((eh595.2.1 8 (by decide)).trans ((eh591.2.1 8 (by decide)).trans ((eh585.2.1 8 (by decide)).trans ((eh567.2.1 8 (by decide)).trans A565)))))
                  exact kk v601 hh599 (by omega) K600 ⟨((K600.2.1 (0, 9) (by decide +kernel)).trans (I.1.trans (K600.2.1 (115, 1) (by decide +kernel)).symm)), (xWW_fr I.2.1 (K600.2.1 (64, 0) (by decide +kernel)) (K600.2.1 (121, 0) (by decide +kernel))), (xSG_fr I.2.2.1 (fun l hl => K600.2.1 l (xk_el (by decide +kernel) hl))), (by rw [(K600.2.1 (13, 0) (by decide +kernel)), (K600.2.1 (122, 0) (by decide +kernel))]; exact I.2.2.2.1), (by rw [(K600.2.1 (16, 0) (by decide +kernel)), (K600.2.1 (122, 0) (by decide +kernel))]; exact I.2.2.2.2.1), (by rw [(K600.2.1 (19, 0) (by decide +kernel)), (K600.2.1 (122, 0) (by decide +kernel))]; exact I.2.2.2.2.2.1), (by rw [(K600.2.1 (22, 0) (by decide +kernel)), (K600.2.1 (122, 0) (by decide +kernel))]; exact I.2.2.2.2.2.2.1), (by rw [(K600.2.1 (25, 0) (by decide +kernel)), (K600.2.1 (122, 0) (by decide +kernel))]; exact I.2.2.2.2.2.2.2.1), (by rw [(K600.2.1 (28, 0) (by decide +kernel)), (K600.2.1 (122, 0) (by decide +kernel))]; exact I.2.2.2.2.2.2.2.2.1), (xE_mk A602 A603 (xE_id H9 ev589 s591)), (xE_mk A604 A605 (xE_set H10 (by first | omega | decide) (by omega) (by omega) (by omega) s562 s595)), (xL_mk A606 A602 H11), (xL_mk A607 A604 HL567), (xl_of A608 rfl), (xl_of A609 rfl), (xGR_fr I.2.2.2.2.2.2.2.2.2.2.2.2.2.2.2.1 K600.2.1 (by decide +kernel) (by decide +kernel)), (xGR_fr I.2.2.2.2.2.2.2.2.2.2.2.2.2.2.2.2.1 K600.2.1 (by decide +kernel) (by decide +kernel)), ((K600.2.1 (1, 5) (by decide +kernel)).trans (I.2.2.2.2.2.2.2.2.2.2.2.2.2.2.2.2.2.1.trans (K600.2.1 (115, 23) (by decide +kernel)).symm)), (xGR_fr I.2.2.2.2.2.2.2.2.2.2.2.2.2.2.2.2.2.2.1 K600.2.1 (by decide +kernel) (by decide +kernel)), (xGR_fr I.2.2.2.2.2.2.2.2.2.2.2.2.2.2.2.2.2.2.2.1 K600.2.1 (by decide +kernel) (by decide +kernel)), (xGR_fr I.2.2.2.2.2.2.2.2.2.2.2.2.2.2.2.2.2.2.2.2.1 K600.2.1 (by decide +kernel) (by decide +kernel)), (xGR_fr I.2.2.2.2.2.2.2.2.2.2.2.2.2.2.2.2.2.2.2.2.2.1 K600.2.1 (by decide +kernel) (by decide +kernel)), (by rw [(K600.2.1 (63, 2) (by decide +kernel)), (K600.2.1 (139, 0) (by decide +kernel)), (K600.2.1 (1, 5) (by decide +kernel))]; exact I.2.2.2.2.2.2.2.2.2.2.2.2.2.2.2.2.2.2.2.2.2.2.1), ((K600.2.1 (0, 8) (by decide +kernel)).trans (I.2.2.2.2.2.2.2.2.2.2.2.2.2.2.2.2.2.2.2.2.2.2.2.1.trans (K600.2.1 (115, 34) (by decide +kernel)).symm)), (xGR_fr I.2.2.2.2.2.2.2.2.2.2.2.2.2.2.2.2.2.2.2.2.2.2.2.2.1 K600.2.1 (by decide +kernel) (by decide +kernel)), (xGR_fr I.2.2.2.2.2.2.2.2.2.2.2.2.2.2.2.2.2.2.2.2.2.2.2.2.2.1 K600.2.1 (by decide +kernel) (by decide +kernel)), (xGR_fr I.2.2.2.2.2.2.2.2.2.2.2.2.2.2.2.2.2.2.2.2.2.2.2.2.2.2.1 K600.2.1 (by decide +kernel) (by decide +kernel)), (xGR_fr I.2.2.2.2.2.2.2.2.2.2.2.2.2.2.2.2.2.2.2.2.2.2.2.2.2.2.2.1 K600.2.1 (by decide +kernel) (by decide +kernel)), (xts_fr I.2.2.2.2.2.2.2.2.2.2.2.2.2.2.2.2.2.2.2.2.2.2.2.2.2.2.2.2.1 (fun l hl => K600.2.1 l (xk_el (by decide +kernel) hl))), ((K600.2.1 (63, 3) (by decide +kernel)).trans I.2.2.2.2.2.2.2.2.2.2.2.2.2.2.2.2.2.2.2.2.2.2.2.2.2.2.2.2.2)⟩
                · refine xi_iff (pc' := 4) kc_99_1 rfl (xc_lt_f (X := (a12.toInt + (-1))) (Y := 0) zv564 (by decide) (by omega)) ?_
                  refine xi_iload_n (pc' := 5) (x := v564) kc_99_4 rfl rfl ?_
                  refine xi_aload_n (pc' := 6) (x := 8) kc_99_5 rfl rfl ?_
                  refine xi_getfield (pc' := 9) (v := .ref 10) kc_99_6 rfl rfl rfl A565 rfl ?_
                  have A610 := ((eh562.2.1 10 (by decide)).trans ((eh550.2.1 10 (by decide)).trans A6))
                  refine xi_arraylength (pc' := 10) (n := 601) (v := 601) kc_99_9 rfl (xl_lenI (by decide) (by decide) A610 hy6) rfl ?_
                  refine xi_cmt (pc' := 20) kc_99_10 rfl (xc_lt_t (X := (a12.toInt + (-1))) (Y := 601) zv564 (by decide) (by omega)) ?_
                  refine xi_aload_n (pc' := 21) (x := 8) kc_99_20 rfl rfl ?_
                  refine xi_getfield (pc' := 24) (v := .ref 10) kc_99_21 rfl rfl rfl A565 rfl ?_
                  refine xi_iload_n (pc' := 25) (x := v564) kc_99_24 rfl rfl ?_
                  obtain ⟨v611, ev611, bv611, dv611⟩ := xj_get hy6 ry6 (i := v564) (by rw [zv564]; omega) (by rw [zv564]; omega)
                  refine xi_iaload (pc' := 26) (v := v611) kc_99_25 rfl A610 (by decide) rfl (xi_in (by rw [zv564]; omega) (by rw [hy6]; rw [zv564]; omega)) ev611 ?_
                  refine xi_ireturn kc_99_26 mr_99 rfl ?_
                  show xw J ov 98 98 (37, [(3, .int v561), (0, .ref 8), (1, .int a12), (2, .int a16)], [.int v611], hh562) _
                  refine xi_istore (pc' := 39) (lv' := [(4, .int v611), (3, .int v561), (0, .ref 8), (1, .int a12), (2, .int a16)]) kc_98_37 rfl rfl (xm_lt ml_98 rfl) ?_
                  refine xi_iload_n (pc' := 40) (x := a12) kc_98_39 rfl rfl ?_
                  refine xi_istore (pc' := 42) (lv' := [(5, .int a12), (4, .int v611), (3, .int v561), (0, .ref 8), (1, .int a12), (2, .int a16)]) kc_98_40 rfl rfl (xm_lt ml_98 rfl) ?_
                  refine xw_lv (b := [(0, .ref 8), (3, .int v561), (4, .int v611), (5, .int a12)]) (lvS_cons (lvS_cons (lvS_cons (lvS_cons (lvS_nil (show ([5, 4, 3, 0, 1, 2] : List Nat).Nodup by decide)) rfl) rfl) rfl) rfl) ?_
                  refine xw_tell (o := 8) (t := 9) (c := 10) (hb := hh562) (f := 0) (was := v561) (by decide) (by decide) (by decide) A565 rfl rfl eh562.1 hy562 (fun z9612 hh612 hz612 HL612 eh612 => ?_) 602 a12 v611 y6 hh562 (by omega) (by omega) (by omega) hy6 (xL_la (w := v564) H12 (by omega) (by omega) (by omega) (by omega) s562 ev611) (xL_pre H12 (by omega) (by omega) s562) (xh_rf A610)
                  have ry612 : ∀ i, i < 601 → (-2147483648) ≤ (z9612.getD i 0).toInt ∧ (z9612.getD i 0).toInt ≤ 2147483647 := fun i _ => ⟨(xc_rng _).1, by have := (xc_rng (z9612.getD i 0)).2; omega⟩
                  have K613 := xk_pa K563 (xk_wa (by decide +kernel)) xD_10 hz612 ry612 eh612
                  show xw J ov 99 95 (104, [(5, .int 20), (4, .int 0), (0, .ref 0), (1, .int a12), (2, .int a14), (3, .int a16)], [.int v561], hh612) _
                  refine xi_ireturn kc_95_104 mr_95 rfl ?_
                  show xw J ov 100 195 (312, [(4, .int x4), (3, .ref 167), (2, .ref 115), (1, .ref 0), (0, .ref 1000000)], [.int v561], hh612) _
                  refine xi_pop (pc' := 313) kc_195_312 rfl rfl ?_
                  refine xi_aload_n (pc' := 314) (x := 115) kc_195_313 rfl rfl ?_
                  refine xi_aload_n (pc' := 315) (x := 1000000) kc_195_314 rfl rfl ?_
                  refine xi_iload (pc' := 317) (x := x4) kc_195_315 rfl rfl ?_
                  refine xi_iconst (pc' := 318) (v := 1) kc_195_317 rfl rfl ?_
                  refine xi_iadd (pc' := 319) (v := v11) kc_195_318 rfl ev11 ?_
                  refine xi_ialoadO (pc' := 320) (v := a12) kc_195_319 rfl (by decide) hov0 (xi_in (by omega) (by omega)) ea12 ?_
                  refine xi_aload_n (pc' := 321) (x := 1000000) kc_195_320 rfl rfl ?_
                  refine xi_iload (pc' := 323) (x := x4) kc_195_321 rfl rfl ?_
                  refine xi_iconst (pc' := 324) (v := 2) kc_195_323 rfl rfl ?_
                  refine xi_iadd (pc' := 325) (v := v13) kc_195_324 rfl ev13 ?_
                  refine xi_ialoadO (pc' := 326) (v := a14) kc_195_325 rfl (by decide) hov0 (xi_in (by omega) (by omega)) ea14 ?_
                  refine xi_aload_n (pc' := 327) (x := 1000000) kc_195_326 rfl rfl ?_
                  refine xi_iload (pc' := 329) (x := x4) kc_195_327 rfl rfl ?_
                  refine xi_iconst (pc' := 330) (v := 3) kc_195_329 rfl rfl ?_
                  refine xi_iadd (pc' := 331) (v := v15) kc_195_330 rfl ev15 ?_
                  refine xi_ialoadO (pc' := 332) (v := a16) kc_195_331 rfl (by decide) hov0 (xi_in (by omega) (by omega)) ea16 ?_
                  obtain ⟨u614, u615, u616, u617, u618, u619, u620, u621, u622, u623, u624, u625, u626, bu614, bu615, bu616, bu617, bu618, bu619, bu620, bu621, bu622, bu623, bu624, bu625, bu626, A627⟩ := xq_115 K.1
                  have A628 := ((eh612.2.1 115 (by decide)).trans ((eh562.2.1 115 (by decide)).trans ((eh550.2.1 115 (by decide)).trans A627)))
                  refine xi_virtual (mj := 16) (as := [.int a12, .int a14, .int a16]) (st1 := []) (lv0 := [(0, .ref 115), (1, .int a12), (2, .int a14), (3, .int a16)]) kc_195_332 rfl rfl rfl rfl rfl A628 (Nat.le_of_ble_eq_true rfl) (hJ _ _ _ _ (by decide)) (xm_le ml_16 rfl) rfl ?_
                  refine xi_aload_n (pc' := 1) (x := 115) kc_16_0 rfl rfl ?_
                  refine xi_iconst (pc' := 2) (v := 0) kc_16_1 rfl rfl ?_
                  refine xi_putfield (pc' := 5) (fs' := [.int 0, .int u615, .ref 116, .ref 117, .ref 118, .ref 119, .ref 120, .ref 121, .ref 122, .ref 123, .ref 124, .ref 125, .ref 126, .ref 127, .ref 128, .ref 129, .int u616, .ref 130, .int u617, .ref 131, .ref 132, .ref 133, .ref 134, .int u618, .ref 135, .ref 136, .ref 137, .ref 138, .ref 139, .ref 140, .ref 141, .ref 142, .int u619, .int u620, .int u621, .ref 143, .ref 144, .ref 145, .ref 146, .ref 147, .ref 148, .int u622, .ref 149, .ref 150, .ref 151, .int u623, .ref 152, .ref 153, .ref 154, .ref 155, .ref 156, .ref 157, .ref 158, .ref 159, .int u624, .ref 160, .int u625, .ref 161, .ref 162, .ref 163, .ref 164, .int u626, .ref 165, .ref 166]) kc_16_2 rfl rfl rfl A628 rfl rfl rfl (Nat.le_of_ble_eq_true rfl) rfl (fun hh630 eh629 => ?_)
                  have K631 := xk_pf (k := 0) (v := 0) K613 (xk_wf (by decide +kernel)) xD_115 A628 rfl (by first | omega | decide) (by first | omega | decide) eh629 rfl
                  refine xi_iload_n (pc' := 6) (x := a14) kc_16_5 rfl rfl ?_
                  refine xi_iconst (pc' := 7) (v := 0) kc_16_6 rfl rfl ?_
                  refine xi_iconst (pc' := 8) (v := 1) kc_16_7 rfl rfl ?_
                  refine xi_static (mj := 11) (as := [.int a14, .int 0, .int 1]) (st1 := []) (lv0 := [(0, .int a14), (1, .int 0), (2, .int 1)]) kc_16_8 rfl rfl (Nat.le_of_ble_eq_true rfl) rfl rfl (Nat.le_of_ble_eq_true rfl) (hJ _ _ _ _ (by decide)) (xm_le ml_11 rfl) rfl ?_
                  refine xi_iload_n (pc' := 1) (x := a14) kc_11_0 rfl rfl ?_
                  refine xi_iload_n (pc' := 2) (x := 0) kc_11_1 rfl rfl ?_
                  refine xi_cmf (pc' := 5) kc_11_2 rfl (xc_lt_f (X := a14.toInt) (Y := 0) rfl (by decide) (by omega)) ?_
                  refine xi_iload_n (pc' := 6) (x := a14) kc_11_5 rfl rfl ?_
                  refine xi_iload_n (pc' := 7) (x := 1) kc_11_6 rfl rfl ?_
                  refine xi_cmf (pc' := 10) kc_11_7 rfl (xc_gt_f (X := a14.toInt) (Y := 1) rfl (by decide) (by omega)) ?_
                  refine xi_iconst (pc' := 11) (v := 1) kc_11_10 rfl rfl ?_
                  refine xi_goto (pc' := 15) kc_11_11 rfl ?_
                  refine xi_ireturn kc_11_15 mr_11 rfl ?_
                  show xw J ov 99 16 (11, [(0, .ref 115), (1, .int a12), (2, .int a14), (3, .int a16)], [.int 1], hh630) _
                  refine xi_ift (pc' := 21) kc_16_11 rfl rfl ?_
                  refine xi_iload_n (pc' := 22) (x := a12) kc_16_21 rfl rfl ?_
                  refine xi_iff (pc' := 25) kc_16_22 rfl (xc_lt_f (X := a12.toInt) (Y := 0) rfl (by decide) (by omega)) ?_
                  refine xi_iload_n (pc' := 26) (x := a16) kc_16_25 rfl rfl ?_
                  refine xi_iload_n (pc' := 27) (x := a14) kc_16_26 rfl rfl ?_
                  refine xi_ift (pc' := 35) kc_16_27 rfl (xc_ne_t (X := a14.toInt) (Y := 0) rfl (by decide) (by omega)) ?_
                  refine xi_iconst (pc' := 36) (v := 0) kc_16_35 rfl rfl ?_
                  refine xi_cmt (pc' := 46) kc_16_36 rfl (xc_ge_t (X := a16.toInt) (Y := 0) rfl (by decide) (by omega)) ?_
                  refine xi_iload_n (pc' := 47) (x := a12) kc_16_46 rfl rfl ?_
                  refine xi_sipush (pc' := 50) (v := 599) kc_16_47 rfl rfl ?_
                  refine xi_cmf (pc' := 53) kc_16_50 rfl (xc_gt_f (X := a12.toInt) (Y := 599) rfl (by decide) (by omega)) ?_
                  refine xi_iload_n (pc' := 54) (x := a16) kc_16_53 rfl rfl ?_
                  refine xi_iload_n (pc' := 55) (x := a14) kc_16_54 rfl rfl ?_
                  refine xi_ift (pc' := 63) kc_16_55 rfl (xc_ne_t (X := a14.toInt) (Y := 0) rfl (by decide) (by omega)) ?_
                  refine xi_bipush (pc' := 65) (v := 20) kc_16_63 rfl rfl ?_
                  refine xi_cmf (pc' := 68) kc_16_65 rfl (xc_le_f (X := a16.toInt) (Y := 20) rfl (by decide) (by omega)) ?_
                  refine xi_iload_n (pc' := 69) (x := a16) kc_16_68 rfl rfl ?_
                  refine xi_bipush (pc' := 71) (v := 99) kc_16_69 rfl rfl ?_
                  refine xi_cmt (pc' := 81) kc_16_71 rfl (xc_eq_t (X := a16.toInt) (Y := 99) rfl (by decide) (by omega)) ?_
                  refine xi_iload_n (pc' := 82) (x := a14) kc_16_81 rfl rfl ?_
                  refine xi_ift (pc' := 94) kc_16_82 rfl (xc_ne_t (X := a14.toInt) (Y := 0) rfl (by decide) (by omega)) ?_
                  refine xi_aload_n (pc' := 95) (x := 115) kc_16_94 rfl rfl ?_
                  refine xi_getfield (pc' := 98) (v := .ref 124) kc_16_95 rfl rfl rfl eh629.1 rfl ?_
                  refine xi_iload_n (pc' := 99) (x := a12) kc_16_98 rfl rfl ?_
                  have A632 := ((eh629.2.1 124 (by decide)).trans ((eh612.2.1 124 (by decide)).trans ((eh562.2.1 124 (by decide)).trans ((eh550.2.1 124 (by decide)).trans A4))))
                  refine xi_iaload (pc' := 100) (v := v561) kc_16_99 rfl A632 (by decide) rfl (xi_in (by omega) (by rw [hy4]; omega)) (xE_ld H10 (by first | omega | decide) (by first | omega | decide) (by omega) ev561) ?_
                  refine xi_istore (pc' := 102) (lv' := [(4, .int v561), (0, .ref 115), (1, .int a12), (2, .int a14), (3, .int a16)]) kc_16_100 rfl rfl (xm_lt ml_16 rfl) ?_
                  refine xi_aload_n (pc' := 103) (x := 115) kc_16_102 rfl rfl ?_
                  refine xi_getfield (pc' := 106) (v := .ref 123) kc_16_103 rfl rfl rfl eh629.1 rfl ?_
                  refine xi_iload_n (pc' := 107) (x := a12) kc_16_106 rfl rfl ?_
                  refine xi_iload_n (pc' := 108) (x := a14) kc_16_107 rfl rfl ?_
                  refine xi_ift (pc' := 115) kc_16_108 rfl (xc_ne_t (X := a14.toInt) (Y := 0) rfl (by decide) (by omega)) ?_
                  refine xi_aload_n (pc' := 116) (x := 115) kc_16_115 rfl rfl ?_
                  refine xi_getfield (pc' := 119) (v := .ref 123) kc_16_116 rfl rfl rfl eh629.1 rfl ?_
                  refine xi_iload_n (pc' := 120) (x := a12) kc_16_119 rfl rfl ?_
                  obtain ⟨v633, ev633, bv633, dv633⟩ := xj_get hy2 ry2 (i := a12) (by omega) (by omega)
                  have A634 := ((eh629.2.1 123 (by decide)).trans ((eh612.2.1 123 (by decide)).trans ((eh562.2.1 123 (by decide)).trans ((eh550.2.1 123 (by decide)).trans A2))))
                  refine xi_iaload (pc' := 121) (v := v633) kc_16_120 rfl A634 (by decide) rfl (xi_in (by omega) (by rw [hy2]; omega)) ev633 ?_
                  obtain ⟨y635, s635, hy635, ry635⟩ := xj_set (v := v633) hy2 ry2 a12 (by first | omega | decide) (by first | omega | decide)
                  refine xi_iastore (pc' := 122) (x' := y635) kc_16_121 rfl A634 rfl (xi_in (by omega) (by rw [hy2]; omega)) s635 (fun hh635 eh635 => ?_)
                  have K636 := xk_pa K631 (xk_wa (by decide +kernel)) xD_123 hy635 ry635 eh635
                  refine xi_aload_n (pc' := 123) (x := 115) kc_16_122 rfl rfl ?_
                  have A637 := ((eh635.2.1 115 (by decide)).trans eh629.1)
                  refine xi_getfield (pc' := 126) (v := .ref 124) kc_16_123 rfl rfl rfl A637 rfl ?_
                  refine xi_iload_n (pc' := 127) (x := a12) kc_16_126 rfl rfl ?_
                  refine xi_iload_n (pc' := 128) (x := a14) kc_16_127 rfl rfl ?_
                  refine xi_iconst (pc' := 129) (v := 1) kc_16_128 rfl rfl ?_
                  refine xi_cmf (pc' := 132) kc_16_129 rfl (xc_ne_f (X := a14.toInt) (Y := 1) rfl (by decide) (by omega)) ?_
                  refine xi_iload_n (pc' := 133) (x := a16) kc_16_132 rfl rfl ?_
                  refine xi_goto (pc' := 142) kc_16_133 rfl ?_
                  have A638 := ((eh635.2.1 124 (by decide)).trans A632)
                  obtain ⟨y639, s639, hy639, ry639⟩ := xj_set (v := a16) hy4 ry4 a12 (by first | omega | decide) (by first | omega | decide)
                  refine xi_iastore (pc' := 143) (x' := y639) kc_16_142 rfl A638 rfl (xi_in (by omega) (by rw [hy4]; omega)) s639 (fun hh639 eh639 => ?_)
                  have K640 := xk_pa K636 (xk_wa (by decide +kernel)) xD_124 hy639 ry639 eh639
                  refine xi_aload_n (pc' := 144) (x := 115) kc_16_143 rfl rfl ?_
                  refine xi_iconst (pc' := 145) (v := 0) kc_16_144 rfl rfl ?_
                  have A641 := ((eh639.2.1 115 (by decide)).trans A637)
                  refine xi_putfield (pc' := 148) (fs' := [.int 0, .int u615, .ref 116, .ref 117, .ref 118, .ref 119, .ref 120, .ref 121, .ref 122, .ref 123, .ref 124, .ref 125, .ref 126, .ref 127, .ref 128, .ref 129, .int u616, .ref 130, .int u617, .ref 131, .ref 132, .ref 133, .ref 134, .int u618, .ref 135, .ref 136, .ref 137, .ref 138, .ref 139, .ref 140, .ref 141, .ref 142, .int u619, .int u620, .int u621, .ref 143, .ref 144, .ref 145, .ref 146, .ref 147, .ref 148, .int 0, .ref 149, .ref 150, .ref 151, .int u623, .ref 152, .ref 153, .ref 154, .ref 155, .ref 156, .ref 157, .ref 158, .ref 159, .int u624, .ref 160, .int u625, .ref 161, .ref 162, .ref 163, .ref 164, .int u626, .ref 165, .ref 166]) kc_16_145 rfl rfl rfl A641 rfl rfl rfl (Nat.le_of_ble_eq_true rfl) rfl (fun hh643 eh642 => ?_)
                  have K644 := xk_pf (k := 41) (v := 0) K640 (xk_wf (by decide +kernel)) xD_115 A641 rfl (by first | omega | decide) (by first | omega | decide) eh642 rfl
                  refine xi_iload (pc' := 150) (x := v561) kc_16_148 rfl rfl ?_
                  refine xi_ireturn kc_16_150 mr_16 rfl ?_
                  show xw J ov 100 195 (335, [(4, .int x4), (3, .ref 167), (2, .ref 115), (1, .ref 0), (0, .ref 1000000)], [.int v561], hh643) _
                  refine xi_pop (pc' := 336) kc_195_335 rfl rfl ?_
                  refine xi_goto (pc' := 1501) kc_195_336 rfl ?_
                  obtain ⟨v645, ev645⟩ : ∃ q : Int32, x4 + 6 = q := ⟨_, rfl⟩
                  have zv645 : v645.toInt = (x4.toInt + 6) := by rw [← ev645]; exact (xz_add (X := x4.toInt) (Y := 6) rfl (by decide) (by omega) (by omega)).trans (by omega)
                  refine xi_iinc (pc' := 1504) (x := x4) (v := v645) (lv' := [(4, .int v645), (3, .ref 167), (2, .ref 115), (1, .ref 0), (0, .ref 1000000)]) kc_195_1501 rfl rfl ev645 rfl (xm_lt ml_195 rfl) ?_
                  refine xi_goto (pc' := 23) kc_195_1504 rfl ?_
                  have A646 := ((eh642.2.1 6 (by decide)).trans ((eh639.2.1 6 (by decide)).trans ((eh635.2.1 6 (by decide)).trans ((eh629.2.1 6 (by decide)).trans ((eh612.2.1 6 (by decide)).trans ((eh562.2.1 6 (by decide)).trans ((eh550.2.1 6 (by decide)).trans A1)))))))
                  have A647 := ((eh642.2.1 123 (by decide)).trans ((eh639.2.1 123 (by decide)).trans eh635.1))
                  have A648 := ((eh642.2.1 9 (by decide)).trans ((eh639.2.1 9 (by decide)).trans ((eh635.2.1 9 (by decide)).trans ((eh629.2.1 9 (by decide)).trans ((eh612.2.1 9 (by decide)).trans eh562.1)))))
                  have A649 := ((eh642.2.1 124 (by decide)).trans eh639.1)
                  have A650 := ((eh642.2.1 7 (by decide)).trans ((eh639.2.1 7 (by decide)).trans ((eh635.2.1 7 (by decide)).trans ((eh629.2.1 7 (by decide)).trans ((eh612.2.1 7 (by decide)).trans ((eh562.2.1 7 (by decide)).trans ((eh550.2.1 7 (by decide)).trans A5)))))))
                  have A651 := ((eh642.2.1 10 (by decide)).trans ((eh639.2.1 10 (by decide)).trans ((eh635.2.1 10 (by decide)).trans ((eh629.2.1 10 (by decide)).trans eh612.1))))
                  have A652 := ((eh642.2.1 5 (by decide)).trans ((eh639.2.1 5 (by decide)).trans ((eh635.2.1 5 (by decide)).trans ((eh629.2.1 5 (by decide)).trans ((eh612.2.1 5 (by decide)).trans ((eh562.2.1 5 (by decide)).trans ((eh550.2.1 5 (by decide)).trans A8)))))))
                  have A653 := ((eh642.2.1 8 (by decide)).trans ((eh639.2.1 8 (by decide)).trans ((eh635.2.1 8 (by decide)).trans ((eh629.2.1 8 (by decide)).trans ((eh612.2.1 8 (by decide)).trans A565)))))
                  exact kk v645 hh643 (by omega) K644 ⟨((K644.2.1 (0, 9) (by decide +kernel)).trans (I.1.trans (K644.2.1 (115, 1) (by decide +kernel)).symm)), (xWW_fr I.2.1 (K644.2.1 (64, 0) (by decide +kernel)) (K644.2.1 (121, 0) (by decide +kernel))), (xSG_fr I.2.2.1 (fun l hl => K644.2.1 l (xk_el (by decide +kernel) hl))), (by rw [(K644.2.1 (13, 0) (by decide +kernel)), (K644.2.1 (122, 0) (by decide +kernel))]; exact I.2.2.2.1), (by rw [(K644.2.1 (16, 0) (by decide +kernel)), (K644.2.1 (122, 0) (by decide +kernel))]; exact I.2.2.2.2.1), (by rw [(K644.2.1 (19, 0) (by decide +kernel)), (K644.2.1 (122, 0) (by decide +kernel))]; exact I.2.2.2.2.2.1), (by rw [(K644.2.1 (22, 0) (by decide +kernel)), (K644.2.1 (122, 0) (by decide +kernel))]; exact I.2.2.2.2.2.2.1), (by rw [(K644.2.1 (25, 0) (by decide +kernel)), (K644.2.1 (122, 0) (by decide +kernel))]; exact I.2.2.2.2.2.2.2.1), (by rw [(K644.2.1 (28, 0) (by decide +kernel)), (K644.2.1 (122, 0) (by decide +kernel))]; exact I.2.2.2.2.2.2.2.2.1), (xE_mk A646 A647 (xE_id H9 ev633 s635)), (xE_mk A648 A649 (xE_set H10 (by first | omega | decide) (by omega) (by omega) (by omega) s562 s639)), (xL_mk A650 A646 H11), (xL_mk A651 A648 HL612), (xl_of A652 rfl), (xl_of A653 rfl), (xGR_fr I.2.2.2.2.2.2.2.2.2.2.2.2.2.2.2.1 K644.2.1 (by decide +kernel) (by decide +kernel)), (xGR_fr I.2.2.2.2.2.2.2.2.2.2.2.2.2.2.2.2.1 K644.2.1 (by decide +kernel) (by decide +kernel)), ((K644.2.1 (1, 5) (by decide +kernel)).trans (I.2.2.2.2.2.2.2.2.2.2.2.2.2.2.2.2.2.1.trans (K644.2.1 (115, 23) (by decide +kernel)).symm)), (xGR_fr I.2.2.2.2.2.2.2.2.2.2.2.2.2.2.2.2.2.2.1 K644.2.1 (by decide +kernel) (by decide +kernel)), (xGR_fr I.2.2.2.2.2.2.2.2.2.2.2.2.2.2.2.2.2.2.2.1 K644.2.1 (by decide +kernel) (by decide +kernel)), (xGR_fr I.2.2.2.2.2.2.2.2.2.2.2.2.2.2.2.2.2.2.2.2.1 K644.2.1 (by decide +kernel) (by decide +kernel)), (xGR_fr I.2.2.2.2.2.2.2.2.2.2.2.2.2.2.2.2.2.2.2.2.2.1 K644.2.1 (by decide +kernel) (by decide +kernel)), (by rw [(K644.2.1 (63, 2) (by decide +kernel)), (K644.2.1 (139, 0) (by decide +kernel)), (K644.2.1 (1, 5) (by decide +kernel))]; exact I.2.2.2.2.2.2.2.2.2.2.2.2.2.2.2.2.2.2.2.2.2.2.1), ((K644.2.1 (0, 8) (by decide +kernel)).trans (I.2.2.2.2.2.2.2.2.2.2.2.2.2.2.2.2.2.2.2.2.2.2.2.1.trans (K644.2.1 (115, 34) (by decide +kernel)).symm)), (xGR_fr I.2.2.2.2.2.2.2.2.2.2.2.2.2.2.2.2.2.2.2.2.2.2.2.2.1 K644.2.1 (by decide +kernel) (by decide +kernel)), (xGR_fr I.2.2.2.2.2.2.2.2.2.2.2.2.2.2.2.2.2.2.2.2.2.2.2.2.2.1 K644.2.1 (by decide +kernel) (by decide +kernel)), (xGR_fr I.2.2.2.2.2.2.2.2.2.2.2.2.2.2.2.2.2.2.2.2.2.2.2.2.2.2.1 K644.2.1 (by decide +kernel) (by decide +kernel)), (xGR_fr I.2.2.2.2.2.2.2.2.2.2.2.2.2.2.2.2.2.2.2.2.2.2.2.2.2.2.2.1 K644.2.1 (by decide +kernel) (by decide +kernel)), (xts_fr I.2.2.2.2.2.2.2.2.2.2.2.2.2.2.2.2.2.2.2.2.2.2.2.2.2.2.2.2.1 (fun l hl => K644.2.1 l (xk_el (by decide +kernel) hl))), ((K644.2.1 (63, 3) (by decide +kernel)).trans I.2.2.2.2.2.2.2.2.2.2.2.2.2.2.2.2.2.2.2.2.2.2.2.2.2.2.2.2.2)⟩
              · refine xi_cmf (pc' := 77) kc_95_74 rfl (xc_eq_f (X := a16.toInt) (Y := 99) rfl (by decide) (by omega)) ?_
                refine xi_aload_n (pc' := 78) (x := 0) kc_95_77 rfl rfl ?_
                refine xi_bipush (pc' := 80) (v := (-6)) kc_95_78 rfl rfl ?_
                refine xi_virtual (mj := 96) (as := [.int (-6)]) (st1 := []) (lv0 := [(0, .ref 0), (1, .int (-6))]) kc_95_80 rfl rfl rfl rfl rfl A19 (Nat.le_of_ble_eq_true rfl) (hJ _ _ _ _ (by decide)) (xm_le ml_96 rfl) rfl ?_
                refine xi_ldc_w (pc' := 3) (v := 1000000000) kc_96_0 rfl rfl ?_
                refine xi_aload_n (pc' := 4) (x := 0) kc_96_3 rfl rfl ?_
                refine xi_iload_n (pc' := 5) (x := (-6)) kc_96_4 rfl rfl ?_
                refine xi_virtual (mj := 90) (as := [.int (-6)]) (st1 := [.int 1000000000]) (lv0 := [(0, .ref 0), (1, .int (-6))]) kc_96_5 rfl rfl rfl rfl rfl A19 (Nat.le_of_ble_eq_true rfl) (hJ _ _ _ _ (by decide)) (xm_le ml_90 rfl) rfl ?_
                refine xi_iload_n (pc' := 1) (x := (-6)) kc_90_0 rfl rfl ?_
                refine xi_ineg (pc' := 2) (v := 6) kc_90_1 rfl rfl ?_
                refine xi_istore_n (pc' := 3) (lv' := [(2, .int 6), (0, .ref 0), (1, .int (-6))]) kc_90_2 rfl rfl (xm_lt ml_90 rfl) ?_
                refine xi_iload_n (pc' := 4) (x := 6) kc_90_3 rfl rfl ?_
                refine xi_iff (pc' := 7) kc_90_4 rfl rfl ?_
                refine xi_iload_n (pc' := 8) (x := 6) kc_90_7 rfl rfl ?_
                refine xi_aload_n (pc' := 9) (x := 0) kc_90_8 rfl rfl ?_
                refine xi_getfield (pc' := 12) (v := .ref 94) kc_90_9 rfl rfl rfl A19 rfl ?_
                obtain ⟨y654, A654, hy654, ry654⟩ := xk_arr K.1 xD_94
                refine xi_arraylength (pc' := 13) (n := 7) (v := 7) kc_90_12 rfl (xl_lenI (by decide) (by decide) A654 hy654) rfl ?_
                refine xi_cmf (pc' := 16) kc_90_13 rfl rfl ?_
                refine xi_aload_n (pc' := 17) (x := 0) kc_90_16 rfl rfl ?_
                refine xi_getfield (pc' := 20) (v := .ref 94) kc_90_17 rfl rfl rfl A19 rfl ?_
                refine xi_iload_n (pc' := 21) (x := 6) kc_90_20 rfl rfl ?_
                refine xi_dup2 (pc' := 22) kc_90_21 rfl ⟨rfl, rfl⟩ ?_
                obtain ⟨v655, ev655, bv655, dv655⟩ := xj_get hy654 ry654 (i := 6) (by decide) (by decide)
                refine xi_iaload (pc' := 23) (v := v655) kc_90_22 rfl A654 (by decide) rfl (xi_in (by decide) (by rw [hy654]; decide)) ev655 ?_
                refine xi_iconst (pc' := 24) (v := 1) kc_90_23 rfl rfl ?_
                obtain ⟨v656, ev656⟩ : ∃ q : Int32, (v655 : Int32) + 1 = q := ⟨_, rfl⟩
                have rv656 := xc_rng v656
                refine xi_iadd (pc' := 25) (v := v656) kc_90_24 rfl ev656 ?_
                obtain ⟨y657, s657, hy657, ry657⟩ := xj_set (v := v656) hy654 ry654 6 (by first | omega | decide) (by first | omega | decide)
                refine xi_iastore (pc' := 26) (x' := y657) kc_90_25 rfl A654 rfl (xi_in (by decide) (by rw [hy654]; decide)) s657 (fun hh657 eh657 => ?_)
                have K658 := xk_pa K (xk_wa (by decide +kernel)) xD_94 hy657 ry657 eh657
                have KR659 := xk_pa KR (xk_wa (by decide +kernel)) xD_94 hy657 ry657 eh657
                refine xi_iload_n (pc' := 27) (x := (-6)) kc_90_26 rfl rfl ?_
                refine xi_ireturn kc_90_27 mr_90 rfl ?_
                show xw J ov 98 96 (8, [(0, .ref 0), (1, .int (-6))], [.int (-6), .int 1000000000], hh657) _
                refine xi_isub (pc' := 9) (v := 1000000006) kc_96_8 rfl rfl ?_
                refine xi_ireturn kc_96_9 mr_96 rfl ?_
                show xw J ov 99 95 (83, [(5, .int 20), (4, .int 0), (0, .ref 0), (1, .int a12), (2, .int a14), (3, .int a16)], [.int 1000000006], hh657) _
                refine xi_ireturn kc_95_83 mr_95 rfl ?_
                show xw J ov 100 195 (312, [(4, .int x4), (3, .ref 167), (2, .ref 115), (1, .ref 0), (0, .ref 1000000)], [.int 1000000006], hh657) _
                refine xi_pop (pc' := 313) kc_195_312 rfl rfl ?_
                refine xi_aload_n (pc' := 314) (x := 115) kc_195_313 rfl rfl ?_
                refine xi_aload_n (pc' := 315) (x := 1000000) kc_195_314 rfl rfl ?_
                refine xi_iload (pc' := 317) (x := x4) kc_195_315 rfl rfl ?_
                refine xi_iconst (pc' := 318) (v := 1) kc_195_317 rfl rfl ?_
                refine xi_iadd (pc' := 319) (v := v11) kc_195_318 rfl ev11 ?_
                refine xi_ialoadO (pc' := 320) (v := a12) kc_195_319 rfl (by decide) hov0 (xi_in (by omega) (by omega)) ea12 ?_
                refine xi_aload_n (pc' := 321) (x := 1000000) kc_195_320 rfl rfl ?_
                refine xi_iload (pc' := 323) (x := x4) kc_195_321 rfl rfl ?_
                refine xi_iconst (pc' := 324) (v := 2) kc_195_323 rfl rfl ?_
                refine xi_iadd (pc' := 325) (v := v13) kc_195_324 rfl ev13 ?_
                refine xi_ialoadO (pc' := 326) (v := a14) kc_195_325 rfl (by decide) hov0 (xi_in (by omega) (by omega)) ea14 ?_
                refine xi_aload_n (pc' := 327) (x := 1000000) kc_195_326 rfl rfl ?_
                refine xi_iload (pc' := 329) (x := x4) kc_195_327 rfl rfl ?_
                refine xi_iconst (pc' := 330) (v := 3) kc_195_329 rfl rfl ?_
                refine xi_iadd (pc' := 331) (v := v15) kc_195_330 rfl ev15 ?_
                refine xi_ialoadO (pc' := 332) (v := a16) kc_195_331 rfl (by decide) hov0 (xi_in (by omega) (by omega)) ea16 ?_
                obtain ⟨u660, u661, u662, u663, u664, u665, u666, u667, u668, u669, u670, u671, u672, bu660, bu661, bu662, bu663, bu664, bu665, bu666, bu667, bu668, bu669, bu670, bu671, bu672, A673⟩ := xq_115 K.1
                have A674 := ((eh657.2.1 115 (by decide)).trans A673)
                refine xi_virtual (mj := 16) (as := [.int a12, .int a14, .int a16]) (st1 := []) (lv0 := [(0, .ref 115), (1, .int a12), (2, .int a14), (3, .int a16)]) kc_195_332 rfl rfl rfl rfl rfl A674 (Nat.le_of_ble_eq_true rfl) (hJ _ _ _ _ (by decide)) (xm_le ml_16 rfl) rfl ?_
                refine xi_aload_n (pc' := 1) (x := 115) kc_16_0 rfl rfl ?_
                refine xi_iconst (pc' := 2) (v := 0) kc_16_1 rfl rfl ?_
                refine xi_putfield (pc' := 5) (fs' := [.int 0, .int u661, .ref 116, .ref 117, .ref 118, .ref 119, .ref 120, .ref 121, .ref 122, .ref 123, .ref 124, .ref 125, .ref 126, .ref 127, .ref 128, .ref 129, .int u662, .ref 130, .int u663, .ref 131, .ref 132, .ref 133, .ref 134, .int u664, .ref 135, .ref 136, .ref 137, .ref 138, .ref 139, .ref 140, .ref 141, .ref 142, .int u665, .int u666, .int u667, .ref 143, .ref 144, .ref 145, .ref 146, .ref 147, .ref 148, .int u668, .ref 149, .ref 150, .ref 151, .int u669, .ref 152, .ref 153, .ref 154, .ref 155, .ref 156, .ref 157, .ref 158, .ref 159, .int u670, .ref 160, .int u671, .ref 161, .ref 162, .ref 163, .ref 164, .int u672, .ref 165, .ref 166]) kc_16_2 rfl rfl rfl A674 rfl rfl rfl (Nat.le_of_ble_eq_true rfl) rfl (fun hh676 eh675 => ?_)
                have K677 := xk_pf (k := 0) (v := 0) K658 (xk_wf (by decide +kernel)) xD_115 A674 rfl (by first | omega | decide) (by first | omega | decide) eh675 rfl
                have KR678 := xk_pf (k := 0) (v := 0) KR659 (xk_wf (by decide +kernel)) xD_115 A674 rfl (by first | omega | decide) (by first | omega | decide) eh675 rfl
                refine xi_iload_n (pc' := 6) (x := a14) kc_16_5 rfl rfl ?_
                refine xi_iconst (pc' := 7) (v := 0) kc_16_6 rfl rfl ?_
                refine xi_iconst (pc' := 8) (v := 1) kc_16_7 rfl rfl ?_
                refine xi_static (mj := 11) (as := [.int a14, .int 0, .int 1]) (st1 := []) (lv0 := [(0, .int a14), (1, .int 0), (2, .int 1)]) kc_16_8 rfl rfl (Nat.le_of_ble_eq_true rfl) rfl rfl (Nat.le_of_ble_eq_true rfl) (hJ _ _ _ _ (by decide)) (xm_le ml_11 rfl) rfl ?_
                refine xi_iload_n (pc' := 1) (x := a14) kc_11_0 rfl rfl ?_
                refine xi_iload_n (pc' := 2) (x := 0) kc_11_1 rfl rfl ?_
                refine xi_cmf (pc' := 5) kc_11_2 rfl (xc_lt_f (X := a14.toInt) (Y := 0) rfl (by decide) (by omega)) ?_
                refine xi_iload_n (pc' := 6) (x := a14) kc_11_5 rfl rfl ?_
                refine xi_iload_n (pc' := 7) (x := 1) kc_11_6 rfl rfl ?_
                refine xi_cmf (pc' := 10) kc_11_7 rfl (xc_gt_f (X := a14.toInt) (Y := 1) rfl (by decide) (by omega)) ?_
                refine xi_iconst (pc' := 11) (v := 1) kc_11_10 rfl rfl ?_
                refine xi_goto (pc' := 15) kc_11_11 rfl ?_
                refine xi_ireturn kc_11_15 mr_11 rfl ?_
                show xw J ov 99 16 (11, [(0, .ref 115), (1, .int a12), (2, .int a14), (3, .int a16)], [.int 1], hh676) _
                refine xi_ift (pc' := 21) kc_16_11 rfl rfl ?_
                refine xi_iload_n (pc' := 22) (x := a12) kc_16_21 rfl rfl ?_
                refine xi_iff (pc' := 25) kc_16_22 rfl (xc_lt_f (X := a12.toInt) (Y := 0) rfl (by decide) (by omega)) ?_
                refine xi_iload_n (pc' := 26) (x := a16) kc_16_25 rfl rfl ?_
                refine xi_iload_n (pc' := 27) (x := a14) kc_16_26 rfl rfl ?_
                refine xi_ift (pc' := 35) kc_16_27 rfl (xc_ne_t (X := a14.toInt) (Y := 0) rfl (by decide) (by omega)) ?_
                refine xi_iconst (pc' := 36) (v := 0) kc_16_35 rfl rfl ?_
                refine xi_cmt (pc' := 46) kc_16_36 rfl (xc_ge_t (X := a16.toInt) (Y := 0) rfl (by decide) (by omega)) ?_
                refine xi_iload_n (pc' := 47) (x := a12) kc_16_46 rfl rfl ?_
                refine xi_sipush (pc' := 50) (v := 599) kc_16_47 rfl rfl ?_
                refine xi_cmf (pc' := 53) kc_16_50 rfl (xc_gt_f (X := a12.toInt) (Y := 599) rfl (by decide) (by omega)) ?_
                refine xi_iload_n (pc' := 54) (x := a16) kc_16_53 rfl rfl ?_
                refine xi_iload_n (pc' := 55) (x := a14) kc_16_54 rfl rfl ?_
                refine xi_ift (pc' := 63) kc_16_55 rfl (xc_ne_t (X := a14.toInt) (Y := 0) rfl (by decide) (by omega)) ?_
                refine xi_bipush (pc' := 65) (v := 20) kc_16_63 rfl rfl ?_
                refine xi_cmf (pc' := 68) kc_16_65 rfl (xc_le_f (X := a16.toInt) (Y := 20) rfl (by decide) (by omega)) ?_
                refine xi_iload_n (pc' := 69) (x := a16) kc_16_68 rfl rfl ?_
                refine xi_bipush (pc' := 71) (v := 99) kc_16_69 rfl rfl ?_
                refine xi_cmf (pc' := 74) kc_16_71 rfl (xc_eq_f (X := a16.toInt) (Y := 99) rfl (by decide) (by omega)) ?_
                refine xi_aload_n (pc' := 75) (x := 115) kc_16_74 rfl rfl ?_
                refine xi_bipush (pc' := 77) (v := (-6)) kc_16_75 rfl rfl ?_
                refine xi_virtual (mj := 17) (as := [.int (-6)]) (st1 := []) (lv0 := [(0, .ref 115), (1, .int (-6))]) kc_16_77 rfl rfl rfl rfl rfl eh675.1 (Nat.le_of_ble_eq_true rfl) (hJ _ _ _ _ (by decide)) (xm_le ml_17 rfl) rfl ?_
                refine xi_aload_n (pc' := 1) (x := 115) kc_17_0 rfl rfl ?_
                refine xi_getfield (pc' := 4) (v := .ref 140) kc_17_1 rfl rfl rfl eh675.1 rfl ?_
                refine xi_iload_n (pc' := 5) (x := (-6)) kc_17_4 rfl rfl ?_
                refine xi_ineg (pc' := 6) (v := 6) kc_17_5 rfl rfl ?_
                refine xi_dup2 (pc' := 7) kc_17_6 rfl ⟨rfl, rfl⟩ ?_
                obtain ⟨y679, A679, hy679, ry679⟩ := xk_arr K.1 xD_140
                obtain ⟨v680, ev680, bv680, dv680⟩ := xj_get hy679 ry679 (i := 6) (by decide) (by decide)
                have A681 := ((eh675.2.1 140 (by decide)).trans ((eh657.2.1 140 (by decide)).trans A679))
                refine xi_iaload (pc' := 8) (v := v680) kc_17_7 rfl A681 (by decide) rfl (xi_in (by decide) (by rw [hy679]; decide)) ev680 ?_
                refine xi_iconst (pc' := 9) (v := 1) kc_17_8 rfl rfl ?_
                obtain ⟨v682, ev682⟩ : ∃ q : Int32, (v680 : Int32) + 1 = q := ⟨_, rfl⟩
                have rv682 := xc_rng v682
                refine xi_iadd (pc' := 10) (v := v682) kc_17_9 rfl ev682 ?_
                obtain ⟨y683, s683, hy683, ry683⟩ := xj_set (v := v682) hy679 ry679 6 (by first | omega | decide) (by first | omega | decide)
                refine xi_iastore (pc' := 11) (x' := y683) kc_17_10 rfl A681 rfl (xi_in (by decide) (by rw [hy679]; decide)) s683 (fun hh683 eh683 => ?_)
                have K684 := xk_pa K677 (xk_wa (by decide +kernel)) xD_140 hy683 ry683 eh683
                have KR685 := xk_pa KR678 (xk_wa (by decide +kernel)) xD_140 hy683 ry683 eh683
                refine xi_ldc (pc' := 13) (v := 1000000000) kc_17_11 rfl rfl ?_
                refine xi_iload_n (pc' := 14) (x := (-6)) kc_17_13 rfl rfl ?_
                refine xi_isub (pc' := 15) (v := 1000000006) kc_17_14 rfl rfl ?_
                refine xi_ireturn kc_17_15 mr_17 rfl ?_
                show xw J ov 99 16 (80, [(0, .ref 115), (1, .int a12), (2, .int a14), (3, .int a16)], [.int 1000000006], hh683) _
                refine xi_ireturn kc_16_80 mr_16 rfl ?_
                show xw J ov 100 195 (335, [(4, .int x4), (3, .ref 167), (2, .ref 115), (1, .ref 0), (0, .ref 1000000)], [.int 1000000006], hh683) _
                refine xi_pop (pc' := 336) kc_195_335 rfl rfl ?_
                refine xi_goto (pc' := 1501) kc_195_336 rfl ?_
                obtain ⟨v686, ev686⟩ : ∃ q : Int32, x4 + 6 = q := ⟨_, rfl⟩
                have zv686 : v686.toInt = (x4.toInt + 6) := by rw [← ev686]; exact (xz_add (X := x4.toInt) (Y := 6) rfl (by decide) (by omega) (by omega)).trans (by omega)
                refine xi_iinc (pc' := 1504) (x := x4) (v := v686) (lv' := [(4, .int v686), (3, .ref 167), (2, .ref 115), (1, .ref 0), (0, .ref 1000000)]) kc_195_1501 rfl rfl ev686 rfl (xm_lt ml_195 rfl) ?_
                refine xi_goto (pc' := 23) kc_195_1504 rfl ?_
                exact kk v686 hh683 (by omega) K684 (xI_kept I KR685.2.1)
        · refine xi_cmf (pc' := 51) kc_95_48 rfl (xc_ge_f (X := a16.toInt) (Y := 0) rfl (by decide) (by omega)) ?_
          refine xi_aload_n (pc' := 52) (x := 0) kc_95_51 rfl rfl ?_
          refine xi_bipush (pc' := 54) (v := (-4)) kc_95_52 rfl rfl ?_
          refine xi_virtual (mj := 96) (as := [.int (-4)]) (st1 := []) (lv0 := [(0, .ref 0), (1, .int (-4))]) kc_95_54 rfl rfl rfl rfl rfl A19 (Nat.le_of_ble_eq_true rfl) (hJ _ _ _ _ (by decide)) (xm_le ml_96 rfl) rfl ?_
          refine xi_ldc_w (pc' := 3) (v := 1000000000) kc_96_0 rfl rfl ?_
          refine xi_aload_n (pc' := 4) (x := 0) kc_96_3 rfl rfl ?_
          refine xi_iload_n (pc' := 5) (x := (-4)) kc_96_4 rfl rfl ?_
          refine xi_virtual (mj := 90) (as := [.int (-4)]) (st1 := [.int 1000000000]) (lv0 := [(0, .ref 0), (1, .int (-4))]) kc_96_5 rfl rfl rfl rfl rfl A19 (Nat.le_of_ble_eq_true rfl) (hJ _ _ _ _ (by decide)) (xm_le ml_90 rfl) rfl ?_
          refine xi_iload_n (pc' := 1) (x := (-4)) kc_90_0 rfl rfl ?_
          refine xi_ineg (pc' := 2) (v := 4) kc_90_1 rfl rfl ?_
          refine xi_istore_n (pc' := 3) (lv' := [(2, .int 4), (0, .ref 0), (1, .int (-4))]) kc_90_2 rfl rfl (xm_lt ml_90 rfl) ?_
          refine xi_iload_n (pc' := 4) (x := 4) kc_90_3 rfl rfl ?_
          refine xi_iff (pc' := 7) kc_90_4 rfl rfl ?_
          refine xi_iload_n (pc' := 8) (x := 4) kc_90_7 rfl rfl ?_
          refine xi_aload_n (pc' := 9) (x := 0) kc_90_8 rfl rfl ?_
          refine xi_getfield (pc' := 12) (v := .ref 94) kc_90_9 rfl rfl rfl A19 rfl ?_
          obtain ⟨y687, A687, hy687, ry687⟩ := xk_arr K.1 xD_94
          refine xi_arraylength (pc' := 13) (n := 7) (v := 7) kc_90_12 rfl (xl_lenI (by decide) (by decide) A687 hy687) rfl ?_
          refine xi_cmf (pc' := 16) kc_90_13 rfl rfl ?_
          refine xi_aload_n (pc' := 17) (x := 0) kc_90_16 rfl rfl ?_
          refine xi_getfield (pc' := 20) (v := .ref 94) kc_90_17 rfl rfl rfl A19 rfl ?_
          refine xi_iload_n (pc' := 21) (x := 4) kc_90_20 rfl rfl ?_
          refine xi_dup2 (pc' := 22) kc_90_21 rfl ⟨rfl, rfl⟩ ?_
          obtain ⟨v688, ev688, bv688, dv688⟩ := xj_get hy687 ry687 (i := 4) (by decide) (by decide)
          refine xi_iaload (pc' := 23) (v := v688) kc_90_22 rfl A687 (by decide) rfl (xi_in (by decide) (by rw [hy687]; decide)) ev688 ?_
          refine xi_iconst (pc' := 24) (v := 1) kc_90_23 rfl rfl ?_
          obtain ⟨v689, ev689⟩ : ∃ q : Int32, (v688 : Int32) + 1 = q := ⟨_, rfl⟩
          have rv689 := xc_rng v689
          refine xi_iadd (pc' := 25) (v := v689) kc_90_24 rfl ev689 ?_
          obtain ⟨y690, s690, hy690, ry690⟩ := xj_set (v := v689) hy687 ry687 4 (by first | omega | decide) (by first | omega | decide)
          refine xi_iastore (pc' := 26) (x' := y690) kc_90_25 rfl A687 rfl (xi_in (by decide) (by rw [hy687]; decide)) s690 (fun hh690 eh690 => ?_)
          have K691 := xk_pa K (xk_wa (by decide +kernel)) xD_94 hy690 ry690 eh690
          have KR692 := xk_pa KR (xk_wa (by decide +kernel)) xD_94 hy690 ry690 eh690
          refine xi_iload_n (pc' := 27) (x := (-4)) kc_90_26 rfl rfl ?_
          refine xi_ireturn kc_90_27 mr_90 rfl ?_
          show xw J ov 98 96 (8, [(0, .ref 0), (1, .int (-4))], [.int (-4), .int 1000000000], hh690) _
          refine xi_isub (pc' := 9) (v := 1000000004) kc_96_8 rfl rfl ?_
          refine xi_ireturn kc_96_9 mr_96 rfl ?_
          show xw J ov 99 95 (57, [(5, .int 20), (4, .int 0), (0, .ref 0), (1, .int a12), (2, .int a14), (3, .int a16)], [.int 1000000004], hh690) _
          refine xi_ireturn kc_95_57 mr_95 rfl ?_
          show xw J ov 100 195 (312, [(4, .int x4), (3, .ref 167), (2, .ref 115), (1, .ref 0), (0, .ref 1000000)], [.int 1000000004], hh690) _
          refine xi_pop (pc' := 313) kc_195_312 rfl rfl ?_
          refine xi_aload_n (pc' := 314) (x := 115) kc_195_313 rfl rfl ?_
          refine xi_aload_n (pc' := 315) (x := 1000000) kc_195_314 rfl rfl ?_
          refine xi_iload (pc' := 317) (x := x4) kc_195_315 rfl rfl ?_
          refine xi_iconst (pc' := 318) (v := 1) kc_195_317 rfl rfl ?_
          refine xi_iadd (pc' := 319) (v := v11) kc_195_318 rfl ev11 ?_
          refine xi_ialoadO (pc' := 320) (v := a12) kc_195_319 rfl (by decide) hov0 (xi_in (by omega) (by omega)) ea12 ?_
          refine xi_aload_n (pc' := 321) (x := 1000000) kc_195_320 rfl rfl ?_
          refine xi_iload (pc' := 323) (x := x4) kc_195_321 rfl rfl ?_
          refine xi_iconst (pc' := 324) (v := 2) kc_195_323 rfl rfl ?_
          refine xi_iadd (pc' := 325) (v := v13) kc_195_324 rfl ev13 ?_
          refine xi_ialoadO (pc' := 326) (v := a14) kc_195_325 rfl (by decide) hov0 (xi_in (by omega) (by omega)) ea14 ?_
          refine xi_aload_n (pc' := 327) (x := 1000000) kc_195_326 rfl rfl ?_
          refine xi_iload (pc' := 329) (x := x4) kc_195_327 rfl rfl ?_
          refine xi_iconst (pc' := 330) (v := 3) kc_195_329 rfl rfl ?_
          refine xi_iadd (pc' := 331) (v := v15) kc_195_330 rfl ev15 ?_
          refine xi_ialoadO (pc' := 332) (v := a16) kc_195_331 rfl (by decide) hov0 (xi_in (by omega) (by omega)) ea16 ?_
          obtain ⟨u693, u694, u695, u696, u697, u698, u699, u700, u701, u702, u703, u704, u705, bu693, bu694, bu695, bu696, bu697, bu698, bu699, bu700, bu701, bu702, bu703, bu704, bu705, A706⟩ := xq_115 K.1
          have A707 := ((eh690.2.1 115 (by decide)).trans A706)
          refine xi_virtual (mj := 16) (as := [.int a12, .int a14, .int a16]) (st1 := []) (lv0 := [(0, .ref 115), (1, .int a12), (2, .int a14), (3, .int a16)]) kc_195_332 rfl rfl rfl rfl rfl A707 (Nat.le_of_ble_eq_true rfl) (hJ _ _ _ _ (by decide)) (xm_le ml_16 rfl) rfl ?_
          refine xi_aload_n (pc' := 1) (x := 115) kc_16_0 rfl rfl ?_
          refine xi_iconst (pc' := 2) (v := 0) kc_16_1 rfl rfl ?_
          refine xi_putfield (pc' := 5) (fs' := [.int 0, .int u694, .ref 116, .ref 117, .ref 118, .ref 119, .ref 120, .ref 121, .ref 122, .ref 123, .ref 124, .ref 125, .ref 126, .ref 127, .ref 128, .ref 129, .int u695, .ref 130, .int u696, .ref 131, .ref 132, .ref 133, .ref 134, .int u697, .ref 135, .ref 136, .ref 137, .ref 138, .ref 139, .ref 140, .ref 141, .ref 142, .int u698, .int u699, .int u700, .ref 143, .ref 144, .ref 145, .ref 146, .ref 147, .ref 148, .int u701, .ref 149, .ref 150, .ref 151, .int u702, .ref 152, .ref 153, .ref 154, .ref 155, .ref 156, .ref 157, .ref 158, .ref 159, .int u703, .ref 160, .int u704, .ref 161, .ref 162, .ref 163, .ref 164, .int u705, .ref 165, .ref 166]) kc_16_2 rfl rfl rfl A707 rfl rfl rfl (Nat.le_of_ble_eq_true rfl) rfl (fun hh709 eh708 => ?_)
          have K710 := xk_pf (k := 0) (v := 0) K691 (xk_wf (by decide +kernel)) xD_115 A707 rfl (by first | omega | decide) (by first | omega | decide) eh708 rfl
          have KR711 := xk_pf (k := 0) (v := 0) KR692 (xk_wf (by decide +kernel)) xD_115 A707 rfl (by first | omega | decide) (by first | omega | decide) eh708 rfl
          refine xi_iload_n (pc' := 6) (x := a14) kc_16_5 rfl rfl ?_
          refine xi_iconst (pc' := 7) (v := 0) kc_16_6 rfl rfl ?_
          refine xi_iconst (pc' := 8) (v := 1) kc_16_7 rfl rfl ?_
          refine xi_static (mj := 11) (as := [.int a14, .int 0, .int 1]) (st1 := []) (lv0 := [(0, .int a14), (1, .int 0), (2, .int 1)]) kc_16_8 rfl rfl (Nat.le_of_ble_eq_true rfl) rfl rfl (Nat.le_of_ble_eq_true rfl) (hJ _ _ _ _ (by decide)) (xm_le ml_11 rfl) rfl ?_
          refine xi_iload_n (pc' := 1) (x := a14) kc_11_0 rfl rfl ?_
          refine xi_iload_n (pc' := 2) (x := 0) kc_11_1 rfl rfl ?_
          refine xi_cmf (pc' := 5) kc_11_2 rfl (xc_lt_f (X := a14.toInt) (Y := 0) rfl (by decide) (by omega)) ?_
          refine xi_iload_n (pc' := 6) (x := a14) kc_11_5 rfl rfl ?_
          refine xi_iload_n (pc' := 7) (x := 1) kc_11_6 rfl rfl ?_
          refine xi_cmf (pc' := 10) kc_11_7 rfl (xc_gt_f (X := a14.toInt) (Y := 1) rfl (by decide) (by omega)) ?_
          refine xi_iconst (pc' := 11) (v := 1) kc_11_10 rfl rfl ?_
          refine xi_goto (pc' := 15) kc_11_11 rfl ?_
          refine xi_ireturn kc_11_15 mr_11 rfl ?_
          show xw J ov 99 16 (11, [(0, .ref 115), (1, .int a12), (2, .int a14), (3, .int a16)], [.int 1], hh709) _
          refine xi_ift (pc' := 21) kc_16_11 rfl rfl ?_
          refine xi_iload_n (pc' := 22) (x := a12) kc_16_21 rfl rfl ?_
          refine xi_iff (pc' := 25) kc_16_22 rfl (xc_lt_f (X := a12.toInt) (Y := 0) rfl (by decide) (by omega)) ?_
          refine xi_iload_n (pc' := 26) (x := a16) kc_16_25 rfl rfl ?_
          refine xi_iload_n (pc' := 27) (x := a14) kc_16_26 rfl rfl ?_
          refine xi_ift (pc' := 35) kc_16_27 rfl (xc_ne_t (X := a14.toInt) (Y := 0) rfl (by decide) (by omega)) ?_
          refine xi_iconst (pc' := 36) (v := 0) kc_16_35 rfl rfl ?_
          refine xi_cmf (pc' := 39) kc_16_36 rfl (xc_ge_f (X := a16.toInt) (Y := 0) rfl (by decide) (by omega)) ?_
          refine xi_aload_n (pc' := 40) (x := 115) kc_16_39 rfl rfl ?_
          refine xi_bipush (pc' := 42) (v := (-4)) kc_16_40 rfl rfl ?_
          refine xi_virtual (mj := 17) (as := [.int (-4)]) (st1 := []) (lv0 := [(0, .ref 115), (1, .int (-4))]) kc_16_42 rfl rfl rfl rfl rfl eh708.1 (Nat.le_of_ble_eq_true rfl) (hJ _ _ _ _ (by decide)) (xm_le ml_17 rfl) rfl ?_
          refine xi_aload_n (pc' := 1) (x := 115) kc_17_0 rfl rfl ?_
          refine xi_getfield (pc' := 4) (v := .ref 140) kc_17_1 rfl rfl rfl eh708.1 rfl ?_
          refine xi_iload_n (pc' := 5) (x := (-4)) kc_17_4 rfl rfl ?_
          refine xi_ineg (pc' := 6) (v := 4) kc_17_5 rfl rfl ?_
          refine xi_dup2 (pc' := 7) kc_17_6 rfl ⟨rfl, rfl⟩ ?_
          obtain ⟨y712, A712, hy712, ry712⟩ := xk_arr K.1 xD_140
          obtain ⟨v713, ev713, bv713, dv713⟩ := xj_get hy712 ry712 (i := 4) (by decide) (by decide)
          have A714 := ((eh708.2.1 140 (by decide)).trans ((eh690.2.1 140 (by decide)).trans A712))
          refine xi_iaload (pc' := 8) (v := v713) kc_17_7 rfl A714 (by decide) rfl (xi_in (by decide) (by rw [hy712]; decide)) ev713 ?_
          refine xi_iconst (pc' := 9) (v := 1) kc_17_8 rfl rfl ?_
          obtain ⟨v715, ev715⟩ : ∃ q : Int32, (v713 : Int32) + 1 = q := ⟨_, rfl⟩
          have rv715 := xc_rng v715
          refine xi_iadd (pc' := 10) (v := v715) kc_17_9 rfl ev715 ?_
          obtain ⟨y716, s716, hy716, ry716⟩ := xj_set (v := v715) hy712 ry712 4 (by first | omega | decide) (by first | omega | decide)
          refine xi_iastore (pc' := 11) (x' := y716) kc_17_10 rfl A714 rfl (xi_in (by decide) (by rw [hy712]; decide)) s716 (fun hh716 eh716 => ?_)
          have K717 := xk_pa K710 (xk_wa (by decide +kernel)) xD_140 hy716 ry716 eh716
          have KR718 := xk_pa KR711 (xk_wa (by decide +kernel)) xD_140 hy716 ry716 eh716
          refine xi_ldc (pc' := 13) (v := 1000000000) kc_17_11 rfl rfl ?_
          refine xi_iload_n (pc' := 14) (x := (-4)) kc_17_13 rfl rfl ?_
          refine xi_isub (pc' := 15) (v := 1000000004) kc_17_14 rfl rfl ?_
          refine xi_ireturn kc_17_15 mr_17 rfl ?_
          show xw J ov 99 16 (45, [(0, .ref 115), (1, .int a12), (2, .int a14), (3, .int a16)], [.int 1000000004], hh716) _
          refine xi_ireturn kc_16_45 mr_16 rfl ?_
          show xw J ov 100 195 (335, [(4, .int x4), (3, .ref 167), (2, .ref 115), (1, .ref 0), (0, .ref 1000000)], [.int 1000000004], hh716) _
          refine xi_pop (pc' := 336) kc_195_335 rfl rfl ?_
          refine xi_goto (pc' := 1501) kc_195_336 rfl ?_
          obtain ⟨v719, ev719⟩ : ∃ q : Int32, x4 + 6 = q := ⟨_, rfl⟩
          have zv719 : v719.toInt = (x4.toInt + 6) := by rw [← ev719]; exact (xz_add (X := x4.toInt) (Y := 6) rfl (by decide) (by omega) (by omega)).trans (by omega)
          refine xi_iinc (pc' := 1504) (x := x4) (v := v719) (lv' := [(4, .int v719), (3, .ref 167), (2, .ref 115), (1, .ref 0), (0, .ref 1000000)]) kc_195_1501 rfl rfl ev719 rfl (xm_lt ml_195 rfl) ?_
          refine xi_goto (pc' := 23) kc_195_1504 rfl ?_
          exact kk v719 hh716 (by omega) K717 (xI_kept I KR718.2.1)
    · refine xi_cmf (pc' := 9) kc_95_6 rfl (xc_eq_f (X := a14.toInt) (Y := 1) rfl (by decide) (by omega)) ?_
      refine xi_aload_n (pc' := 10) (x := 0) kc_95_9 rfl rfl ?_
      refine xi_bipush (pc' := 12) (v := (-2)) kc_95_10 rfl rfl ?_
      refine xi_virtual (mj := 96) (as := [.int (-2)]) (st1 := []) (lv0 := [(0, .ref 0), (1, .int (-2))]) kc_95_12 rfl rfl rfl rfl rfl A19 (Nat.le_of_ble_eq_true rfl) (hJ _ _ _ _ (by decide)) (xm_le ml_96 rfl) rfl ?_
      refine xi_ldc_w (pc' := 3) (v := 1000000000) kc_96_0 rfl rfl ?_
      refine xi_aload_n (pc' := 4) (x := 0) kc_96_3 rfl rfl ?_
      refine xi_iload_n (pc' := 5) (x := (-2)) kc_96_4 rfl rfl ?_
      refine xi_virtual (mj := 90) (as := [.int (-2)]) (st1 := [.int 1000000000]) (lv0 := [(0, .ref 0), (1, .int (-2))]) kc_96_5 rfl rfl rfl rfl rfl A19 (Nat.le_of_ble_eq_true rfl) (hJ _ _ _ _ (by decide)) (xm_le ml_90 rfl) rfl ?_
      refine xi_iload_n (pc' := 1) (x := (-2)) kc_90_0 rfl rfl ?_
      refine xi_ineg (pc' := 2) (v := 2) kc_90_1 rfl rfl ?_
      refine xi_istore_n (pc' := 3) (lv' := [(2, .int 2), (0, .ref 0), (1, .int (-2))]) kc_90_2 rfl rfl (xm_lt ml_90 rfl) ?_
      refine xi_iload_n (pc' := 4) (x := 2) kc_90_3 rfl rfl ?_
      refine xi_iff (pc' := 7) kc_90_4 rfl rfl ?_
      refine xi_iload_n (pc' := 8) (x := 2) kc_90_7 rfl rfl ?_
      refine xi_aload_n (pc' := 9) (x := 0) kc_90_8 rfl rfl ?_
      refine xi_getfield (pc' := 12) (v := .ref 94) kc_90_9 rfl rfl rfl A19 rfl ?_
      obtain ⟨y720, A720, hy720, ry720⟩ := xk_arr K.1 xD_94
      refine xi_arraylength (pc' := 13) (n := 7) (v := 7) kc_90_12 rfl (xl_lenI (by decide) (by decide) A720 hy720) rfl ?_
      refine xi_cmf (pc' := 16) kc_90_13 rfl rfl ?_
      refine xi_aload_n (pc' := 17) (x := 0) kc_90_16 rfl rfl ?_
      refine xi_getfield (pc' := 20) (v := .ref 94) kc_90_17 rfl rfl rfl A19 rfl ?_
      refine xi_iload_n (pc' := 21) (x := 2) kc_90_20 rfl rfl ?_
      refine xi_dup2 (pc' := 22) kc_90_21 rfl ⟨rfl, rfl⟩ ?_
      obtain ⟨v721, ev721, bv721, dv721⟩ := xj_get hy720 ry720 (i := 2) (by decide) (by decide)
      refine xi_iaload (pc' := 23) (v := v721) kc_90_22 rfl A720 (by decide) rfl (xi_in (by decide) (by rw [hy720]; decide)) ev721 ?_
      refine xi_iconst (pc' := 24) (v := 1) kc_90_23 rfl rfl ?_
      obtain ⟨v722, ev722⟩ : ∃ q : Int32, (v721 : Int32) + 1 = q := ⟨_, rfl⟩
      have rv722 := xc_rng v722
      refine xi_iadd (pc' := 25) (v := v722) kc_90_24 rfl ev722 ?_
      obtain ⟨y723, s723, hy723, ry723⟩ := xj_set (v := v722) hy720 ry720 2 (by first | omega | decide) (by first | omega | decide)
      refine xi_iastore (pc' := 26) (x' := y723) kc_90_25 rfl A720 rfl (xi_in (by decide) (by rw [hy720]; decide)) s723 (fun hh723 eh723 => ?_)
      have K724 := xk_pa K (xk_wa (by decide +kernel)) xD_94 hy723 ry723 eh723
      have KR725 := xk_pa KR (xk_wa (by decide +kernel)) xD_94 hy723 ry723 eh723
      refine xi_iload_n (pc' := 27) (x := (-2)) kc_90_26 rfl rfl ?_
      refine xi_ireturn kc_90_27 mr_90 rfl ?_
      show xw J ov 98 96 (8, [(0, .ref 0), (1, .int (-2))], [.int (-2), .int 1000000000], hh723) _
      refine xi_isub (pc' := 9) (v := 1000000002) kc_96_8 rfl rfl ?_
      refine xi_ireturn kc_96_9 mr_96 rfl ?_
      show xw J ov 99 95 (15, [(0, .ref 0), (1, .int a12), (2, .int a14), (3, .int a16)], [.int 1000000002], hh723) _
      refine xi_ireturn kc_95_15 mr_95 rfl ?_
      show xw J ov 100 195 (312, [(4, .int x4), (3, .ref 167), (2, .ref 115), (1, .ref 0), (0, .ref 1000000)], [.int 1000000002], hh723) _
      refine xi_pop (pc' := 313) kc_195_312 rfl rfl ?_
      refine xi_aload_n (pc' := 314) (x := 115) kc_195_313 rfl rfl ?_
      refine xi_aload_n (pc' := 315) (x := 1000000) kc_195_314 rfl rfl ?_
      refine xi_iload (pc' := 317) (x := x4) kc_195_315 rfl rfl ?_
      refine xi_iconst (pc' := 318) (v := 1) kc_195_317 rfl rfl ?_
      refine xi_iadd (pc' := 319) (v := v11) kc_195_318 rfl ev11 ?_
      refine xi_ialoadO (pc' := 320) (v := a12) kc_195_319 rfl (by decide) hov0 (xi_in (by omega) (by omega)) ea12 ?_
      refine xi_aload_n (pc' := 321) (x := 1000000) kc_195_320 rfl rfl ?_
      refine xi_iload (pc' := 323) (x := x4) kc_195_321 rfl rfl ?_
      refine xi_iconst (pc' := 324) (v := 2) kc_195_323 rfl rfl ?_
      refine xi_iadd (pc' := 325) (v := v13) kc_195_324 rfl ev13 ?_
      refine xi_ialoadO (pc' := 326) (v := a14) kc_195_325 rfl (by decide) hov0 (xi_in (by omega) (by omega)) ea14 ?_
      refine xi_aload_n (pc' := 327) (x := 1000000) kc_195_326 rfl rfl ?_
      refine xi_iload (pc' := 329) (x := x4) kc_195_327 rfl rfl ?_
      refine xi_iconst (pc' := 330) (v := 3) kc_195_329 rfl rfl ?_
      refine xi_iadd (pc' := 331) (v := v15) kc_195_330 rfl ev15 ?_
      refine xi_ialoadO (pc' := 332) (v := a16) kc_195_331 rfl (by decide) hov0 (xi_in (by omega) (by omega)) ea16 ?_
      obtain ⟨u726, u727, u728, u729, u730, u731, u732, u733, u734, u735, u736, u737, u738, bu726, bu727, bu728, bu729, bu730, bu731, bu732, bu733, bu734, bu735, bu736, bu737, bu738, A739⟩ := xq_115 K.1
      have A740 := ((eh723.2.1 115 (by decide)).trans A739)
      refine xi_virtual (mj := 16) (as := [.int a12, .int a14, .int a16]) (st1 := []) (lv0 := [(0, .ref 115), (1, .int a12), (2, .int a14), (3, .int a16)]) kc_195_332 rfl rfl rfl rfl rfl A740 (Nat.le_of_ble_eq_true rfl) (hJ _ _ _ _ (by decide)) (xm_le ml_16 rfl) rfl ?_
      refine xi_aload_n (pc' := 1) (x := 115) kc_16_0 rfl rfl ?_
      refine xi_iconst (pc' := 2) (v := 0) kc_16_1 rfl rfl ?_
      refine xi_putfield (pc' := 5) (fs' := [.int 0, .int u727, .ref 116, .ref 117, .ref 118, .ref 119, .ref 120, .ref 121, .ref 122, .ref 123, .ref 124, .ref 125, .ref 126, .ref 127, .ref 128, .ref 129, .int u728, .ref 130, .int u729, .ref 131, .ref 132, .ref 133, .ref 134, .int u730, .ref 135, .ref 136, .ref 137, .ref 138, .ref 139, .ref 140, .ref 141, .ref 142, .int u731, .int u732, .int u733, .ref 143, .ref 144, .ref 145, .ref 146, .ref 147, .ref 148, .int u734, .ref 149, .ref 150, .ref 151, .int u735, .ref 152, .ref 153, .ref 154, .ref 155, .ref 156, .ref 157, .ref 158, .ref 159, .int u736, .ref 160, .int u737, .ref 161, .ref 162, .ref 163, .ref 164, .int u738, .ref 165, .ref 166]) kc_16_2 rfl rfl rfl A740 rfl rfl rfl (Nat.le_of_ble_eq_true rfl) rfl (fun hh742 eh741 => ?_)
      have K743 := xk_pf (k := 0) (v := 0) K724 (xk_wf (by decide +kernel)) xD_115 A740 rfl (by first | omega | decide) (by first | omega | decide) eh741 rfl
      have KR744 := xk_pf (k := 0) (v := 0) KR725 (xk_wf (by decide +kernel)) xD_115 A740 rfl (by first | omega | decide) (by first | omega | decide) eh741 rfl
      refine xi_iload_n (pc' := 6) (x := a14) kc_16_5 rfl rfl ?_
      refine xi_iconst (pc' := 7) (v := 0) kc_16_6 rfl rfl ?_
      refine xi_iconst (pc' := 8) (v := 1) kc_16_7 rfl rfl ?_
      refine xi_static (mj := 11) (as := [.int a14, .int 0, .int 1]) (st1 := []) (lv0 := [(0, .int a14), (1, .int 0), (2, .int 1)]) kc_16_8 rfl rfl (Nat.le_of_ble_eq_true rfl) rfl rfl (Nat.le_of_ble_eq_true rfl) (hJ _ _ _ _ (by decide)) (xm_le ml_11 rfl) rfl ?_
      refine xi_iload_n (pc' := 1) (x := a14) kc_11_0 rfl rfl ?_
      refine xi_iload_n (pc' := 2) (x := 0) kc_11_1 rfl rfl ?_
      by_cases c745 : a14.toInt < 0
      · refine xi_cmt (pc' := 14) kc_11_2 rfl (xc_lt_t (X := a14.toInt) (Y := 0) rfl (by decide) (by omega)) ?_
        refine xi_iconst (pc' := 15) (v := 0) kc_11_14 rfl rfl ?_
        refine xi_ireturn kc_11_15 mr_11 rfl ?_
        show xw J ov 99 16 (11, [(0, .ref 115), (1, .int a12), (2, .int a14), (3, .int a16)], [.int 0], hh742) _
        refine xi_iff (pc' := 14) kc_16_11 rfl rfl ?_
        refine xi_aload_n (pc' := 15) (x := 115) kc_16_14 rfl rfl ?_
        refine xi_bipush (pc' := 17) (v := (-2)) kc_16_15 rfl rfl ?_
        refine xi_virtual (mj := 17) (as := [.int (-2)]) (st1 := []) (lv0 := [(0, .ref 115), (1, .int (-2))]) kc_16_17 rfl rfl rfl rfl rfl eh741.1 (Nat.le_of_ble_eq_true rfl) (hJ _ _ _ _ (by decide)) (xm_le ml_17 rfl) rfl ?_
        refine xi_aload_n (pc' := 1) (x := 115) kc_17_0 rfl rfl ?_
        refine xi_getfield (pc' := 4) (v := .ref 140) kc_17_1 rfl rfl rfl eh741.1 rfl ?_
        refine xi_iload_n (pc' := 5) (x := (-2)) kc_17_4 rfl rfl ?_
        refine xi_ineg (pc' := 6) (v := 2) kc_17_5 rfl rfl ?_
        refine xi_dup2 (pc' := 7) kc_17_6 rfl ⟨rfl, rfl⟩ ?_
        obtain ⟨y746, A746, hy746, ry746⟩ := xk_arr K.1 xD_140
        obtain ⟨v747, ev747, bv747, dv747⟩ := xj_get hy746 ry746 (i := 2) (by decide) (by decide)
        have A748 := ((eh741.2.1 140 (by decide)).trans ((eh723.2.1 140 (by decide)).trans A746))
        refine xi_iaload (pc' := 8) (v := v747) kc_17_7 rfl A748 (by decide) rfl (xi_in (by decide) (by rw [hy746]; decide)) ev747 ?_
        refine xi_iconst (pc' := 9) (v := 1) kc_17_8 rfl rfl ?_
        obtain ⟨v749, ev749⟩ : ∃ q : Int32, (v747 : Int32) + 1 = q := ⟨_, rfl⟩
        have rv749 := xc_rng v749
        refine xi_iadd (pc' := 10) (v := v749) kc_17_9 rfl ev749 ?_
        obtain ⟨y750, s750, hy750, ry750⟩ := xj_set (v := v749) hy746 ry746 2 (by first | omega | decide) (by first | omega | decide)
        refine xi_iastore (pc' := 11) (x' := y750) kc_17_10 rfl A748 rfl (xi_in (by decide) (by rw [hy746]; decide)) s750 (fun hh750 eh750 => ?_)
        have K751 := xk_pa K743 (xk_wa (by decide +kernel)) xD_140 hy750 ry750 eh750
        have KR752 := xk_pa KR744 (xk_wa (by decide +kernel)) xD_140 hy750 ry750 eh750
        refine xi_ldc (pc' := 13) (v := 1000000000) kc_17_11 rfl rfl ?_
        refine xi_iload_n (pc' := 14) (x := (-2)) kc_17_13 rfl rfl ?_
        refine xi_isub (pc' := 15) (v := 1000000002) kc_17_14 rfl rfl ?_
        refine xi_ireturn kc_17_15 mr_17 rfl ?_
        show xw J ov 99 16 (20, [(0, .ref 115), (1, .int a12), (2, .int a14), (3, .int a16)], [.int 1000000002], hh750) _
        refine xi_ireturn kc_16_20 mr_16 rfl ?_
        show xw J ov 100 195 (335, [(4, .int x4), (3, .ref 167), (2, .ref 115), (1, .ref 0), (0, .ref 1000000)], [.int 1000000002], hh750) _
        refine xi_pop (pc' := 336) kc_195_335 rfl rfl ?_
        refine xi_goto (pc' := 1501) kc_195_336 rfl ?_
        obtain ⟨v753, ev753⟩ : ∃ q : Int32, x4 + 6 = q := ⟨_, rfl⟩
        have zv753 : v753.toInt = (x4.toInt + 6) := by rw [← ev753]; exact (xz_add (X := x4.toInt) (Y := 6) rfl (by decide) (by omega) (by omega)).trans (by omega)
        refine xi_iinc (pc' := 1504) (x := x4) (v := v753) (lv' := [(4, .int v753), (3, .ref 167), (2, .ref 115), (1, .ref 0), (0, .ref 1000000)]) kc_195_1501 rfl rfl ev753 rfl (xm_lt ml_195 rfl) ?_
        refine xi_goto (pc' := 23) kc_195_1504 rfl ?_
        exact kk v753 hh750 (by omega) K751 (xI_kept I KR752.2.1)
      · refine xi_cmf (pc' := 5) kc_11_2 rfl (xc_lt_f (X := a14.toInt) (Y := 0) rfl (by decide) (by omega)) ?_
        refine xi_iload_n (pc' := 6) (x := a14) kc_11_5 rfl rfl ?_
        refine xi_iload_n (pc' := 7) (x := 1) kc_11_6 rfl rfl ?_
        refine xi_cmt (pc' := 14) kc_11_7 rfl (xc_gt_t (X := a14.toInt) (Y := 1) rfl (by decide) (by omega)) ?_
        refine xi_iconst (pc' := 15) (v := 0) kc_11_14 rfl rfl ?_
        refine xi_ireturn kc_11_15 mr_11 rfl ?_
        show xw J ov 99 16 (11, [(0, .ref 115), (1, .int a12), (2, .int a14), (3, .int a16)], [.int 0], hh742) _
        refine xi_iff (pc' := 14) kc_16_11 rfl rfl ?_
        refine xi_aload_n (pc' := 15) (x := 115) kc_16_14 rfl rfl ?_
        refine xi_bipush (pc' := 17) (v := (-2)) kc_16_15 rfl rfl ?_
        refine xi_virtual (mj := 17) (as := [.int (-2)]) (st1 := []) (lv0 := [(0, .ref 115), (1, .int (-2))]) kc_16_17 rfl rfl rfl rfl rfl eh741.1 (Nat.le_of_ble_eq_true rfl) (hJ _ _ _ _ (by decide)) (xm_le ml_17 rfl) rfl ?_
        refine xi_aload_n (pc' := 1) (x := 115) kc_17_0 rfl rfl ?_
        refine xi_getfield (pc' := 4) (v := .ref 140) kc_17_1 rfl rfl rfl eh741.1 rfl ?_
        refine xi_iload_n (pc' := 5) (x := (-2)) kc_17_4 rfl rfl ?_
        refine xi_ineg (pc' := 6) (v := 2) kc_17_5 rfl rfl ?_
        refine xi_dup2 (pc' := 7) kc_17_6 rfl ⟨rfl, rfl⟩ ?_
        obtain ⟨y754, A754, hy754, ry754⟩ := xk_arr K.1 xD_140
        obtain ⟨v755, ev755, bv755, dv755⟩ := xj_get hy754 ry754 (i := 2) (by decide) (by decide)
        have A756 := ((eh741.2.1 140 (by decide)).trans ((eh723.2.1 140 (by decide)).trans A754))
        refine xi_iaload (pc' := 8) (v := v755) kc_17_7 rfl A756 (by decide) rfl (xi_in (by decide) (by rw [hy754]; decide)) ev755 ?_
        refine xi_iconst (pc' := 9) (v := 1) kc_17_8 rfl rfl ?_
        obtain ⟨v757, ev757⟩ : ∃ q : Int32, (v755 : Int32) + 1 = q := ⟨_, rfl⟩
        have rv757 := xc_rng v757
        refine xi_iadd (pc' := 10) (v := v757) kc_17_9 rfl ev757 ?_
        obtain ⟨y758, s758, hy758, ry758⟩ := xj_set (v := v757) hy754 ry754 2 (by first | omega | decide) (by first | omega | decide)
        refine xi_iastore (pc' := 11) (x' := y758) kc_17_10 rfl A756 rfl (xi_in (by decide) (by rw [hy754]; decide)) s758 (fun hh758 eh758 => ?_)
        have K759 := xk_pa K743 (xk_wa (by decide +kernel)) xD_140 hy758 ry758 eh758
        have KR760 := xk_pa KR744 (xk_wa (by decide +kernel)) xD_140 hy758 ry758 eh758
        refine xi_ldc (pc' := 13) (v := 1000000000) kc_17_11 rfl rfl ?_
        refine xi_iload_n (pc' := 14) (x := (-2)) kc_17_13 rfl rfl ?_
        refine xi_isub (pc' := 15) (v := 1000000002) kc_17_14 rfl rfl ?_
        refine xi_ireturn kc_17_15 mr_17 rfl ?_
        show xw J ov 99 16 (20, [(0, .ref 115), (1, .int a12), (2, .int a14), (3, .int a16)], [.int 1000000002], hh758) _
        refine xi_ireturn kc_16_20 mr_16 rfl ?_
        show xw J ov 100 195 (335, [(4, .int x4), (3, .ref 167), (2, .ref 115), (1, .ref 0), (0, .ref 1000000)], [.int 1000000002], hh758) _
        refine xi_pop (pc' := 336) kc_195_335 rfl rfl ?_
        refine xi_goto (pc' := 1501) kc_195_336 rfl ?_
        obtain ⟨v761, ev761⟩ : ∃ q : Int32, x4 + 6 = q := ⟨_, rfl⟩
        have zv761 : v761.toInt = (x4.toInt + 6) := by rw [← ev761]; exact (xz_add (X := x4.toInt) (Y := 6) rfl (by decide) (by omega) (by omega)).trans (by omega)
        refine xi_iinc (pc' := 1504) (x := x4) (v := v761) (lv' := [(4, .int v761), (3, .ref 167), (2, .ref 115), (1, .ref 0), (0, .ref 1000000)]) kc_195_1501 rfl rfl ev761 rfl (xm_lt ml_195 rfl) ?_
        refine xi_goto (pc' := 23) kc_195_1504 rfl ?_
        exact kk v761 hh758 (by omega) K759 (xI_kept I KR760.2.1)
