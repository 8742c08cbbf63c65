set_option maxHeartbeats 8000000 in
theorem lc_1 {J : xe_J} {ov : List (List Int32)} (hJ : ∀ d mj as h, mj ≠ xe_loff → J d mj as h = none) (hov1 : ov[1]? = some [10, 0, 0, 0, 0, 0]) (hov2 : ov[2]? = some [99, 30, 50, 50, 1, 99999]) {xs : List Int32} (hov0 : ov[0]? = some xs) {Q : Option Value → xe_H → Prop} {h : xe_H} {x4 : Int32} (hi0 : 0 ≤ x4.toInt) (hi1 : x4.toInt + 6 ≤ xs.length) (hi2 : x4.toInt ≤ 3066) (T : xt h) (I : xI h) (kk : ∀ (i : Int32) (h' : xe_H), i.toInt = x4.toInt + 6 → xk xP_30 h h' → xI h' → xw J ov 100 195 (23, [(4, .int i), (3, .ref 167), (2, .ref 115), (1, .ref 0), (0, .ref 1000000)], [], h') Q) : xw J ov 100 195 (241, [(4, .int x4), (3, .ref 167), (2, .ref 115), (1, .ref 0), (0, .ref 1000000)], [], h) Q := by
  have K : xk xP_30 h h := xk_re T
  have KR : xk xP_27 h h := xk_re T
  obtain ⟨y1, A1, hy1, ry1⟩ := xk_arr K.1 xD_13
  obtain ⟨y2, A2, hy2, ry2⟩ := xk_arr K.1 xD_122
  have H3 := xE_of I.2.2.2.1 A1 A2
  obtain ⟨y3, A3, hy3, ry3⟩ := xk_arr K.1 xD_16
  have H4 := xE_of I.2.2.2.2.1 A3 A2
  obtain ⟨y4, A4, hy4, ry4⟩ := xk_arr K.1 xD_19
  have H5 := xE_of I.2.2.2.2.2.1 A4 A2
  obtain ⟨y5, A5, hy5, ry5⟩ := xk_arr K.1 xD_22
  have H6 := xE_of I.2.2.2.2.2.2.1 A5 A2
  obtain ⟨y6, A6, hy6, ry6⟩ := xk_arr K.1 xD_25
  have H7 := xE_of I.2.2.2.2.2.2.2.1 A6 A2
  obtain ⟨y7, A7, hy7, ry7⟩ := xk_arr K.1 xD_28
  have H8 := xE_of I.2.2.2.2.2.2.2.2.1 A7 A2
  refine xi_aload_n (pc' := 242) (x := 0) kc_195_241 rfl rfl ?_
  refine xi_aload_n (pc' := 243) (x := 1000000) kc_195_242 rfl rfl ?_
  refine xi_iload (pc' := 245) (x := x4) kc_195_243 rfl rfl ?_
  refine xi_iconst (pc' := 246) (v := 1) kc_195_245 rfl rfl ?_
  obtain ⟨v8, ev8⟩ : ∃ q : Int32, x4 + 1 = q := ⟨_, rfl⟩
  have zv8 : v8.toInt = (x4.toInt + 1) := by rw [← ev8]; exact (xz_add (X := x4.toInt) (Y := 1) rfl (by decide) (by omega) (by omega)).trans (by omega)
  refine xi_iadd (pc' := 247) (v := v8) kc_195_246 rfl ev8 ?_
  obtain ⟨a9, ea9⟩ : ∃ q : Int32, xs.getD (Int32.toNatClampNeg v8) 0 = q := ⟨_, rfl⟩
  have ra9 := xc_rng a9
  refine xi_ialoadO (pc' := 248) (v := a9) kc_195_247 rfl (by decide) hov0 (xi_in (by omega) (by omega)) ea9 ?_
  refine xi_aload_n (pc' := 249) (x := 1000000) kc_195_248 rfl rfl ?_
  refine xi_iload (pc' := 251) (x := x4) kc_195_249 rfl rfl ?_
  refine xi_iconst (pc' := 252) (v := 2) kc_195_251 rfl rfl ?_
  obtain ⟨v10, ev10⟩ : ∃ q : Int32, x4 + 2 = q := ⟨_, rfl⟩
  have zv10 : v10.toInt = (x4.toInt + 2) := by rw [← ev10]; exact (xz_add (X := x4.toInt) (Y := 2) rfl (by decide) (by omega) (by omega)).trans (by omega)
  refine xi_iadd (pc' := 253) (v := v10) kc_195_252 rfl ev10 ?_
  obtain ⟨a11, ea11⟩ : ∃ q : Int32, xs.getD (Int32.toNatClampNeg v10) 0 = q := ⟨_, rfl⟩
  have ra11 := xc_rng a11
  refine xi_ialoadO (pc' := 254) (v := a11) kc_195_253 rfl (by decide) hov0 (xi_in (by omega) (by omega)) ea11 ?_
  refine xi_aload_n (pc' := 255) (x := 1000000) kc_195_254 rfl rfl ?_
  refine xi_iload (pc' := 257) (x := x4) kc_195_255 rfl rfl ?_
  refine xi_iconst (pc' := 258) (v := 3) kc_195_257 rfl rfl ?_
  obtain ⟨v12, ev12⟩ : ∃ q : Int32, x4 + 3 = q := ⟨_, rfl⟩
  have zv12 : v12.toInt = (x4.toInt + 3) := by rw [← ev12]; exact (xz_add (X := x4.toInt) (Y := 3) rfl (by decide) (by omega) (by omega)).trans (by omega)
  refine xi_iadd (pc' := 259) (v := v12) kc_195_258 rfl ev12 ?_
  obtain ⟨a13, ea13⟩ : ∃ q : Int32, xs.getD (Int32.toNatClampNeg v12) 0 = q := ⟨_, rfl⟩
  have ra13 := xc_rng a13
  refine xi_ialoadO (pc' := 260) (v := a13) kc_195_259 rfl (by decide) hov0 (xi_in (by omega) (by omega)) ea13 ?_
  obtain ⟨u14, u15, bu14, bu15, A16⟩ := xq_0 K.1
  refine xi_virtual (mj := 94) (as := [.int a9, .int a11, .int a13]) (st1 := []) (lv0 := [(0, .ref 0), (1, .int a9), (2, .int a11), (3, .int a13)]) kc_195_260 rfl rfl rfl rfl rfl A16 (Nat.le_of_ble_eq_true rfl) (hJ _ _ _ _ (by decide)) (xm_le ml_94 rfl) rfl ?_
  refine xi_iload_n (pc' := 1) (x := a9) kc_94_0 rfl rfl ?_
  refine xi_static (mj := 89) (as := [.int a9]) (st1 := []) (lv0 := [(0, .int a9)]) kc_94_1 rfl rfl (Nat.le_of_ble_eq_true rfl) rfl rfl (Nat.le_of_ble_eq_true rfl) (hJ _ _ _ _ (by decide)) (xm_le ml_89 rfl) rfl ?_
  refine xi_iload_n (pc' := 1) (x := a9) kc_89_0 rfl rfl ?_
  by_cases c17 : a9.toInt < 0
  · refine xi_ift (pc' := 14) kc_89_1 rfl (xc_lt_t (X := a9.toInt) (Y := 0) rfl (by decide) (by omega)) ?_
    refine xi_iconst (pc' := 15) (v := 0) kc_89_14 rfl rfl ?_
    refine xi_ireturn kc_89_15 mr_89 rfl ?_
    show xw J ov 99 94 (4, [(0, .ref 0), (1, .int a9), (2, .int a11), (3, .int a13)], [.int 0], h) _
    refine xi_ift (pc' := 17) kc_94_4 rfl rfl ?_
    refine xi_aload_n (pc' := 18) (x := 0) kc_94_17 rfl rfl ?_
    refine xi_iconst (pc' := 19) (v := (-1)) kc_94_18 rfl rfl ?_
    refine xi_virtual (mj := 90) (as := [.int (-1)]) (st1 := []) (lv0 := [(0, .ref 0), (1, .int (-1))]) kc_94_19 rfl rfl rfl rfl rfl A16 (Nat.le_of_ble_eq_true rfl) (hJ _ _ _ _ (by decide)) (xm_le ml_90 rfl) rfl ?_
    refine xi_iload_n (pc' := 1) (x := (-1)) kc_90_0 rfl rfl ?_
    refine xi_ineg (pc' := 2) (v := 1) kc_90_1 rfl rfl ?_
    refine xi_istore_n (pc' := 3) (lv' := [(2, .int 1), (0, .ref 0), (1, .int (-1))]) kc_90_2 rfl rfl (xm_lt ml_90 rfl) ?_
    refine xi_iload_n (pc' := 4) (x := 1) kc_90_3 rfl rfl ?_
    refine xi_iff (pc' := 7) kc_90_4 rfl rfl ?_
    refine xi_iload_n (pc' := 8) (x := 1) kc_90_7 rfl rfl ?_
    refine xi_aload_n (pc' := 9) (x := 0) kc_90_8 rfl rfl ?_
    refine xi_getfield (pc' := 12) (v := .ref 94) kc_90_9 rfl rfl rfl A16 rfl ?_
    obtain ⟨y18, A18, hy18, ry18⟩ := xk_arr K.1 xD_94
    refine xi_arraylength (pc' := 13) (n := 7) (v := 7) kc_90_12 rfl (xl_lenI (by decide) (by decide) A18 hy18) rfl ?_
    refine xi_cmf (pc' := 16) kc_90_13 rfl rfl ?_
    refine xi_aload_n (pc' := 17) (x := 0) kc_90_16 rfl rfl ?_
    refine xi_getfield (pc' := 20) (v := .ref 94) kc_90_17 rfl rfl rfl A16 rfl ?_
    refine xi_iload_n (pc' := 21) (x := 1) kc_90_20 rfl rfl ?_
    refine xi_dup2 (pc' := 22) kc_90_21 rfl ⟨rfl, rfl⟩ ?_
    obtain ⟨v19, ev19, bv19, dv19⟩ := xj_get hy18 ry18 (i := 1) (by decide) (by decide)
    refine xi_iaload (pc' := 23) (v := v19) kc_90_22 rfl A18 (by decide) rfl (xi_in (by decide) (by rw [hy18]; decide)) ev19 ?_
    refine xi_iconst (pc' := 24) (v := 1) kc_90_23 rfl rfl ?_
    obtain ⟨v20, ev20⟩ : ∃ q : Int32, (v19 : Int32) + 1 = q := ⟨_, rfl⟩
    have rv20 := xc_rng v20
    refine xi_iadd (pc' := 25) (v := v20) kc_90_24 rfl ev20 ?_
    obtain ⟨y21, s21, hy21, ry21⟩ := xj_set (v := v20) hy18 ry18 1 (by first | omega | decide) (by first | omega | decide)
    refine xi_iastore (pc' := 26) (x' := y21) kc_90_25 rfl A18 rfl (xi_in (by decide) (by rw [hy18]; decide)) s21 (fun hh21 eh21 => ?_)
    have K22 := xk_pa K (xk_wa (by decide +kernel)) xD_94 hy21 ry21 eh21
    have KR23 := xk_pa KR (xk_wa (by decide +kernel)) xD_94 hy21 ry21 eh21
    refine xi_iload_n (pc' := 27) (x := (-1)) kc_90_26 rfl rfl ?_
    refine xi_ireturn kc_90_27 mr_90 rfl ?_
    show xw J ov 99 94 (22, [(0, .ref 0), (1, .int a9), (2, .int a11), (3, .int a13)], [.int (-1)], hh21) _
    refine xi_ireturn kc_94_22 mr_94 rfl ?_
    show xw J ov 100 195 (263, [(4, .int x4), (3, .ref 167), (2, .ref 115), (1, .ref 0), (0, .ref 1000000)], [.int (-1)], hh21) _
    refine xi_pop (pc' := 264) kc_195_263 rfl rfl ?_
    refine xi_aload_n (pc' := 265) (x := 115) kc_195_264 rfl rfl ?_
    refine xi_aload_n (pc' := 266) (x := 1000000) kc_195_265 rfl rfl ?_
    refine xi_iload (pc' := 268) (x := x4) kc_195_266 rfl rfl ?_
    refine xi_iconst (pc' := 269) (v := 1) kc_195_268 rfl rfl ?_
    refine xi_iadd (pc' := 270) (v := v8) kc_195_269 rfl ev8 ?_
    refine xi_ialoadO (pc' := 271) (v := a9) kc_195_270 rfl (by decide) hov0 (xi_in (by omega) (by omega)) ea9 ?_
    refine xi_aload_n (pc' := 272) (x := 1000000) kc_195_271 rfl rfl ?_
    refine xi_iload (pc' := 274) (x := x4) kc_195_272 rfl rfl ?_
    refine xi_iconst (pc' := 275) (v := 2) kc_195_274 rfl rfl ?_
    refine xi_iadd (pc' := 276) (v := v10) kc_195_275 rfl ev10 ?_
    refine xi_ialoadO (pc' := 277) (v := a11) kc_195_276 rfl (by decide) hov0 (xi_in (by omega) (by omega)) ea11 ?_
    refine xi_aload_n (pc' := 278) (x := 1000000) kc_195_277 rfl rfl ?_
    refine xi_iload (pc' := 280) (x := x4) kc_195_278 rfl rfl ?_
    refine xi_iconst (pc' := 281) (v := 3) kc_195_280 rfl rfl ?_
    refine xi_iadd (pc' := 282) (v := v12) kc_195_281 rfl ev12 ?_
    refine xi_ialoadO (pc' := 283) (v := a13) kc_195_282 rfl (by decide) hov0 (xi_in (by omega) (by omega)) ea13 ?_
    obtain ⟨u24, u25, u26, u27, u28, u29, u30, u31, u32, u33, u34, u35, u36, bu24, bu25, bu26, bu27, bu28, bu29, bu30, bu31, bu32, bu33, bu34, bu35, bu36, A37⟩ := xq_115 K.1
    have A38 := ((eh21.2.1 115 (by decide)).trans A37)
    refine xi_virtual (mj := 15) (as := [.int a9, .int a11, .int a13]) (st1 := []) (lv0 := [(0, .ref 115), (1, .int a9), (2, .int a11), (3, .int a13)]) kc_195_283 rfl rfl rfl rfl rfl A38 (Nat.le_of_ble_eq_true rfl) (hJ _ _ _ _ (by decide)) (xm_le ml_15 rfl) rfl ?_
    refine xi_aload_n (pc' := 1) (x := 115) kc_15_0 rfl rfl ?_
    refine xi_iconst (pc' := 2) (v := 0) kc_15_1 rfl rfl ?_
    refine xi_putfield (pc' := 5) (fs' := [.int 0, .int u25, .ref 116, .ref 117, .ref 118, .ref 119, .ref 120, .ref 121, .ref 122, .ref 123, .ref 124, .ref 125, .ref 126, .ref 127, .ref 128, .ref 129, .int u26, .ref 130, .int u27, .ref 131, .ref 132, .ref 133, .ref 134, .int u28, .ref 135, .ref 136, .ref 137, .ref 138, .ref 139, .ref 140, .ref 141, .ref 142, .int u29, .int u30, .int u31, .ref 143, .ref 144, .ref 145, .ref 146, .ref 147, .ref 148, .int u32, .ref 149, .ref 150, .ref 151, .int u33, .ref 152, .ref 153, .ref 154, .ref 155, .ref 156, .ref 157, .ref 158, .ref 159, .int u34, .ref 160, .int u35, .ref 161, .ref 162, .ref 163, .ref 164, .int u36, .ref 165, .ref 166]) kc_15_2 rfl rfl rfl A38 rfl rfl rfl (Nat.le_of_ble_eq_true rfl) rfl (fun hh40 eh39 => ?_)
    have K41 := xk_pf (k := 0) (v := 0) K22 (xk_wf (by decide +kernel)) xD_115 A38 rfl (by first | omega | decide) (by first | omega | decide) eh39 rfl
    have KR42 := xk_pf (k := 0) (v := 0) KR23 (xk_wf (by decide +kernel)) xD_115 A38 rfl (by first | omega | decide) (by first | omega | decide) eh39 rfl
    refine xi_iload_n (pc' := 6) (x := a9) kc_15_5 rfl rfl ?_
    refine xi_static (mj := 10) (as := [.int a9]) (st1 := []) (lv0 := [(0, .int a9)]) kc_15_6 rfl rfl (Nat.le_of_ble_eq_true rfl) rfl rfl (Nat.le_of_ble_eq_true rfl) (hJ _ _ _ _ (by decide)) (xm_le ml_10 rfl) rfl ?_
    refine xi_iload_n (pc' := 1) (x := a9) kc_10_0 rfl rfl ?_
    refine xi_iconst (pc' := 2) (v := 0) kc_10_1 rfl rfl ?_
    refine xi_iconst (pc' := 3) (v := 5) kc_10_2 rfl rfl ?_
    refine xi_static (mj := 11) (as := [.int a9, .int 0, .int 5]) (st1 := []) (lv0 := [(0, .int a9), (1, .int 0), (2, .int 5)]) kc_10_3 rfl rfl (Nat.le_of_ble_eq_true rfl) rfl rfl (Nat.le_of_ble_eq_true rfl) (hJ _ _ _ _ (by decide)) (xm_le ml_11 rfl) rfl ?_
    refine xi_iload_n (pc' := 1) (x := a9) kc_11_0 rfl rfl ?_
    refine xi_iload_n (pc' := 2) (x := 0) kc_11_1 rfl rfl ?_
    refine xi_cmt (pc' := 14) kc_11_2 rfl (xc_lt_t (X := a9.toInt) (Y := 0) rfl (by decide) (by omega)) ?_
    refine xi_iconst (pc' := 15) (v := 0) kc_11_14 rfl rfl ?_
    refine xi_ireturn kc_11_15 mr_11 rfl ?_
    show xw J ov 98 10 (6, [(0, .int a9)], [.int 0], hh40) _
    refine xi_ireturn kc_10_6 mr_10 rfl ?_
    show xw J ov 99 15 (9, [(0, .ref 115), (1, .int a9), (2, .int a11), (3, .int a13)], [.int 0], hh40) _
    refine xi_ift (pc' := 22) kc_15_9 rfl rfl ?_
    refine xi_aload_n (pc' := 23) (x := 115) kc_15_22 rfl rfl ?_
    refine xi_iconst (pc' := 24) (v := (-1)) kc_15_23 rfl rfl ?_
    refine xi_virtual (mj := 12) (as := [.int (-1)]) (st1 := []) (lv0 := [(0, .ref 115), (1, .int (-1))]) kc_15_24 rfl rfl rfl rfl rfl eh39.1 (Nat.le_of_ble_eq_true rfl) (hJ _ _ _ _ (by decide)) (xm_le ml_12 rfl) rfl ?_
    refine xi_aload_n (pc' := 1) (x := 115) kc_12_0 rfl rfl ?_
    refine xi_getfield (pc' := 4) (v := .ref 140) kc_12_1 rfl rfl rfl eh39.1 rfl ?_
    refine xi_iload_n (pc' := 5) (x := (-1)) kc_12_4 rfl rfl ?_
    refine xi_ineg (pc' := 6) (v := 1) kc_12_5 rfl rfl ?_
    refine xi_dup2 (pc' := 7) kc_12_6 rfl ⟨rfl, rfl⟩ ?_
    obtain ⟨y43, A43, hy43, ry43⟩ := xk_arr K.1 xD_140
    obtain ⟨v44, ev44, bv44, dv44⟩ := xj_get hy43 ry43 (i := 1) (by decide) (by decide)
    have A45 := ((eh39.2.1 140 (by decide)).trans ((eh21.2.1 140 (by decide)).trans A43))
    refine xi_iaload (pc' := 8) (v := v44) kc_12_7 rfl A45 (by decide) rfl (xi_in (by decide) (by rw [hy43]; decide)) ev44 ?_
    refine xi_iconst (pc' := 9) (v := 1) kc_12_8 rfl rfl ?_
    obtain ⟨v46, ev46⟩ : ∃ q : Int32, (v44 : Int32) + 1 = q := ⟨_, rfl⟩
    have rv46 := xc_rng v46
    refine xi_iadd (pc' := 10) (v := v46) kc_12_9 rfl ev46 ?_
    obtain ⟨y47, s47, hy47, ry47⟩ := xj_set (v := v46) hy43 ry43 1 (by first | omega | decide) (by first | omega | decide)
    refine xi_iastore (pc' := 11) (x' := y47) kc_12_10 rfl A45 rfl (xi_in (by decide) (by rw [hy43]; decide)) s47 (fun hh47 eh47 => ?_)
    have K48 := xk_pa K41 (xk_wa (by decide +kernel)) xD_140 hy47 ry47 eh47
    have KR49 := xk_pa KR42 (xk_wa (by decide +kernel)) xD_140 hy47 ry47 eh47
    refine xi_iload_n (pc' := 12) (x := (-1)) kc_12_11 rfl rfl ?_
    refine xi_ireturn kc_12_12 mr_12 rfl ?_
    show xw J ov 99 15 (27, [(0, .ref 115), (1, .int a9), (2, .int a11), (3, .int a13)], [.int (-1)], hh47) _
    refine xi_ireturn kc_15_27 mr_15 rfl ?_
    show xw J ov 100 195 (286, [(4, .int x4), (3, .ref 167), (2, .ref 115), (1, .ref 0), (0, .ref 1000000)], [.int (-1)], hh47) _
    refine xi_pop (pc' := 287) kc_195_286 rfl rfl ?_
    refine xi_goto (pc' := 1501) kc_195_287 rfl ?_
    obtain ⟨v50, ev50⟩ : ∃ q : Int32, x4 + 6 = q := ⟨_, rfl⟩
    have zv50 : v50.toInt = (x4.toInt + 6) := by rw [← ev50]; exact (xz_add (X := x4.toInt) (Y := 6) rfl (by decide) (by omega) (by omega)).trans (by omega)
    refine xi_iinc (pc' := 1504) (x := x4) (v := v50) (lv' := [(4, .int v50), (3, .ref 167), (2, .ref 115), (1, .ref 0), (0, .ref 1000000)]) kc_195_1501 rfl rfl ev50 rfl (xm_lt ml_195 rfl) ?_
    refine xi_goto (pc' := 23) kc_195_1504 rfl ?_
    exact kk v50 hh47 (by omega) K48 (xI_kept I KR49.2.1)
  · refine xi_iff (pc' := 4) kc_89_1 rfl (xc_lt_f (X := a9.toInt) (Y := 0) rfl (by decide) (by omega)) ?_
    refine xi_iload_n (pc' := 5) (x := a9) kc_89_4 rfl rfl ?_
    refine xi_bipush (pc' := 7) (v := 6) kc_89_5 rfl rfl ?_
    by_cases c51 : 6 ≤ a9.toInt
    · refine xi_cmt (pc' := 14) kc_89_7 rfl (xc_ge_t (X := a9.toInt) (Y := 6) rfl (by decide) (by omega)) ?_
      refine xi_iconst (pc' := 15) (v := 0) kc_89_14 rfl rfl ?_
      refine xi_ireturn kc_89_15 mr_89 rfl ?_
      show xw J ov 99 94 (4, [(0, .ref 0), (1, .int a9), (2, .int a11), (3, .int a13)], [.int 0], h) _
      refine xi_ift (pc' := 17) kc_94_4 rfl rfl ?_
      refine xi_aload_n (pc' := 18) (x := 0) kc_94_17 rfl rfl ?_
      refine xi_iconst (pc' := 19) (v := (-1)) kc_94_18 rfl rfl ?_
      refine xi_virtual (mj := 90) (as := [.int (-1)]) (st1 := []) (lv0 := [(0, .ref 0), (1, .int (-1))]) kc_94_19 rfl rfl rfl rfl rfl A16 (Nat.le_of_ble_eq_true rfl) (hJ _ _ _ _ (by decide)) (xm_le ml_90 rfl) rfl ?_
      refine xi_iload_n (pc' := 1) (x := (-1)) kc_90_0 rfl rfl ?_
      refine xi_ineg (pc' := 2) (v := 1) kc_90_1 rfl rfl ?_
      refine xi_istore_n (pc' := 3) (lv' := [(2, .int 1), (0, .ref 0), (1, .int (-1))]) kc_90_2 rfl rfl (xm_lt ml_90 rfl) ?_
      refine xi_iload_n (pc' := 4) (x := 1) kc_90_3 rfl rfl ?_
      refine xi_iff (pc' := 7) kc_90_4 rfl rfl ?_
      refine xi_iload_n (pc' := 8) (x := 1) kc_90_7 rfl rfl ?_
      refine xi_aload_n (pc' := 9) (x := 0) kc_90_8 rfl rfl ?_
      refine xi_getfield (pc' := 12) (v := .ref 94) kc_90_9 rfl rfl rfl A16 rfl ?_
      obtain ⟨y52, A52, hy52, ry52⟩ := xk_arr K.1 xD_94
      refine xi_arraylength (pc' := 13) (n := 7) (v := 7) kc_90_12 rfl (xl_lenI (by decide) (by decide) A52 hy52) rfl ?_
      refine xi_cmf (pc' := 16) kc_90_13 rfl rfl ?_
      refine xi_aload_n (pc' := 17) (x := 0) kc_90_16 rfl rfl ?_
      refine xi_getfield (pc' := 20) (v := .ref 94) kc_90_17 rfl rfl rfl A16 rfl ?_
      refine xi_iload_n (pc' := 21) (x := 1) kc_90_20 rfl rfl ?_
      refine xi_dup2 (pc' := 22) kc_90_21 rfl ⟨rfl, rfl⟩ ?_
      obtain ⟨v53, ev53, bv53, dv53⟩ := xj_get hy52 ry52 (i := 1) (by decide) (by decide)
      refine xi_iaload (pc' := 23) (v := v53) kc_90_22 rfl A52 (by decide) rfl (xi_in (by decide) (by rw [hy52]; decide)) ev53 ?_
      refine xi_iconst (pc' := 24) (v := 1) kc_90_23 rfl rfl ?_
      obtain ⟨v54, ev54⟩ : ∃ q : Int32, (v53 : Int32) + 1 = q := ⟨_, rfl⟩
      have rv54 := xc_rng v54
      refine xi_iadd (pc' := 25) (v := v54) kc_90_24 rfl ev54 ?_
      obtain ⟨y55, s55, hy55, ry55⟩ := xj_set (v := v54) hy52 ry52 1 (by first | omega | decide) (by first | omega | decide)
      refine xi_iastore (pc' := 26) (x' := y55) kc_90_25 rfl A52 rfl (xi_in (by decide) (by rw [hy52]; decide)) s55 (fun hh55 eh55 => ?_)
      have K56 := xk_pa K (xk_wa (by decide +kernel)) xD_94 hy55 ry55 eh55
      have KR57 := xk_pa KR (xk_wa (by decide +kernel)) xD_94 hy55 ry55 eh55
      refine xi_iload_n (pc' := 27) (x := (-1)) kc_90_26 rfl rfl ?_
      refine xi_ireturn kc_90_27 mr_90 rfl ?_
      show xw J ov 99 94 (22, [(0, .ref 0), (1, .int a9), (2, .int a11), (3, .int a13)], [.int (-1)], hh55) _
      refine xi_ireturn kc_94_22 mr_94 rfl ?_
      show xw J ov 100 195 (263, [(4, .int x4), (3, .ref 167), (2, .ref 115), (1, .ref 0), (0, .ref 1000000)], [.int (-1)], hh55) _
      refine xi_pop (pc' := 264) kc_195_263 rfl rfl ?_
      refine xi_aload_n (pc' := 265) (x := 115) kc_195_264 rfl rfl ?_
      refine xi_aload_n (pc' := 266) (x := 1000000) kc_195_265 rfl rfl ?_
      refine xi_iload (pc' := 268) (x := x4) kc_195_266 rfl rfl ?_
      refine xi_iconst (pc' := 269) (v := 1) kc_195_268 rfl rfl ?_
      refine xi_iadd (pc' := 270) (v := v8) kc_195_269 rfl ev8 ?_
      refine xi_ialoadO (pc' := 271) (v := a9) kc_195_270 rfl (by decide) hov0 (xi_in (by omega) (by omega)) ea9 ?_
      refine xi_aload_n (pc' := 272) (x := 1000000) kc_195_271 rfl rfl ?_
      refine xi_iload (pc' := 274) (x := x4) kc_195_272 rfl rfl ?_
      refine xi_iconst (pc' := 275) (v := 2) kc_195_274 rfl rfl ?_
      refine xi_iadd (pc' := 276) (v := v10) kc_195_275 rfl ev10 ?_
      refine xi_ialoadO (pc' := 277) (v := a11) kc_195_276 rfl (by decide) hov0 (xi_in (by omega) (by omega)) ea11 ?_
      refine xi_aload_n (pc' := 278) (x := 1000000) kc_195_277 rfl rfl ?_
      refine xi_iload (pc' := 280) (x := x4) kc_195_278 rfl rfl ?_
      refine xi_iconst (pc' := 281) (v := 3) kc_195_280 rfl rfl ?_
      refine xi_iadd (pc' := 282) (v := v12) kc_195_281 rfl ev12 ?_
      refine xi_ialoadO (pc' := 283) (v := a13) kc_195_282 rfl (by decide) hov0 (xi_in (by omega) (by omega)) ea13 ?_
      obtain ⟨u58, u59, u60, u61, u62, u63, u64, u65, u66, u67, u68, u69, u70, bu58, bu59, bu60, bu61, bu62, bu63, bu64, bu65, bu66, bu67, bu68, bu69, bu70, A71⟩ := xq_115 K.1
      have A72 := ((eh55.2.1 115 (by decide)).trans A71)
      refine xi_virtual (mj := 15) (as := [.int a9, .int a11, .int a13]) (st1 := []) (lv0 := [(0, .ref 115), (1, .int a9), (2, .int a11), (3, .int a13)]) kc_195_283 rfl rfl rfl rfl rfl A72 (Nat.le_of_ble_eq_true rfl) (hJ _ _ _ _ (by decide)) (xm_le ml_15 rfl) rfl ?_
      refine xi_aload_n (pc' := 1) (x := 115) kc_15_0 rfl rfl ?_
      refine xi_iconst (pc' := 2) (v := 0) kc_15_1 rfl rfl ?_
      refine xi_putfield (pc' := 5) (fs' := [.int 0, .int u59, .ref 116, .ref 117, .ref 118, .ref 119, .ref 120, .ref 121, .ref 122, .ref 123, .ref 124, .ref 125, .ref 126, .ref 127, .ref 128, .ref 129, .int u60, .ref 130, .int u61, .ref 131, .ref 132, .ref 133, .ref 134, .int u62, .ref 135, .ref 136, .ref 137, .ref 138, .ref 139, .ref 140, .ref 141, .ref 142, .int u63, .int u64, .int u65, .ref 143, .ref 144, .ref 145, .ref 146, .ref 147, .ref 148, .int u66, .ref 149, .ref 150, .ref 151, .int u67, .ref 152, .ref 153, .ref 154, .ref 155, .ref 156, .ref 157, .ref 158, .ref 159, .int u68, .ref 160, .int u69, .ref 161, .ref 162, .ref 163, .ref 164, .int u70, .ref 165, .ref 166]) kc_15_2 rfl rfl rfl A72 rfl rfl rfl (Nat.le_of_ble_eq_true rfl) rfl (fun hh74 eh73 => ?_)
      have K75 := xk_pf (k := 0) (v := 0) K56 (xk_wf (by decide +kernel)) xD_115 A72 rfl (by first | omega | decide) (by first | omega | decide) eh73 rfl
      have KR76 := xk_pf (k := 0) (v := 0) KR57 (xk_wf (by decide +kernel)) xD_115 A72 rfl (by first | omega | decide) (by first | omega | decide) eh73 rfl
      refine xi_iload_n (pc' := 6) (x := a9) kc_15_5 rfl rfl ?_
      refine xi_static (mj := 10) (as := [.int a9]) (st1 := []) (lv0 := [(0, .int a9)]) kc_15_6 rfl rfl (Nat.le_of_ble_eq_true rfl) rfl rfl (Nat.le_of_ble_eq_true rfl) (hJ _ _ _ _ (by decide)) (xm_le ml_10 rfl) rfl ?_
      refine xi_iload_n (pc' := 1) (x := a9) kc_10_0 rfl rfl ?_
      refine xi_iconst (pc' := 2) (v := 0) kc_10_1 rfl rfl ?_
      refine xi_iconst (pc' := 3) (v := 5) kc_10_2 rfl rfl ?_
      refine xi_static (mj := 11) (as := [.int a9, .int 0, .int 5]) (st1 := []) (lv0 := [(0, .int a9), (1, .int 0), (2, .int 5)]) kc_10_3 rfl rfl (Nat.le_of_ble_eq_true rfl) rfl rfl (Nat.le_of_ble_eq_true rfl) (hJ _ _ _ _ (by decide)) (xm_le ml_11 rfl) rfl ?_
      refine xi_iload_n (pc' := 1) (x := a9) kc_11_0 rfl rfl ?_
      refine xi_iload_n (pc' := 2) (x := 0) kc_11_1 rfl rfl ?_
      refine xi_cmf (pc' := 5) kc_11_2 rfl (xc_lt_f (X := a9.toInt) (Y := 0) rfl (by decide) (by omega)) ?_
      refine xi_iload_n (pc' := 6) (x := a9) kc_11_5 rfl rfl ?_
      refine xi_iload_n (pc' := 7) (x := 5) kc_11_6 rfl rfl ?_
      refine xi_cmt (pc' := 14) kc_11_7 rfl (xc_gt_t (X := a9.toInt) (Y := 5) rfl (by decide) (by omega)) ?_
      refine xi_iconst (pc' := 15) (v := 0) kc_11_14 rfl rfl ?_
      refine xi_ireturn kc_11_15 mr_11 rfl ?_
      show xw J ov 98 10 (6, [(0, .int a9)], [.int 0], hh74) _
      refine xi_ireturn kc_10_6 mr_10 rfl ?_
      show xw J ov 99 15 (9, [(0, .ref 115), (1, .int a9), (2, .int a11), (3, .int a13)], [.int 0], hh74) _
      refine xi_ift (pc' := 22) kc_15_9 rfl rfl ?_
      refine xi_aload_n (pc' := 23) (x := 115) kc_15_22 rfl rfl ?_
      refine xi_iconst (pc' := 24) (v := (-1)) kc_15_23 rfl rfl ?_
      refine xi_virtual (mj := 12) (as := [.int (-1)]) (st1 := []) (lv0 := [(0, .ref 115), (1, .int (-1))]) kc_15_24 rfl rfl rfl rfl rfl eh73.1 (Nat.le_of_ble_eq_true rfl) (hJ _ _ _ _ (by decide)) (xm_le ml_12 rfl) rfl ?_
      refine xi_aload_n (pc' := 1) (x := 115) kc_12_0 rfl rfl ?_
      refine xi_getfield (pc' := 4) (v := .ref 140) kc_12_1 rfl rfl rfl eh73.1 rfl ?_
      refine xi_iload_n (pc' := 5) (x := (-1)) kc_12_4 rfl rfl ?_
      refine xi_ineg (pc' := 6) (v := 1) kc_12_5 rfl rfl ?_
      refine xi_dup2 (pc' := 7) kc_12_6 rfl ⟨rfl, rfl⟩ ?_
      obtain ⟨y77, A77, hy77, ry77⟩ := xk_arr K.1 xD_140
      obtain ⟨v78, ev78, bv78, dv78⟩ := xj_get hy77 ry77 (i := 1) (by decide) (by decide)
      have A79 := ((eh73.2.1 140 (by decide)).trans ((eh55.2.1 140 (by decide)).trans A77))
      refine xi_iaload (pc' := 8) (v := v78) kc_12_7 rfl A79 (by decide) rfl (xi_in (by decide) (by rw [hy77]; decide)) ev78 ?_
      refine xi_iconst (pc' := 9) (v := 1) kc_12_8 rfl rfl ?_
      obtain ⟨v80, ev80⟩ : ∃ q : Int32, (v78 : Int32) + 1 = q := ⟨_, rfl⟩
      have rv80 := xc_rng v80
      refine xi_iadd (pc' := 10) (v := v80) kc_12_9 rfl ev80 ?_
      obtain ⟨y81, s81, hy81, ry81⟩ := xj_set (v := v80) hy77 ry77 1 (by first | omega | decide) (by first | omega | decide)
      refine xi_iastore (pc' := 11) (x' := y81) kc_12_10 rfl A79 rfl (xi_in (by decide) (by rw [hy77]; decide)) s81 (fun hh81 eh81 => ?_)
      have K82 := xk_pa K75 (xk_wa (by decide +kernel)) xD_140 hy81 ry81 eh81
      have KR83 := xk_pa KR76 (xk_wa (by decide +kernel)) xD_140 hy81 ry81 eh81
      refine xi_iload_n (pc' := 12) (x := (-1)) kc_12_11 rfl rfl ?_
      refine xi_ireturn kc_12_12 mr_12 rfl ?_
      show xw J ov 99 15 (27, [(0, .ref 115), (1, .int a9), (2, .int a11), (3, .int a13)], [.int (-1)], hh81) _
      refine xi_ireturn kc_15_27 mr_15 rfl ?_
      show xw J ov 100 195 (286, [(4, .int x4), (3, .ref 167), (2, .ref 115), (1, .ref 0), (0, .ref 1000000)], [.int (-1)], hh81) _
      refine xi_pop (pc' := 287) kc_195_286 rfl rfl ?_
      refine xi_goto (pc' := 1501) kc_195_287 rfl ?_
      obtain ⟨v84, ev84⟩ : ∃ q : Int32, x4 + 6 = q := ⟨_, rfl⟩
      have zv84 : v84.toInt = (x4.toInt + 6) := by rw [← ev84]; exact (xz_add (X := x4.toInt) (Y := 6) rfl (by decide) (by omega) (by omega)).trans (by omega)
      refine xi_iinc (pc' := 1504) (x := x4) (v := v84) (lv' := [(4, .int v84), (3, .ref 167), (2, .ref 115), (1, .ref 0), (0, .ref 1000000)]) kc_195_1501 rfl rfl ev84 rfl (xm_lt ml_195 rfl) ?_
      refine xi_goto (pc' := 23) kc_195_1504 rfl ?_
      exact kk v84 hh81 (by omega) K82 (xI_kept I KR83.2.1)
    · refine xi_cmf (pc' := 10) kc_89_7 rfl (xc_ge_f (X := a9.toInt) (Y := 6) rfl (by decide) (by omega)) ?_
      refine xi_iconst (pc' := 11) (v := 1) kc_89_10 rfl rfl ?_
      refine xi_goto (pc' := 15) kc_89_11 rfl ?_
      refine xi_ireturn kc_89_15 mr_89 rfl ?_
      show xw J ov 99 94 (4, [(0, .ref 0), (1, .int a9), (2, .int a11), (3, .int a13)], [.int 1], h) _
      refine xi_iff (pc' := 7) kc_94_4 rfl rfl ?_
      refine xi_iload_n (pc' := 8) (x := a11) kc_94_7 rfl rfl ?_
      by_cases c85 : a11.toInt < 0
      · refine xi_ift (pc' := 17) kc_94_8 rfl (xc_lt_t (X := a11.toInt) (Y := 0) rfl (by decide) (by omega)) ?_
        refine xi_aload_n (pc' := 18) (x := 0) kc_94_17 rfl rfl ?_
        refine xi_iconst (pc' := 19) (v := (-1)) kc_94_18 rfl rfl ?_
        refine xi_virtual (mj := 90) (as := [.int (-1)]) (st1 := []) (lv0 := [(0, .ref 0), (1, .int (-1))]) kc_94_19 rfl rfl rfl rfl rfl A16 (Nat.le_of_ble_eq_true rfl) (hJ _ _ _ _ (by decide)) (xm_le ml_90 rfl) rfl ?_
        refine xi_iload_n (pc' := 1) (x := (-1)) kc_90_0 rfl rfl ?_
        refine xi_ineg (pc' := 2) (v := 1) kc_90_1 rfl rfl ?_
        refine xi_istore_n (pc' := 3) (lv' := [(2, .int 1), (0, .ref 0), (1, .int (-1))]) kc_90_2 rfl rfl (xm_lt ml_90 rfl) ?_
        refine xi_iload_n (pc' := 4) (x := 1) kc_90_3 rfl rfl ?_
        refine xi_iff (pc' := 7) kc_90_4 rfl rfl ?_
        refine xi_iload_n (pc' := 8) (x := 1) kc_90_7 rfl rfl ?_
        refine xi_aload_n (pc' := 9) (x := 0) kc_90_8 rfl rfl ?_
        refine xi_getfield (pc' := 12) (v := .ref 94) kc_90_9 rfl rfl rfl A16 rfl ?_
        obtain ⟨y86, A86, hy86, ry86⟩ := xk_arr K.1 xD_94
        refine xi_arraylength (pc' := 13) (n := 7) (v := 7) kc_90_12 rfl (xl_lenI (by decide) (by decide) A86 hy86) rfl ?_
        refine xi_cmf (pc' := 16) kc_90_13 rfl rfl ?_
        refine xi_aload_n (pc' := 17) (x := 0) kc_90_16 rfl rfl ?_
        refine xi_getfield (pc' := 20) (v := .ref 94) kc_90_17 rfl rfl rfl A16 rfl ?_
        refine xi_iload_n (pc' := 21) (x := 1) kc_90_20 rfl rfl ?_
        refine xi_dup2 (pc' := 22) kc_90_21 rfl ⟨rfl, rfl⟩ ?_
        obtain ⟨v87, ev87, bv87, dv87⟩ := xj_get hy86 ry86 (i := 1) (by decide) (by decide)
        refine xi_iaload (pc' := 23) (v := v87) kc_90_22 rfl A86 (by decide) rfl (xi_in (by decide) (by rw [hy86]; decide)) ev87 ?_
        refine xi_iconst (pc' := 24) (v := 1) kc_90_23 rfl rfl ?_
        obtain ⟨v88, ev88⟩ : ∃ q : Int32, (v87 : Int32) + 1 = q := ⟨_, rfl⟩
        have rv88 := xc_rng v88
        refine xi_iadd (pc' := 25) (v := v88) kc_90_24 rfl ev88 ?_
        obtain ⟨y89, s89, hy89, ry89⟩ := xj_set (v := v88) hy86 ry86 1 (by first | omega | decide) (by first | omega | decide)
        refine xi_iastore (pc' := 26) (x' := y89) kc_90_25 rfl A86 rfl (xi_in (by decide) (by rw [hy86]; decide)) s89 (fun hh89 eh89 => ?_)
        have K90 := xk_pa K (xk_wa (by decide +kernel)) xD_94 hy89 ry89 eh89
        have KR91 := xk_pa KR (xk_wa (by decide +kernel)) xD_94 hy89 ry89 eh89
        refine xi_iload_n (pc' := 27) (x := (-1)) kc_90_26 rfl rfl ?_
        refine xi_ireturn kc_90_27 mr_90 rfl ?_
        show xw J ov 99 94 (22, [(0, .ref 0), (1, .int a9), (2, .int a11), (3, .int a13)], [.int (-1)], hh89) _
        refine xi_ireturn kc_94_22 mr_94 rfl ?_
        show xw J ov 100 195 (263, [(4, .int x4), (3, .ref 167), (2, .ref 115), (1, .ref 0), (0, .ref 1000000)], [.int (-1)], hh89) _
        refine xi_pop (pc' := 264) kc_195_263 rfl rfl ?_
        refine xi_aload_n (pc' := 265) (x := 115) kc_195_264 rfl rfl ?_
        refine xi_aload_n (pc' := 266) (x := 1000000) kc_195_265 rfl rfl ?_
        refine xi_iload (pc' := 268) (x := x4) kc_195_266 rfl rfl ?_
        refine xi_iconst (pc' := 269) (v := 1) kc_195_268 rfl rfl ?_
        refine xi_iadd (pc' := 270) (v := v8) kc_195_269 rfl ev8 ?_
        refine xi_ialoadO (pc' := 271) (v := a9) kc_195_270 rfl (by decide) hov0 (xi_in (by omega) (by omega)) ea9 ?_
        refine xi_aload_n (pc' := 272) (x := 1000000) kc_195_271 rfl rfl ?_
        refine xi_iload (pc' := 274) (x := x4) kc_195_272 rfl rfl ?_
        refine xi_iconst (pc' := 275) (v := 2) kc_195_274 rfl rfl ?_
        refine xi_iadd (pc' := 276) (v := v10) kc_195_275 rfl ev10 ?_
        refine xi_ialoadO (pc' := 277) (v := a11) kc_195_276 rfl (by decide) hov0 (xi_in (by omega) (by omega)) ea11 ?_
        refine xi_aload_n (pc' := 278) (x := 1000000) kc_195_277 rfl rfl ?_
        refine xi_iload (pc' := 280) (x := x4) kc_195_278 rfl rfl ?_
        refine xi_iconst (pc' := 281) (v := 3) kc_195_280 rfl rfl ?_
        refine xi_iadd (pc' := 282) (v := v12) kc_195_281 rfl ev12 ?_
        refine xi_ialoadO (pc' := 283) (v := a13) kc_195_282 rfl (by decide) hov0 (xi_in (by omega) (by omega)) ea13 ?_
        obtain ⟨u92, u93, u94, u95, u96, u97, u98, u99, u100, u101, u102, u103, u104, bu92, bu93, bu94, bu95, bu96, bu97, bu98, bu99, bu100, bu101, bu102, bu103, bu104, A105⟩ := xq_115 K.1
        have A106 := ((eh89.2.1 115 (by decide)).trans A105)
        refine xi_virtual (mj := 15) (as := [.int a9, .int a11, .int a13]) (st1 := []) (lv0 := [(0, .ref 115), (1, .int a9), (2, .int a11), (3, .int a13)]) kc_195_283 rfl rfl rfl rfl rfl A106 (Nat.le_of_ble_eq_true rfl) (hJ _ _ _ _ (by decide)) (xm_le ml_15 rfl) rfl ?_
        refine xi_aload_n (pc' := 1) (x := 115) kc_15_0 rfl rfl ?_
        refine xi_iconst (pc' := 2) (v := 0) kc_15_1 rfl rfl ?_
        refine xi_putfield (pc' := 5) (fs' := [.int 0, .int u93, .ref 116, .ref 117, .ref 118, .ref 119, .ref 120, .ref 121, .ref 122, .ref 123, .ref 124, .ref 125, .ref 126, .ref 127, .ref 128, .ref 129, .int u94, .ref 130, .int u95, .ref 131, .ref 132, .ref 133, .ref 134, .int u96, .ref 135, .ref 136, .ref 137, .ref 138, .ref 139, .ref 140, .ref 141, .ref 142, .int u97, .int u98, .int u99, .ref 143, .ref 144, .ref 145, .ref 146, .ref 147, .ref 148, .int u100, .ref 149, .ref 150, .ref 151, .int u101, .ref 152, .ref 153, .ref 154, .ref 155, .ref 156, .ref 157, .ref 158, .ref 159, .int u102, .ref 160, .int u103, .ref 161, .ref 162, .ref 163, .ref 164, .int u104, .ref 165, .ref 166]) kc_15_2 rfl rfl rfl A106 rfl rfl rfl (Nat.le_of_ble_eq_true rfl) rfl (fun hh108 eh107 => ?_)
        have K109 := xk_pf (k := 0) (v := 0) K90 (xk_wf (by decide +kernel)) xD_115 A106 rfl (by first | omega | decide) (by first | omega | decide) eh107 rfl
        have KR110 := xk_pf (k := 0) (v := 0) KR91 (xk_wf (by decide +kernel)) xD_115 A106 rfl (by first | omega | decide) (by first | omega | decide) eh107 rfl
        refine xi_iload_n (pc' := 6) (x := a9) kc_15_5 rfl rfl ?_
        refine xi_static (mj := 10) (as := [.int a9]) (st1 := []) (lv0 := [(0, .int a9)]) kc_15_6 rfl rfl (Nat.le_of_ble_eq_true rfl) rfl rfl (Nat.le_of_ble_eq_true rfl) (hJ _ _ _ _ (by decide)) (xm_le ml_10 rfl) rfl ?_
        refine xi_iload_n (pc' := 1) (x := a9) kc_10_0 rfl rfl ?_
        refine xi_iconst (pc' := 2) (v := 0) kc_10_1 rfl rfl ?_
        refine xi_iconst (pc' := 3) (v := 5) kc_10_2 rfl rfl ?_
        refine xi_static (mj := 11) (as := [.int a9, .int 0, .int 5]) (st1 := []) (lv0 := [(0, .int a9), (1, .int 0), (2, .int 5)]) kc_10_3 rfl rfl (Nat.le_of_ble_eq_true rfl) rfl rfl (Nat.le_of_ble_eq_true rfl) (hJ _ _ _ _ (by decide)) (xm_le ml_11 rfl) rfl ?_
        refine xi_iload_n (pc' := 1) (x := a9) kc_11_0 rfl rfl ?_
        refine xi_iload_n (pc' := 2) (x := 0) kc_11_1 rfl rfl ?_
        refine xi_cmf (pc' := 5) kc_11_2 rfl (xc_lt_f (X := a9.toInt) (Y := 0) rfl (by decide) (by omega)) ?_
        refine xi_iload_n (pc' := 6) (x := a9) kc_11_5 rfl rfl ?_
        refine xi_iload_n (pc' := 7) (x := 5) kc_11_6 rfl rfl ?_
        refine xi_cmf (pc' := 10) kc_11_7 rfl (xc_gt_f (X := a9.toInt) (Y := 5) rfl (by decide) (by omega)) ?_
        refine xi_iconst (pc' := 11) (v := 1) kc_11_10 rfl rfl ?_
        refine xi_goto (pc' := 15) kc_11_11 rfl ?_
        refine xi_ireturn kc_11_15 mr_11 rfl ?_
        show xw J ov 98 10 (6, [(0, .int a9)], [.int 1], hh108) _
        refine xi_ireturn kc_10_6 mr_10 rfl ?_
        show xw J ov 99 15 (9, [(0, .ref 115), (1, .int a9), (2, .int a11), (3, .int a13)], [.int 1], hh108) _
        refine xi_iff (pc' := 12) kc_15_9 rfl rfl ?_
        refine xi_iload_n (pc' := 13) (x := a11) kc_15_12 rfl rfl ?_
        refine xi_iconst (pc' := 14) (v := 0) kc_15_13 rfl rfl ?_
        refine xi_bipush (pc' := 16) (v := 23) kc_15_14 rfl rfl ?_
        refine xi_static (mj := 11) (as := [.int a11, .int 0, .int 23]) (st1 := []) (lv0 := [(0, .int a11), (1, .int 0), (2, .int 23)]) kc_15_16 rfl rfl (Nat.le_of_ble_eq_true rfl) rfl rfl (Nat.le_of_ble_eq_true rfl) (hJ _ _ _ _ (by decide)) (xm_le ml_11 rfl) rfl ?_
        refine xi_iload_n (pc' := 1) (x := a11) kc_11_0 rfl rfl ?_
        refine xi_iload_n (pc' := 2) (x := 0) kc_11_1 rfl rfl ?_
        refine xi_cmt (pc' := 14) kc_11_2 rfl (xc_lt_t (X := a11.toInt) (Y := 0) rfl (by decide) (by omega)) ?_
        refine xi_iconst (pc' := 15) (v := 0) kc_11_14 rfl rfl ?_
        refine xi_ireturn kc_11_15 mr_11 rfl ?_
        show xw J ov 99 15 (19, [(0, .ref 115), (1, .int a9), (2, .int a11), (3, .int a13)], [.int 0], hh108) _
        refine xi_iff (pc' := 22) kc_15_19 rfl rfl ?_
        refine xi_aload_n (pc' := 23) (x := 115) kc_15_22 rfl rfl ?_
        refine xi_iconst (pc' := 24) (v := (-1)) kc_15_23 rfl rfl ?_
        refine xi_virtual (mj := 12) (as := [.int (-1)]) (st1 := []) (lv0 := [(0, .ref 115), (1, .int (-1))]) kc_15_24 rfl rfl rfl rfl rfl eh107.1 (Nat.le_of_ble_eq_true rfl) (hJ _ _ _ _ (by decide)) (xm_le ml_12 rfl) rfl ?_
        refine xi_aload_n (pc' := 1) (x := 115) kc_12_0 rfl rfl ?_
        refine xi_getfield (pc' := 4) (v := .ref 140) kc_12_1 rfl rfl rfl eh107.1 rfl ?_
        refine xi_iload_n (pc' := 5) (x := (-1)) kc_12_4 rfl rfl ?_
        refine xi_ineg (pc' := 6) (v := 1) kc_12_5 rfl rfl ?_
        refine xi_dup2 (pc' := 7) kc_12_6 rfl ⟨rfl, rfl⟩ ?_
        obtain ⟨y111, A111, hy111, ry111⟩ := xk_arr K.1 xD_140
        obtain ⟨v112, ev112, bv112, dv112⟩ := xj_get hy111 ry111 (i := 1) (by decide) (by decide)
        have A113 := ((eh107.2.1 140 (by decide)).trans ((eh89.2.1 140 (by decide)).trans A111))
        refine xi_iaload (pc' := 8) (v := v112) kc_12_7 rfl A113 (by decide) rfl (xi_in (by decide) (by rw [hy111]; decide)) ev112 ?_
        refine xi_iconst (pc' := 9) (v := 1) kc_12_8 rfl rfl ?_
        obtain ⟨v114, ev114⟩ : ∃ q : Int32, (v112 : Int32) + 1 = q := ⟨_, rfl⟩
        have rv114 := xc_rng v114
        refine xi_iadd (pc' := 10) (v := v114) kc_12_9 rfl ev114 ?_
        obtain ⟨y115, s115, hy115, ry115⟩ := xj_set (v := v114) hy111 ry111 1 (by first | omega | decide) (by first | omega | decide)
        refine xi_iastore (pc' := 11) (x' := y115) kc_12_10 rfl A113 rfl (xi_in (by decide) (by rw [hy111]; decide)) s115 (fun hh115 eh115 => ?_)
        have K116 := xk_pa K109 (xk_wa (by decide +kernel)) xD_140 hy115 ry115 eh115
        have KR117 := xk_pa KR110 (xk_wa (by decide +kernel)) xD_140 hy115 ry115 eh115
        refine xi_iload_n (pc' := 12) (x := (-1)) kc_12_11 rfl rfl ?_
        refine xi_ireturn kc_12_12 mr_12 rfl ?_
        show xw J ov 99 15 (27, [(0, .ref 115), (1, .int a9), (2, .int a11), (3, .int a13)], [.int (-1)], hh115) _
        refine xi_ireturn kc_15_27 mr_15 rfl ?_
        show xw J ov 100 195 (286, [(4, .int x4), (3, .ref 167), (2, .ref 115), (1, .ref 0), (0, .ref 1000000)], [.int (-1)], hh115) _
        refine xi_pop (pc' := 287) kc_195_286 rfl rfl ?_
        refine xi_goto (pc' := 1501) kc_195_287 rfl ?_
        obtain ⟨v118, ev118⟩ : ∃ q : Int32, x4 + 6 = q := ⟨_, rfl⟩
        have zv118 : v118.toInt = (x4.toInt + 6) := by rw [← ev118]; exact (xz_add (X := x4.toInt) (Y := 6) rfl (by decide) (by omega) (by omega)).trans (by omega)
        refine xi_iinc (pc' := 1504) (x := x4) (v := v118) (lv' := [(4, .int v118), (3, .ref 167), (2, .ref 115), (1, .ref 0), (0, .ref 1000000)]) kc_195_1501 rfl rfl ev118 rfl (xm_lt ml_195 rfl) ?_
        refine xi_goto (pc' := 23) kc_195_1504 rfl ?_
        exact kk v118 hh115 (by omega) K116 (xI_kept I KR117.2.1)
      · refine xi_iff (pc' := 11) kc_94_8 rfl (xc_lt_f (X := a11.toInt) (Y := 0) rfl (by decide) (by omega)) ?_
        refine xi_iload_n (pc' := 12) (x := a11) kc_94_11 rfl rfl ?_
        refine xi_bipush (pc' := 14) (v := 24) kc_94_12 rfl rfl ?_
        by_cases c119 : a11.toInt < 24
        · refine xi_cmt (pc' := 23) kc_94_14 rfl (xc_lt_t (X := a11.toInt) (Y := 24) rfl (by decide) (by omega)) ?_
          refine xi_iload_n (pc' := 24) (x := a13) kc_94_23 rfl rfl ?_
          by_cases c120 : 0 ≤ a13.toInt
          · refine xi_ift (pc' := 34) kc_94_24 rfl (xc_ge_t (X := a13.toInt) (Y := 0) rfl (by decide) (by omega)) ?_
            refine xi_iload_n (pc' := 35) (x := a13) kc_94_34 rfl rfl ?_
            refine xi_sipush (pc' := 38) (v := 999) kc_94_35 rfl rfl ?_
            by_cases c121 : a13.toInt ≤ 999
            · refine xi_cmt (pc' := 48) kc_94_38 rfl (xc_le_t (X := a13.toInt) (Y := 999) rfl (by decide) (by omega)) ?_
              refine xi_aload_n (pc' := 49) (x := 0) kc_94_48 rfl rfl ?_
              refine xi_getfield (pc' := 52) (v := .ref 66) kc_94_49 rfl rfl rfl A16 rfl ?_
              obtain ⟨u123, wl122, bu123, A124⟩ := xq_66 K.1
              refine xi_virtual (mj := 91) (as := []) (st1 := []) (lv0 := [(0, .ref 66)]) kc_94_52 rfl rfl rfl rfl rfl A124 (Nat.le_of_ble_eq_true rfl) (hJ _ _ _ _ (by decide)) (xm_le ml_91 rfl) rfl ?_
              refine xi_aload_n (pc' := 1) (x := 66) kc_91_0 rfl rfl ?_
              refine xi_lconst (pc' := 2) (v := 0) kc_91_1 rfl rfl ?_
              refine xi_putfield (pc' := 5) (fs' := [.ref 1, .ref 67, .ref 70, .ref 71, .ref 72, .ref 73, .ref 74, .long 0, .int u123]) kc_91_2 rfl rfl rfl A124 rfl rfl rfl (Nat.le_of_ble_eq_true rfl) rfl (fun hh126 eh125 => ?_)
              have K127 := xk_pl (k := 7) (v := 0) K (xk_wf (by decide +kernel)) xD_66 A124 rfl eh125 rfl
              have KR128 := xk_pl (k := 7) (v := 0) KR (xk_wf (by decide +kernel)) xD_66 A124 rfl eh125 rfl
              refine xi_return kc_91_5 mr_91 ?_
              show xw J ov 99 94 (55, [(0, .ref 0), (1, .int a9), (2, .int a11), (3, .int a13)], [], hh126) _
              refine xi_aload_n (pc' := 56) (x := 0) kc_94_55 rfl rfl ?_
              have A129 := ((eh125.2.1 0 (by decide)).trans A16)
              refine xi_getfield (pc' := 59) (v := .ref 1) kc_94_56 rfl rfl rfl A129 rfl ?_
              obtain ⟨u130, u131, bu130, bu131, A132⟩ := xq_1 K.1
              have A133 := ((eh125.2.1 1 (by decide)).trans A132)
              refine xi_getfield (pc' := 62) (v := .ref 2) kc_94_59 rfl rfl rfl A133 rfl ?_
              refine xi_iload_n (pc' := 63) (x := a9) kc_94_62 rfl rfl ?_
              have A134 := xk_ex K.1 xD_2
              by_cases c135 : a9.toInt = 0
              · have qa9 : a9 = 0 := xc_of (Eq.trans (by omega) (show (0 : Int) = (0 : Int32).toInt by decide))
                subst qa9
                have A136 := ((eh125.2.1 2 (by decide)).trans A134)
                refine xi_aaload (pc' := 64) (b := 11) kc_94_63 rfl A136 rfl (xi_in (n := 6) (by decide) (by decide)) rfl ?_
                have A137 := xq_11 K.1
                have A138 := ((eh125.2.1 11 (by decide)).trans A137)
                refine xi_getfield (pc' := 67) (v := .ref 13) kc_94_64 rfl rfl rfl A138 rfl ?_
                refine xi_astore (pc' := 69) (lv' := [(4, .ref 13), (0, .ref 0), (1, .int 0), (2, .int a11), (3, .int a13)]) kc_94_67 rfl rfl (xm_lt ml_94 rfl) ?_
                refine xi_aload (pc' := 71) (x := 13) kc_94_69 rfl rfl ?_
                refine xi_iload_n (pc' := 72) (x := a11) kc_94_71 rfl rfl ?_
                obtain ⟨v139, ev139, bv139, dv139⟩ := xj_get hy1 ry1 (i := a11) (by omega) (by omega)
                have A140 := ((eh125.2.1 13 (by decide)).trans A1)
                refine xi_iaload (pc' := 73) (v := v139) kc_94_72 rfl A140 (by decide) rfl (xi_in (by omega) (by rw [hy1]; omega)) ev139 ?_
                refine xi_istore (pc' := 75) (lv' := [(5, .int v139), (4, .ref 13), (0, .ref 0), (1, .int 0), (2, .int a11), (3, .int a13)]) kc_94_73 rfl rfl (xm_lt ml_94 rfl) ?_
                refine xi_aload (pc' := 77) (x := 13) kc_94_75 rfl rfl ?_
                refine xi_iload_n (pc' := 78) (x := a11) kc_94_77 rfl rfl ?_
                refine xi_iload_n (pc' := 79) (x := a13) kc_94_78 rfl rfl ?_
                obtain ⟨y141, s141, hy141, ry141⟩ := xj_set (v := a13) hy1 ry1 a11 (by first | omega | decide) (by first | omega | decide)
                refine xi_iastore (pc' := 80) (x' := y141) kc_94_79 rfl A140 rfl (xi_in (by omega) (by rw [hy1]; omega)) s141 (fun hh141 eh141 => ?_)
                have K142 := xk_pa K127 (xk_wa (by decide +kernel)) xD_13 hy141 ry141 eh141
                refine xi_iload (pc' := 82) (x := v139) kc_94_80 rfl rfl ?_
                refine xi_ireturn kc_94_82 mr_94 rfl ?_
                show xw J ov 100 195 (263, [(4, .int x4), (3, .ref 167), (2, .ref 115), (1, .ref 0), (0, .ref 1000000)], [.int v139], hh141) _
                refine xi_pop (pc' := 264) kc_195_263 rfl rfl ?_
                refine xi_aload_n (pc' := 265) (x := 115) kc_195_264 rfl rfl ?_
                refine xi_aload_n (pc' := 266) (x := 1000000) kc_195_265 rfl rfl ?_
                refine xi_iload (pc' := 268) (x := x4) kc_195_266 rfl rfl ?_
                refine xi_iconst (pc' := 269) (v := 1) kc_195_268 rfl rfl ?_
                refine xi_iadd (pc' := 270) (v := v8) kc_195_269 rfl ev8 ?_
                refine xi_ialoadO (pc' := 271) (v := 0) kc_195_270 rfl (by decide) hov0 (xi_in (by omega) (by omega)) ea9 ?_
                refine xi_aload_n (pc' := 272) (x := 1000000) kc_195_271 rfl rfl ?_
                refine xi_iload (pc' := 274) (x := x4) kc_195_272 rfl rfl ?_
                refine xi_iconst (pc' := 275) (v := 2) kc_195_274 rfl rfl ?_
                refine xi_iadd (pc' := 276) (v := v10) kc_195_275 rfl ev10 ?_
                refine xi_ialoadO (pc' := 277) (v := a11) kc_195_276 rfl (by decide) hov0 (xi_in (by omega) (by omega)) ea11 ?_
                refine xi_aload_n (pc' := 278) (x := 1000000) kc_195_277 rfl rfl ?_
                refine xi_iload (pc' := 280) (x := x4) kc_195_278 rfl rfl ?_
                refine xi_iconst (pc' := 281) (v := 3) kc_195_280 rfl rfl ?_
                refine xi_iadd (pc' := 282) (v := v12) kc_195_281 rfl ev12 ?_
                refine xi_ialoadO (pc' := 283) (v := a13) kc_195_282 rfl (by decide) hov0 (xi_in (by omega) (by omega)) ea13 ?_
                obtain ⟨u143, u144, u145, u146, u147, u148, u149, u150, u151, u152, u153, u154, u155, bu143, bu144, bu145, bu146, bu147, bu148, bu149, bu150, bu151, bu152, bu153, bu154, bu155, A156⟩ := xq_115 K.1
                have A157 := ((eh141.2.1 115 (by decide)).trans ((eh125.2.1 115 (by decide)).trans A156))
                refine xi_virtual (mj := 15) (as := [.int 0, .int a11, .int a13]) (st1 := []) (lv0 := [(0, .ref 115), (1, .int 0), (2, .int a11), (3, .int a13)]) kc_195_283 rfl rfl rfl rfl rfl A157 (Nat.le_of_ble_eq_true rfl) (hJ _ _ _ _ (by decide)) (xm_le ml_15 rfl) rfl ?_
                refine xi_aload_n (pc' := 1) (x := 115) kc_15_0 rfl rfl ?_
                refine xi_iconst (pc' := 2) (v := 0) kc_15_1 rfl rfl ?_
                refine xi_putfield (pc' := 5) (fs' := [.int 0, .int u144, .ref 116, .ref 117, .ref 118, .ref 119, .ref 120, .ref 121, .ref 122, .ref 123, .ref 124, .ref 125, .ref 126, .ref 127, .ref 128, .ref 129, .int u145, .ref 130, .int u146, .ref 131, .ref 132, .ref 133, .ref 134, .int u147, .ref 135, .ref 136, .ref 137, .ref 138, .ref 139, .ref 140, .ref 141, .ref 142, .int u148, .int u149, .int u150, .ref 143, .ref 144, .ref 145, .ref 146, .ref 147, .ref 148, .int u151, .ref 149, .ref 150, .ref 151, .int u152, .ref 152, .ref 153, .ref 154, .ref 155, .ref 156, .ref 157, .ref 158, .ref 159, .int u153, .ref 160, .int u154, .ref 161, .ref 162, .ref 163, .ref 164, .int u155, .ref 165, .ref 166]) kc_15_2 rfl rfl rfl A157 rfl rfl rfl (Nat.le_of_ble_eq_true rfl) rfl (fun hh159 eh158 => ?_)
                have K160 := xk_pf (k := 0) (v := 0) K142 (xk_wf (by decide +kernel)) xD_115 A157 rfl (by first | omega | decide) (by first | omega | decide) eh158 rfl
                refine xi_iload_n (pc' := 6) (x := 0) kc_15_5 rfl rfl ?_
                refine xi_static (mj := 10) (as := [.int 0]) (st1 := []) (lv0 := [(0, .int 0)]) kc_15_6 rfl rfl (Nat.le_of_ble_eq_true rfl) rfl rfl (Nat.le_of_ble_eq_true rfl) (hJ _ _ _ _ (by decide)) (xm_le ml_10 rfl) rfl ?_
                refine xi_iload_n (pc' := 1) (x := 0) kc_10_0 rfl rfl ?_
                refine xi_iconst (pc' := 2) (v := 0) kc_10_1 rfl rfl ?_
                refine xi_iconst (pc' := 3) (v := 5) kc_10_2 rfl rfl ?_
                refine xi_static (mj := 11) (as := [.int 0, .int 0, .int 5]) (st1 := []) (lv0 := [(0, .int 0), (1, .int 0), (2, .int 5)]) kc_10_3 rfl rfl (Nat.le_of_ble_eq_true rfl) rfl rfl (Nat.le_of_ble_eq_true rfl) (hJ _ _ _ _ (by decide)) (xm_le ml_11 rfl) rfl ?_
                refine xi_iload_n (pc' := 1) (x := 0) kc_11_0 rfl rfl ?_
                refine xi_iload_n (pc' := 2) (x := 0) kc_11_1 rfl rfl ?_
                refine xi_cmf (pc' := 5) kc_11_2 rfl rfl ?_
                refine xi_iload_n (pc' := 6) (x := 0) kc_11_5 rfl rfl ?_
                refine xi_iload_n (pc' := 7) (x := 5) kc_11_6 rfl rfl ?_
                refine xi_cmf (pc' := 10) kc_11_7 rfl rfl ?_
                refine xi_iconst (pc' := 11) (v := 1) kc_11_10 rfl rfl ?_
                refine xi_goto (pc' := 15) kc_11_11 rfl ?_
                refine xi_ireturn kc_11_15 mr_11 rfl ?_
                show xw J ov 98 10 (6, [(0, .int 0)], [.int 1], hh159) _
                refine xi_ireturn kc_10_6 mr_10 rfl ?_
                show xw J ov 99 15 (9, [(0, .ref 115), (1, .int 0), (2, .int a11), (3, .int a13)], [.int 1], hh159) _
                refine xi_iff (pc' := 12) kc_15_9 rfl rfl ?_
                refine xi_iload_n (pc' := 13) (x := a11) kc_15_12 rfl rfl ?_
                refine xi_iconst (pc' := 14) (v := 0) kc_15_13 rfl rfl ?_
                refine xi_bipush (pc' := 16) (v := 23) kc_15_14 rfl rfl ?_
                refine xi_static (mj := 11) (as := [.int a11, .int 0, .int 23]) (st1 := []) (lv0 := [(0, .int a11), (1, .int 0), (2, .int 23)]) kc_15_16 rfl rfl (Nat.le_of_ble_eq_true rfl) rfl rfl (Nat.le_of_ble_eq_true rfl) (hJ _ _ _ _ (by decide)) (xm_le ml_11 rfl) rfl ?_
                refine xi_iload_n (pc' := 1) (x := a11) kc_11_0 rfl rfl ?_
                refine xi_iload_n (pc' := 2) (x := 0) kc_11_1 rfl rfl ?_
                refine xi_cmf (pc' := 5) kc_11_2 rfl (xc_lt_f (X := a11.toInt) (Y := 0) rfl (by decide) (by omega)) ?_
                refine xi_iload_n (pc' := 6) (x := a11) kc_11_5 rfl rfl ?_
                refine xi_iload_n (pc' := 7) (x := 23) kc_11_6 rfl rfl ?_
                refine xi_cmf (pc' := 10) kc_11_7 rfl (xc_gt_f (X := a11.toInt) (Y := 23) rfl (by decide) (by omega)) ?_
                refine xi_iconst (pc' := 11) (v := 1) kc_11_10 rfl rfl ?_
                refine xi_goto (pc' := 15) kc_11_11 rfl ?_
                refine xi_ireturn kc_11_15 mr_11 rfl ?_
                show xw J ov 99 15 (19, [(0, .ref 115), (1, .int 0), (2, .int a11), (3, .int a13)], [.int 1], hh159) _
                refine xi_ift (pc' := 28) kc_15_19 rfl rfl ?_
                refine xi_iload_n (pc' := 29) (x := a13) kc_15_28 rfl rfl ?_
                refine xi_ift (pc' := 39) kc_15_29 rfl (xc_ge_t (X := a13.toInt) (Y := 0) rfl (by decide) (by omega)) ?_
                refine xi_iload_n (pc' := 40) (x := a13) kc_15_39 rfl rfl ?_
                refine xi_sipush (pc' := 43) (v := 999) kc_15_40 rfl rfl ?_
                refine xi_cmt (pc' := 53) kc_15_43 rfl (xc_le_t (X := a13.toInt) (Y := 999) rfl (by decide) (by omega)) ?_
                refine xi_aload_n (pc' := 54) (x := 115) kc_15_53 rfl rfl ?_
                refine xi_getfield (pc' := 57) (v := .ref 122) kc_15_54 rfl rfl rfl eh158.1 rfl ?_
                refine xi_bipush (pc' := 59) (v := 24) kc_15_57 rfl rfl ?_
                refine xi_iload_n (pc' := 60) (x := 0) kc_15_59 rfl rfl ?_
                refine xi_imul (pc' := 61) (v := 0) kc_15_60 rfl rfl ?_
                refine xi_iload_n (pc' := 62) (x := a11) kc_15_61 rfl rfl ?_
                obtain ⟨v161, ev161⟩ : ∃ q : Int32, 0 + a11 = q := ⟨_, rfl⟩
                have zv161 : v161.toInt = a11.toInt := by rw [← ev161]; exact (xz_add (X := 0) (Y := a11.toInt) (by decide) rfl (by omega) (by omega)).trans (by omega)
                refine xi_iadd (pc' := 63) (v := v161) kc_15_62 rfl ev161 ?_
                have A162 := ((eh158.2.1 122 (by decide)).trans ((eh141.2.1 122 (by decide)).trans ((eh125.2.1 122 (by decide)).trans A2)))
                refine xi_iaload (pc' := 64) (v := v139) kc_15_63 rfl A162 (by decide) rfl (xi_in (by rw [zv161]; omega) (by rw [hy2]; rw [zv161]; omega)) (xE_ld H3 (by first | omega | decide) (by first | omega | decide) (by omega) ev139) ?_
                refine xi_istore (pc' := 66) (lv' := [(4, .int v139), (0, .ref 115), (1, .int 0), (2, .int a11), (3, .int a13)]) kc_15_64 rfl rfl (xm_lt ml_15 rfl) ?_
                refine xi_aload_n (pc' := 67) (x := 115) kc_15_66 rfl rfl ?_
                refine xi_getfield (pc' := 70) (v := .ref 122) kc_15_67 rfl rfl rfl eh158.1 rfl ?_
                refine xi_bipush (pc' := 72) (v := 24) kc_15_70 rfl rfl ?_
                refine xi_iload_n (pc' := 73) (x := 0) kc_15_72 rfl rfl ?_
                refine xi_imul (pc' := 74) (v := 0) kc_15_73 rfl rfl ?_
                refine xi_iload_n (pc' := 75) (x := a11) kc_15_74 rfl rfl ?_
                refine xi_iadd (pc' := 76) (v := v161) kc_15_75 rfl ev161 ?_
                refine xi_iload_n (pc' := 77) (x := a13) kc_15_76 rfl rfl ?_
                obtain ⟨y163, s163, hy163, ry163⟩ := xj_set (v := a13) hy2 ry2 v161 (by first | omega | decide) (by first | omega | decide)
                refine xi_iastore (pc' := 78) (x' := y163) kc_15_77 rfl A162 rfl (xi_in (by rw [zv161]; omega) (by rw [hy2]; rw [zv161]; omega)) s163 (fun hh163 eh163 => ?_)
                have K164 := xk_pa K160 (xk_wa (by decide +kernel)) xD_122 hy163 ry163 eh163
                refine xi_aload_n (pc' := 79) (x := 115) kc_15_78 rfl rfl ?_
                refine xi_iconst (pc' := 80) (v := 0) kc_15_79 rfl rfl ?_
                have A165 := ((eh163.2.1 115 (by decide)).trans eh158.1)
                refine xi_putfield (pc' := 83) (fs' := [.int 0, .int u144, .ref 116, .ref 117, .ref 118, .ref 119, .ref 120, .ref 121, .ref 122, .ref 123, .ref 124, .ref 125, .ref 126, .ref 127, .ref 128, .ref 129, .int u145, .ref 130, .int u146, .ref 131, .ref 132, .ref 133, .ref 134, .int u147, .ref 135, .ref 136, .ref 137, .ref 138, .ref 139, .ref 140, .ref 141, .ref 142, .int u148, .int u149, .int u150, .ref 143, .ref 144, .ref 145, .ref 146, .ref 147, .ref 148, .int 0, .ref 149, .ref 150, .ref 151, .int u152, .ref 152, .ref 153, .ref 154, .ref 155, .ref 156, .ref 157, .ref 158, .ref 159, .int u153, .ref 160, .int u154, .ref 161, .ref 162, .ref 163, .ref 164, .int u155, .ref 165, .ref 166]) kc_15_80 rfl rfl rfl A165 rfl rfl rfl (Nat.le_of_ble_eq_true rfl) rfl (fun hh167 eh166 => ?_)
                have K168 := xk_pf (k := 41) (v := 0) K164 (xk_wf (by decide +kernel)) xD_115 A165 rfl (by first | omega | decide) (by first | omega | decide) eh166 rfl
                refine xi_iload (pc' := 85) (x := v139) kc_15_83 rfl rfl ?_
                refine xi_ireturn kc_15_85 mr_15 rfl ?_
                show xw J ov 100 195 (286, [(4, .int x4), (3, .ref 167), (2, .ref 115), (1, .ref 0), (0, .ref 1000000)], [.int v139], hh167) _
                refine xi_pop (pc' := 287) kc_195_286 rfl rfl ?_
                refine xi_goto (pc' := 1501) kc_195_287 rfl ?_
                obtain ⟨v169, ev169⟩ : ∃ q : Int32, x4 + 6 = q := ⟨_, rfl⟩
                have zv169 : v169.toInt = (x4.toInt + 6) := by rw [← ev169]; exact (xz_add (X := x4.toInt) (Y := 6) rfl (by decide) (by omega) (by omega)).trans (by omega)
                refine xi_iinc (pc' := 1504) (x := x4) (v := v169) (lv' := [(4, .int v169), (3, .ref 167), (2, .ref 115), (1, .ref 0), (0, .ref 1000000)]) kc_195_1501 rfl rfl ev169 rfl (xm_lt ml_195 rfl) ?_
                refine xi_goto (pc' := 23) kc_195_1504 rfl ?_
                have A170 := ((eh166.2.1 13 (by decide)).trans ((eh163.2.1 13 (by decide)).trans ((eh158.2.1 13 (by decide)).trans eh141.1)))
                have A171 := ((eh166.2.1 122 (by decide)).trans eh163.1)
                have A172 := ((eh166.2.1 16 (by decide)).trans ((eh163.2.1 16 (by decide)).trans ((eh158.2.1 16 (by decide)).trans ((eh141.2.1 16 (by decide)).trans ((eh125.2.1 16 (by decide)).trans A3)))))
                have A173 := ((eh166.2.1 19 (by decide)).trans ((eh163.2.1 19 (by decide)).trans ((eh158.2.1 19 (by decide)).trans ((eh141.2.1 19 (by decide)).trans ((eh125.2.1 19 (by decide)).trans A4)))))
                have A174 := ((eh166.2.1 22 (by decide)).trans ((eh163.2.1 22 (by decide)).trans ((eh158.2.1 22 (by decide)).trans ((eh141.2.1 22 (by decide)).trans ((eh125.2.1 22 (by decide)).trans A5)))))
                have A175 := ((eh166.2.1 25 (by decide)).trans ((eh163.2.1 25 (by decide)).trans ((eh158.2.1 25 (by decide)).trans ((eh141.2.1 25 (by decide)).trans ((eh125.2.1 25 (by decide)).trans A6)))))
                have A176 := ((eh166.2.1 28 (by decide)).trans ((eh163.2.1 28 (by decide)).trans ((eh158.2.1 28 (by decide)).trans ((eh141.2.1 28 (by decide)).trans ((eh125.2.1 28 (by decide)).trans A7)))))
                exact kk v169 hh167 (by omega) K168 ⟨((K168.2.1 (0, 9) (by decide +kernel)).trans (I.1.trans (K168.2.1 (115, 1) (by decide +kernel)).symm)), (xWW_fr I.2.1 (K168.2.1 (64, 0) (by decide +kernel)) (K168.2.1 (121, 0) (by decide +kernel))), (xSG_fr I.2.2.1 (fun l hl => K168.2.1 l (xk_el (by decide +kernel) hl))), (xE_mk A170 A171 (xE_set H3 (by first | omega | decide) (by omega) (by omega) (by omega) s141 s163)), (xE_mk A172 A171 (xE_oth H4 (by first | omega | decide) (by omega) s163)), (xE_mk A173 A171 (xE_oth H5 (by first | omega | decide) (by omega) s163)), (xE_mk A174 A171 (xE_oth H6 (by first | omega | decide) (by omega) s163)), (xE_mk A175 A171 (xE_oth H7 (by first | omega | decide) (by omega) s163)), (xE_mk A176 A171 (xE_oth H8 (by first | omega | decide) (by omega) s163)), (by rw [(K168.2.1 (6, 0) (by decide +kernel)), (K168.2.1 (123, 0) (by decide +kernel))]; exact I.2.2.2.2.2.2.2.2.2.1), (by rw [(K168.2.1 (9, 0) (by decide +kernel)), (K168.2.1 (124, 0) (by decide +kernel))]; exact I.2.2.2.2.2.2.2.2.2.2.1), (by rw [(K168.2.1 (7, 0) (by decide +kernel)), (K168.2.1 (6, 0) (by decide +kernel))]; exact I.2.2.2.2.2.2.2.2.2.2.2.1), (by rw [(K168.2.1 (10, 0) (by decide +kernel)), (K168.2.1 (9, 0) (by decide +kernel))]; exact I.2.2.2.2.2.2.2.2.2.2.2.2.1), ((K168.2.1 (5, 0) (by decide +kernel)).trans I.2.2.2.2.2.2.2.2.2.2.2.2.2.1), ((K168.2.1 (8, 0) (by decide +kernel)).trans I.2.2.2.2.2.2.2.2.2.2.2.2.2.2.1), (xGR_fr I.2.2.2.2.2.2.2.2.2.2.2.2.2.2.2.1 K168.2.1 (by decide +kernel) (by decide +kernel)), (xGR_fr I.2.2.2.2.2.2.2.2.2.2.2.2.2.2.2.2.1 K168.2.1 (by decide +kernel) (by decide +kernel)), ((K168.2.1 (1, 5) (by decide +kernel)).trans (I.2.2.2.2.2.2.2.2.2.2.2.2.2.2.2.2.2.1.trans (K168.2.1 (115, 23) (by decide +kernel)).symm)), (xGR_fr I.2.2.2.2.2.2.2.2.2.2.2.2.2.2.2.2.2.2.1 K168.2.1 (by decide +kernel) (by decide +kernel)), (xGR_fr I.2.2.2.2.2.2.2.2.2.2.2.2.2.2.2.2.2.2.2.1 K168.2.1 (by decide +kernel) (by decide +kernel)), (xGR_fr I.2.2.2.2.2.2.2.2.2.2.2.2.2.2.2.2.2.2.2.2.1 K168.2.1 (by decide +kernel) (by decide +kernel)), (xGR_fr I.2.2.2.2.2.2.2.2.2.2.2.2.2.2.2.2.2.2.2.2.2.1 K168.2.1 (by decide +kernel) (by decide +kernel)), (by rw [(K168.2.1 (63, 2) (by decide +kernel)), (K168.2.1 (139, 0) (by decide +kernel)), (K168.2.1 (1, 5) (by decide +kernel))]; exact I.2.2.2.2.2.2.2.2.2.2.2.2.2.2.2.2.2.2.2.2.2.2.1), ((K168.2.1 (0, 8) (by decide +kernel)).trans (I.2.2.2.2.2.2.2.2.2.2.2.2.2.2.2.2.2.2.2.2.2.2.2.1.trans (K168.2.1 (115, 34) (by decide +kernel)).symm)), (xGR_fr I.2.2.2.2.2.2.2.2.2.2.2.2.2.2.2.2.2.2.2.2.2.2.2.2.1 K168.2.1 (by decide +kernel) (by decide +kernel)), (xGR_fr I.2.2.2.2.2.2.2.2.2.2.2.2.2.2.2.2.2.2.2.2.2.2.2.2.2.1 K168.2.1 (by decide +kernel) (by decide +kernel)), (xGR_fr I.2.2.2.2.2.2.2.2.2.2.2.2.2.2.2.2.2.2.2.2.2.2.2.2.2.2.1 K168.2.1 (by decide +kernel) (by decide +kernel)), (xGR_fr I.2.2.2.2.2.2.2.2.2.2.2.2.2.2.2.2.2.2.2.2.2.2.2.2.2.2.2.1 K168.2.1 (by decide +kernel) (by decide +kernel)), (xts_fr I.2.2.2.2.2.2.2.2.2.2.2.2.2.2.2.2.2.2.2.2.2.2.2.2.2.2.2.2.1 (fun l hl => K168.2.1 l (xk_el (by decide +kernel) hl))), ((K168.2.1 (63, 3) (by decide +kernel)).trans I.2.2.2.2.2.2.2.2.2.2.2.2.2.2.2.2.2.2.2.2.2.2.2.2.2.2.2.2.2)⟩
              by_cases c177 : a9.toInt = 1
              · have qa9 : a9 = 1 := xc_of (Eq.trans (by omega) (show (1 : Int) = (1 : Int32).toInt by decide))
                subst qa9
                have A178 := ((eh125.2.1 2 (by decide)).trans A134)
                refine xi_aaload (pc' := 64) (b := 14) kc_94_63 rfl A178 rfl (xi_in (n := 6) (by decide) (by decide)) rfl ?_
                have A179 := xq_14 K.1
                have A180 := ((eh125.2.1 14 (by decide)).trans A179)
                refine xi_getfield (pc' := 67) (v := .ref 16) kc_94_64 rfl rfl rfl A180 rfl ?_
                refine xi_astore (pc' := 69) (lv' := [(4, .ref 16), (0, .ref 0), (1, .int 1), (2, .int a11), (3, .int a13)]) kc_94_67 rfl rfl (xm_lt ml_94 rfl) ?_
                refine xi_aload (pc' := 71) (x := 16) kc_94_69 rfl rfl ?_
                refine xi_iload_n (pc' := 72) (x := a11) kc_94_71 rfl rfl ?_
                obtain ⟨v181, ev181, bv181, dv181⟩ := xj_get hy3 ry3 (i := a11) (by omega) (by omega)
                have A182 := ((eh125.2.1 16 (by decide)).trans A3)
                refine xi_iaload (pc' := 73) (v := v181) kc_94_72 rfl A182 (by decide) rfl (xi_in (by omega) (by rw [hy3]; omega)) ev181 ?_
                refine xi_istore (pc' := 75) (lv' := [(5, .int v181), (4, .ref 16), (0, .ref 0), (1, .int 1), (2, .int a11), (3, .int a13)]) kc_94_73 rfl rfl (xm_lt ml_94 rfl) ?_
                refine xi_aload (pc' := 77) (x := 16) kc_94_75 rfl rfl ?_
                refine xi_iload_n (pc' := 78) (x := a11) kc_94_77 rfl rfl ?_
                refine xi_iload_n (pc' := 79) (x := a13) kc_94_78 rfl rfl ?_
                obtain ⟨y183, s183, hy183, ry183⟩ := xj_set (v := a13) hy3 ry3 a11 (by first | omega | decide) (by first | omega | decide)
                refine xi_iastore (pc' := 80) (x' := y183) kc_94_79 rfl A182 rfl (xi_in (by omega) (by rw [hy3]; omega)) s183 (fun hh183 eh183 => ?_)
                have K184 := xk_pa K127 (xk_wa (by decide +kernel)) xD_16 hy183 ry183 eh183
                refine xi_iload (pc' := 82) (x := v181) kc_94_80 rfl rfl ?_
                refine xi_ireturn kc_94_82 mr_94 rfl ?_
                show xw J ov 100 195 (263, [(4, .int x4), (3, .ref 167), (2, .ref 115), (1, .ref 0), (0, .ref 1000000)], [.int v181], hh183) _
                refine xi_pop (pc' := 264) kc_195_263 rfl rfl ?_
                refine xi_aload_n (pc' := 265) (x := 115) kc_195_264 rfl rfl ?_
                refine xi_aload_n (pc' := 266) (x := 1000000) kc_195_265 rfl rfl ?_
                refine xi_iload (pc' := 268) (x := x4) kc_195_266 rfl rfl ?_
                refine xi_iconst (pc' := 269) (v := 1) kc_195_268 rfl rfl ?_
                refine xi_iadd (pc' := 270) (v := v8) kc_195_269 rfl ev8 ?_
                refine xi_ialoadO (pc' := 271) (v := 1) kc_195_270 rfl (by decide) hov0 (xi_in (by omega) (by omega)) ea9 ?_
                refine xi_aload_n (pc' := 272) (x := 1000000) kc_195_271 rfl rfl ?_
                refine xi_iload (pc' := 274) (x := x4) kc_195_272 rfl rfl ?_
                refine xi_iconst (pc' := 275) (v := 2) kc_195_274 rfl rfl ?_
                refine xi_iadd (pc' := 276) (v := v10) kc_195_275 rfl ev10 ?_
                refine xi_ialoadO (pc' := 277) (v := a11) kc_195_276 rfl (by decide) hov0 (xi_in (by omega) (by omega)) ea11 ?_
                refine xi_aload_n (pc' := 278) (x := 1000000) kc_195_277 rfl rfl ?_
                refine xi_iload (pc' := 280) (x := x4) kc_195_278 rfl rfl ?_
                refine xi_iconst (pc' := 281) (v := 3) kc_195_280 rfl rfl ?_
                refine xi_iadd (pc' := 282) (v := v12) kc_195_281 rfl ev12 ?_
                refine xi_ialoadO (pc' := 283) (v := a13) kc_195_282 rfl (by decide) hov0 (xi_in (by omega) (by omega)) ea13 ?_
                obtain ⟨u185, u186, u187, u188, u189, u190, u191, u192, u193, u194, u195, u196, u197, bu185, bu186, bu187, bu188, bu189, bu190, bu191, bu192, bu193, bu194, bu195, bu196, bu197, A198⟩ := xq_115 K.1
                have A199 := ((eh183.2.1 115 (by decide)).trans ((eh125.2.1 115 (by decide)).trans A198))
                refine xi_virtual (mj := 15) (as := [.int 1, .int a11, .int a13]) (st1 := []) (lv0 := [(0, .ref 115), (1, .int 1), (2, .int a11), (3, .int a13)]) kc_195_283 rfl rfl rfl rfl rfl A199 (Nat.le_of_ble_eq_true rfl) (hJ _ _ _ _ (by decide)) (xm_le ml_15 rfl) rfl ?_
                refine xi_aload_n (pc' := 1) (x := 115) kc_15_0 rfl rfl ?_
                refine xi_iconst (pc' := 2) (v := 0) kc_15_1 rfl rfl ?_
                refine xi_putfield (pc' := 5) (fs' := [.int 0, .int u186, .ref 116, .ref 117, .ref 118, .ref 119, .ref 120, .ref 121, .ref 122, .ref 123, .ref 124, .ref 125, .ref 126, .ref 127, .ref 128, .ref 129, .int u187, .ref 130, .int u188, .ref 131, .ref 132, .ref 133, .ref 134, .int u189, .ref 135, .ref 136, .ref 137, .ref 138, .ref 139, .ref 140, .ref 141, .ref 142, .int u190, .int u191, .int u192, .ref 143, .ref 144, .ref 145, .ref 146, .ref 147, .ref 148, .int u193, .ref 149, .ref 150, .ref 151, .int u194, .ref 152, .ref 153, .ref 154, .ref 155, .ref 156, .ref 157, .ref 158, .ref 159, .int u195, .ref 160, .int u196, .ref 161, .ref 162, .ref 163, .ref 164, .int u197, .ref 165, .ref 166]) kc_15_2 rfl rfl rfl A199 rfl rfl rfl (Nat.le_of_ble_eq_true rfl) rfl (fun hh201 eh200 => ?_)
                have K202 := xk_pf (k := 0) (v := 0) K184 (xk_wf (by decide +kernel)) xD_115 A199 rfl (by first | omega | decide) (by first | omega | decide) eh200 rfl
                refine xi_iload_n (pc' := 6) (x := 1) kc_15_5 rfl rfl ?_
                refine xi_static (mj := 10) (as := [.int 1]) (st1 := []) (lv0 := [(0, .int 1)]) kc_15_6 rfl rfl (Nat.le_of_ble_eq_true rfl) rfl rfl (Nat.le_of_ble_eq_true rfl) (hJ _ _ _ _ (by decide)) (xm_le ml_10 rfl) rfl ?_
                refine xi_iload_n (pc' := 1) (x := 1) kc_10_0 rfl rfl ?_
                refine xi_iconst (pc' := 2) (v := 0) kc_10_1 rfl rfl ?_
                refine xi_iconst (pc' := 3) (v := 5) kc_10_2 rfl rfl ?_
                refine xi_static (mj := 11) (as := [.int 1, .int 0, .int 5]) (st1 := []) (lv0 := [(0, .int 1), (1, .int 0), (2, .int 5)]) kc_10_3 rfl rfl (Nat.le_of_ble_eq_true rfl) rfl rfl (Nat.le_of_ble_eq_true rfl) (hJ _ _ _ _ (by decide)) (xm_le ml_11 rfl) rfl ?_
                refine xi_iload_n (pc' := 1) (x := 1) kc_11_0 rfl rfl ?_
                refine xi_iload_n (pc' := 2) (x := 0) kc_11_1 rfl rfl ?_
                refine xi_cmf (pc' := 5) kc_11_2 rfl rfl ?_
                refine xi_iload_n (pc' := 6) (x := 1) kc_11_5 rfl rfl ?_
                refine xi_iload_n (pc' := 7) (x := 5) kc_11_6 rfl rfl ?_
                refine xi_cmf (pc' := 10) kc_11_7 rfl rfl ?_
                refine xi_iconst (pc' := 11) (v := 1) kc_11_10 rfl rfl ?_
                refine xi_goto (pc' := 15) kc_11_11 rfl ?_
                refine xi_ireturn kc_11_15 mr_11 rfl ?_
                show xw J ov 98 10 (6, [(0, .int 1)], [.int 1], hh201) _
                refine xi_ireturn kc_10_6 mr_10 rfl ?_
                show xw J ov 99 15 (9, [(0, .ref 115), (1, .int 1), (2, .int a11), (3, .int a13)], [.int 1], hh201) _
                refine xi_iff (pc' := 12) kc_15_9 rfl rfl ?_
                refine xi_iload_n (pc' := 13) (x := a11) kc_15_12 rfl rfl ?_
                refine xi_iconst (pc' := 14) (v := 0) kc_15_13 rfl rfl ?_
                refine xi_bipush (pc' := 16) (v := 23) kc_15_14 rfl rfl ?_
                refine xi_static (mj := 11) (as := [.int a11, .int 0, .int 23]) (st1 := []) (lv0 := [(0, .int a11), (1, .int 0), (2, .int 23)]) kc_15_16 rfl rfl (Nat.le_of_ble_eq_true rfl) rfl rfl (Nat.le_of_ble_eq_true rfl) (hJ _ _ _ _ (by decide)) (xm_le ml_11 rfl) rfl ?_
                refine xi_iload_n (pc' := 1) (x := a11) kc_11_0 rfl rfl ?_
                refine xi_iload_n (pc' := 2) (x := 0) kc_11_1 rfl rfl ?_
                refine xi_cmf (pc' := 5) kc_11_2 rfl (xc_lt_f (X := a11.toInt) (Y := 0) rfl (by decide) (by omega)) ?_
                refine xi_iload_n (pc' := 6) (x := a11) kc_11_5 rfl rfl ?_
                refine xi_iload_n (pc' := 7) (x := 23) kc_11_6 rfl rfl ?_
                refine xi_cmf (pc' := 10) kc_11_7 rfl (xc_gt_f (X := a11.toInt) (Y := 23) rfl (by decide) (by omega)) ?_
                refine xi_iconst (pc' := 11) (v := 1) kc_11_10 rfl rfl ?_
                refine xi_goto (pc' := 15) kc_11_11 rfl ?_
                refine xi_ireturn kc_11_15 mr_11 rfl ?_
                show xw J ov 99 15 (19, [(0, .ref 115), (1, .int 1), (2, .int a11), (3, .int a13)], [.int 1], hh201) _
                refine xi_ift (pc' := 28) kc_15_19 rfl rfl ?_
                refine xi_iload_n (pc' := 29) (x := a13) kc_15_28 rfl rfl ?_
                refine xi_ift (pc' := 39) kc_15_29 rfl (xc_ge_t (X := a13.toInt) (Y := 0) rfl (by decide) (by omega)) ?_
                refine xi_iload_n (pc' := 40) (x := a13) kc_15_39 rfl rfl ?_
                refine xi_sipush (pc' := 43) (v := 999) kc_15_40 rfl rfl ?_
                refine xi_cmt (pc' := 53) kc_15_43 rfl (xc_le_t (X := a13.toInt) (Y := 999) rfl (by decide) (by omega)) ?_
                refine xi_aload_n (pc' := 54) (x := 115) kc_15_53 rfl rfl ?_
                refine xi_getfield (pc' := 57) (v := .ref 122) kc_15_54 rfl rfl rfl eh200.1 rfl ?_
                refine xi_bipush (pc' := 59) (v := 24) kc_15_57 rfl rfl ?_
                refine xi_iload_n (pc' := 60) (x := 1) kc_15_59 rfl rfl ?_
                refine xi_imul (pc' := 61) (v := 24) kc_15_60 rfl rfl ?_
                refine xi_iload_n (pc' := 62) (x := a11) kc_15_61 rfl rfl ?_
                obtain ⟨v203, ev203⟩ : ∃ q : Int32, 24 + a11 = q := ⟨_, rfl⟩
                have zv203 : v203.toInt = (a11.toInt + 24) := by rw [← ev203]; exact (xz_add (X := 24) (Y := a11.toInt) (by decide) rfl (by omega) (by omega)).trans (by omega)
                refine xi_iadd (pc' := 63) (v := v203) kc_15_62 rfl ev203 ?_
                have A204 := ((eh200.2.1 122 (by decide)).trans ((eh183.2.1 122 (by decide)).trans ((eh125.2.1 122 (by decide)).trans A2)))
                refine xi_iaload (pc' := 64) (v := v181) kc_15_63 rfl A204 (by decide) rfl (xi_in (by rw [zv203]; omega) (by rw [hy2]; rw [zv203]; omega)) (xE_ld H4 (by first | omega | decide) (by first | omega | decide) (by omega) ev181) ?_
                refine xi_istore (pc' := 66) (lv' := [(4, .int v181), (0, .ref 115), (1, .int 1), (2, .int a11), (3, .int a13)]) kc_15_64 rfl rfl (xm_lt ml_15 rfl) ?_
                refine xi_aload_n (pc' := 67) (x := 115) kc_15_66 rfl rfl ?_
                refine xi_getfield (pc' := 70) (v := .ref 122) kc_15_67 rfl rfl rfl eh200.1 rfl ?_
                refine xi_bipush (pc' := 72) (v := 24) kc_15_70 rfl rfl ?_
                refine xi_iload_n (pc' := 73) (x := 1) kc_15_72 rfl rfl ?_
                refine xi_imul (pc' := 74) (v := 24) kc_15_73 rfl rfl ?_
                refine xi_iload_n (pc' := 75) (x := a11) kc_15_74 rfl rfl ?_
                refine xi_iadd (pc' := 76) (v := v203) kc_15_75 rfl ev203 ?_
                refine xi_iload_n (pc' := 77) (x := a13) kc_15_76 rfl rfl ?_
                obtain ⟨y205, s205, hy205, ry205⟩ := xj_set (v := a13) hy2 ry2 v203 (by first | omega | decide) (by first | omega | decide)
                refine xi_iastore (pc' := 78) (x' := y205) kc_15_77 rfl A204 rfl (xi_in (by rw [zv203]; omega) (by rw [hy2]; rw [zv203]; omega)) s205 (fun hh205 eh205 => ?_)
                have K206 := xk_pa K202 (xk_wa (by decide +kernel)) xD_122 hy205 ry205 eh205
                refine xi_aload_n (pc' := 79) (x := 115) kc_15_78 rfl rfl ?_
                refine xi_iconst (pc' := 80) (v := 0) kc_15_79 rfl rfl ?_
                have A207 := ((eh205.2.1 115 (by decide)).trans eh200.1)
                refine xi_putfield (pc' := 83) (fs' := [.int 0, .int u186, .ref 116, .ref 117, .ref 118, .ref 119, .ref 120, .ref 121, .ref 122, .ref 123, .ref 124, .ref 125, .ref 126, .ref 127, .ref 128, .ref 129, .int u187, .ref 130, .int u188, .ref 131, .ref 132, .ref 133, .ref 134, .int u189, .ref 135, .ref 136, .ref 137, .ref 138, .ref 139, .ref 140, .ref 141, .ref 142, .int u190, .int u191, .int u192, .ref 143, .ref 144, .ref 145, .ref 146, .ref 147, .ref 148, .int 0, .ref 149, .ref 150, .ref 151, .int u194, .ref 152, .ref 153, .ref 154, .ref 155, .ref 156, .ref 157, .ref 158, .ref 159, .int u195, .ref 160, .int u196, .ref 161, .ref 162, .ref 163, .ref 164, .int u197, .ref 165, .ref 166]) kc_15_80 rfl rfl rfl A207 rfl rfl rfl (Nat.le_of_ble_eq_true rfl) rfl (fun hh209 eh208 => ?_)
                have K210 := xk_pf (k := 41) (v := 0) K206 (xk_wf (by decide +kernel)) xD_115 A207 rfl (by first | omega | decide) (by first | omega | decide) eh208 rfl
                refine xi_iload (pc' := 85) (x := v181) kc_15_83 rfl rfl ?_
                refine xi_ireturn kc_15_85 mr_15 rfl ?_
                show xw J ov 100 195 (286, [(4, .int x4), (3, .ref 167), (2, .ref 115), (1, .ref 0), (0, .ref 1000000)], [.int v181], hh209) _
                refine xi_pop (pc' := 287) kc_195_286 rfl rfl ?_
                refine xi_goto (pc' := 1501) kc_195_287 rfl ?_
                obtain ⟨v211, ev211⟩ : ∃ q : Int32, x4 + 6 = q := ⟨_, rfl⟩
                have zv211 : v211.toInt = (x4.toInt + 6) := by rw [← ev211]; exact (xz_add (X := x4.toInt) (Y := 6) rfl (by decide) (by omega) (by omega)).trans (by omega)
                refine xi_iinc (pc' := 1504) (x := x4) (v := v211) (lv' := [(4, .int v211), (3, .ref 167), (2, .ref 115), (1, .ref 0), (0, .ref 1000000)]) kc_195_1501 rfl rfl ev211 rfl (xm_lt ml_195 rfl) ?_
                refine xi_goto (pc' := 23) kc_195_1504 rfl ?_
                have A212 := ((eh208.2.1 13 (by decide)).trans ((eh205.2.1 13 (by decide)).trans ((eh200.2.1 13 (by decide)).trans ((eh183.2.1 13 (by decide)).trans ((eh125.2.1 13 (by decide)).trans A1)))))
                have A213 := ((eh208.2.1 122 (by decide)).trans eh205.1)
                have A214 := ((eh208.2.1 16 (by decide)).trans ((eh205.2.1 16 (by decide)).trans ((eh200.2.1 16 (by decide)).trans eh183.1)))
                have A215 := ((eh208.2.1 19 (by decide)).trans ((eh205.2.1 19 (by decide)).trans ((eh200.2.1 19 (by decide)).trans ((eh183.2.1 19 (by decide)).trans ((eh125.2.1 19 (by decide)).trans A4)))))
                have A216 := ((eh208.2.1 22 (by decide)).trans ((eh205.2.1 22 (by decide)).trans ((eh200.2.1 22 (by decide)).trans ((eh183.2.1 22 (by decide)).trans ((eh125.2.1 22 (by decide)).trans A5)))))
                have A217 := ((eh208.2.1 25 (by decide)).trans ((eh205.2.1 25 (by decide)).trans ((eh200.2.1 25 (by decide)).trans ((eh183.2.1 25 (by decide)).trans ((eh125.2.1 25 (by decide)).trans A6)))))
                have A218 := ((eh208.2.1 28 (by decide)).trans ((eh205.2.1 28 (by decide)).trans ((eh200.2.1 28 (by decide)).trans ((eh183.2.1 28 (by decide)).trans ((eh125.2.1 28 (by decide)).trans A7)))))
                exact kk v211 hh209 (by omega) K210 ⟨((K210.2.1 (0, 9) (by decide +kernel)).trans (I.1.trans (K210.2.1 (115, 1) (by decide +kernel)).symm)), (xWW_fr I.2.1 (K210.2.1 (64, 0) (by decide +kernel)) (K210.2.1 (121, 0) (by decide +kernel))), (xSG_fr I.2.2.1 (fun l hl => K210.2.1 l (xk_el (by decide +kernel) hl))), (xE_mk A212 A213 (xE_oth H3 (by first | omega | decide) (by omega) s205)), (xE_mk A214 A213 (xE_set H4 (by first | omega | decide) (by omega) (by omega) (by omega) s183 s205)), (xE_mk A215 A213 (xE_oth H5 (by first | omega | decide) (by omega) s205)), (xE_mk A216 A213 (xE_oth H6 (by first | omega | decide) (by omega) s205)), (xE_mk A217 A213 (xE_oth H7 (by first | omega | decide) (by omega) s205)), (xE_mk A218 A213 (xE_oth H8 (by first | omega | decide) (by omega) s205)), (by rw [(K210.2.1 (6, 0) (by decide +kernel)), (K210.2.1 (123, 0) (by decide +kernel))]; exact I.2.2.2.2.2.2.2.2.2.1), (by rw [(K210.2.1 (9, 0) (by decide +kernel)), (K210.2.1 (124, 0) (by decide +kernel))]; exact I.2.2.2.2.2.2.2.2.2.2.1), (by rw [(K210.2.1 (7, 0) (by decide +kernel)), (K210.2.1 (6, 0) (by decide +kernel))]; exact I.2.2.2.2.2.2.2.2.2.2.2.1), (by rw [(K210.2.1 (10, 0) (by decide +kernel)), (K210.2.1 (9, 0) (by decide +kernel))]; exact I.2.2.2.2.2.2.2.2.2.2.2.2.1), ((K210.2.1 (5, 0) (by decide +kernel)).trans I.2.2.2.2.2.2.2.2.2.2.2.2.2.1), ((K210.2.1 (8, 0) (by decide +kernel)).trans I.2.2.2.2.2.2.2.2.2.2.2.2.2.2.1), (xGR_fr I.2.2.2.2.2.2.2.2.2.2.2.2.2.2.2.1 K210.2.1 (by decide +kernel) (by decide +kernel)), (xGR_fr I.2.2.2.2.2.2.2.2.2.2.2.2.2.2.2.2.1 K210.2.1 (by decide +kernel) (by decide +kernel)), ((K210.2.1 (1, 5) (by decide +kernel)).trans (I.2.2.2.2.2.2.2.2.2.2.2.2.2.2.2.2.2.1.trans (K210.2.1 (115, 23) (by decide +kernel)).symm)), (xGR_fr I.2.2.2.2.2.2.2.2.2.2.2.2.2.2.2.2.2.2.1 K210.2.1 (by decide +kernel) (by decide +kernel)), (xGR_fr I.2.2.2.2.2.2.2.2.2.2.2.2.2.2.2.2.2.2.2.1 K210.2.1 (by decide +kernel) (by decide +kernel)), (xGR_fr I.2.2.2.2.2.2.2.2.2.2.2.2.2.2.2.2.2.2.2.2.1 K210.2.1 (by decide +kernel) (by decide +kernel)), (xGR_fr I.2.2.2.2.2.2.2.2.2.2.2.2.2.2.2.2.2.2.2.2.2.1 K210.2.1 (by decide +kernel) (by decide +kernel)), (by rw [(K210.2.1 (63, 2) (by decide +kernel)), (K210.2.1 (139, 0) (by decide +kernel)), (K210.2.1 (1, 5) (by decide +kernel))]; exact I.2.2.2.2.2.2.2.2.2.2.2.2.2.2.2.2.2.2.2.2.2.2.1), ((K210.2.1 (0, 8) (by decide +kernel)).trans (I.2.2.2.2.2.2.2.2.2.2.2.2.2.2.2.2.2.2.2.2.2.2.2.1.trans (K210.2.1 (115, 34) (by decide +kernel)).symm)), (xGR_fr I.2.2.2.2.2.2.2.2.2.2.2.2.2.2.2.2.2.2.2.2.2.2.2.2.1 K210.2.1 (by decide +kernel) (by decide +kernel)), (xGR_fr I.2.2.2.2.2.2.2.2.2.2.2.2.2.2.2.2.2.2.2.2.2.2.2.2.2.1 K210.2.1 (by decide +kernel) (by decide +kernel)), (xGR_fr I.2.2.2.2.2.2.2.2.2.2.2.2.2.2.2.2.2.2.2.2.2.2.2.2.2.2.1 K210.2.1 (by decide +kernel) (by decide +kernel)), (xGR_fr I.2.2.2.2.2.2.2.2.2.2.2.2.2.2.2.2.2.2.2.2.2.2.2.2.2.2.2.1 K210.2.1 (by decide +kernel) (by decide +kernel)), (xts_fr I.2.2.2.2.2.2.2.2.2.2.2.2.2.2.2.2.2.2.2.2.2.2.2.2.2.2.2.2.1 (fun l hl => K210.2.1 l (xk_el (by decide +kernel) hl))), ((K210.2.1 (63, 3) (by decide +kernel)).trans I.2.2.2.2.2.2.2.2.2.2.2.2.2.2.2.2.2.2.2.2.2.2.2.2.2.2.2.2.2)⟩
              by_cases c219 : a9.toInt = 2
              · have qa9 : a9 = 2 := xc_of (Eq.trans (by omega) (show (2 : Int) = (2 : Int32).toInt by decide))
                subst qa9
                have A220 := ((eh125.2.1 2 (by decide)).trans A134)
                refine xi_aaload (pc' := 64) (b := 17) kc_94_63 rfl A220 rfl (xi_in (n := 6) (by decide) (by decide)) rfl ?_
                have A221 := xq_17 K.1
                have A222 := ((eh125.2.1 17 (by decide)).trans A221)
                refine xi_getfield (pc' := 67) (v := .ref 19) kc_94_64 rfl rfl rfl A222 rfl ?_
                refine xi_astore (pc' := 69) (lv' := [(4, .ref 19), (0, .ref 0), (1, .int 2), (2, .int a11), (3, .int a13)]) kc_94_67 rfl rfl (xm_lt ml_94 rfl) ?_
                refine xi_aload (pc' := 71) (x := 19) kc_94_69 rfl rfl ?_
                refine xi_iload_n (pc' := 72) (x := a11) kc_94_71 rfl rfl ?_
                obtain ⟨v223, ev223, bv223, dv223⟩ := xj_get hy4 ry4 (i := a11) (by omega) (by omega)
                have A224 := ((eh125.2.1 19 (by decide)).trans A4)
                refine xi_iaload (pc' := 73) (v := v223) kc_94_72 rfl A224 (by decide) rfl (xi_in (by omega) (by rw [hy4]; omega)) ev223 ?_
                refine xi_istore (pc' := 75) (lv' := [(5, .int v223), (4, .ref 19), (0, .ref 0), (1, .int 2), (2, .int a11), (3, .int a13)]) kc_94_73 rfl rfl (xm_lt ml_94 rfl) ?_
                refine xi_aload (pc' := 77) (x := 19) kc_94_75 rfl rfl ?_
                refine xi_iload_n (pc' := 78) (x := a11) kc_94_77 rfl rfl ?_
                refine xi_iload_n (pc' := 79) (x := a13) kc_94_78 rfl rfl ?_
                obtain ⟨y225, s225, hy225, ry225⟩ := xj_set (v := a13) hy4 ry4 a11 (by first | omega | decide) (by first | omega | decide)
                refine xi_iastore (pc' := 80) (x' := y225) kc_94_79 rfl A224 rfl (xi_in (by omega) (by rw [hy4]; omega)) s225 (fun hh225 eh225 => ?_)
                have K226 := xk_pa K127 (xk_wa (by decide +kernel)) xD_19 hy225 ry225 eh225
                refine xi_iload (pc' := 82) (x := v223) kc_94_80 rfl rfl ?_
                refine xi_ireturn kc_94_82 mr_94 rfl ?_
                show xw J ov 100 195 (263, [(4, .int x4), (3, .ref 167), (2, .ref 115), (1, .ref 0), (0, .ref 1000000)], [.int v223], hh225) _
                refine xi_pop (pc' := 264) kc_195_263 rfl rfl ?_
                refine xi_aload_n (pc' := 265) (x := 115) kc_195_264 rfl rfl ?_
                refine xi_aload_n (pc' := 266) (x := 1000000) kc_195_265 rfl rfl ?_
                refine xi_iload (pc' := 268) (x := x4) kc_195_266 rfl rfl ?_
                refine xi_iconst (pc' := 269) (v := 1) kc_195_268 rfl rfl ?_
                refine xi_iadd (pc' := 270) (v := v8) kc_195_269 rfl ev8 ?_
                refine xi_ialoadO (pc' := 271) (v := 2) kc_195_270 rfl (by decide) hov0 (xi_in (by omega) (by omega)) ea9 ?_
                refine xi_aload_n (pc' := 272) (x := 1000000) kc_195_271 rfl rfl ?_
                refine xi_iload (pc' := 274) (x := x4) kc_195_272 rfl rfl ?_
                refine xi_iconst (pc' := 275) (v := 2) kc_195_274 rfl rfl ?_
                refine xi_iadd (pc' := 276) (v := v10) kc_195_275 rfl ev10 ?_
                refine xi_ialoadO (pc' := 277) (v := a11) kc_195_276 rfl (by decide) hov0 (xi_in (by omega) (by omega)) ea11 ?_
                refine xi_aload_n (pc' := 278) (x := 1000000) kc_195_277 rfl rfl ?_
                refine xi_iload (pc' := 280) (x := x4) kc_195_278 rfl rfl ?_
                refine xi_iconst (pc' := 281) (v := 3) kc_195_280 rfl rfl ?_
                refine xi_iadd (pc' := 282) (v := v12) kc_195_281 rfl ev12 ?_
                refine xi_ialoadO (pc' := 283) (v := a13) kc_195_282 rfl (by decide) hov0 (xi_in (by omega) (by omega)) ea13 ?_
                obtain ⟨u227, u228, u229, u230, u231, u232, u233, u234, u235, u236, u237, u238, u239, bu227, bu228, bu229, bu230, bu231, bu232, bu233, bu234, bu235, bu236, bu237, bu238, bu239, A240⟩ := xq_115 K.1
                have A241 := ((eh225.2.1 115 (by decide)).trans ((eh125.2.1 115 (by decide)).trans A240))
                refine xi_virtual (mj := 15) (as := [.int 2, .int a11, .int a13]) (st1 := []) (lv0 := [(0, .ref 115), (1, .int 2), (2, .int a11), (3, .int a13)]) kc_195_283 rfl rfl rfl rfl rfl A241 (Nat.le_of_ble_eq_true rfl) (hJ _ _ _ _ (by decide)) (xm_le ml_15 rfl) rfl ?_
                refine xi_aload_n (pc' := 1) (x := 115) kc_15_0 rfl rfl ?_
                refine xi_iconst (pc' := 2) (v := 0) kc_15_1 rfl rfl ?_
                refine xi_putfield (pc' := 5) (fs' := [.int 0, .int u228, .ref 116, .ref 117, .ref 118, .ref 119, .ref 120, .ref 121, .ref 122, .ref 123, .ref 124, .ref 125, .ref 126, .ref 127, .ref 128, .ref 129, .int u229, .ref 130, .int u230, .ref 131, .ref 132, .ref 133, .ref 134, .int u231, .ref 135, .ref 136, .ref 137, .ref 138, .ref 139, .ref 140, .ref 141, .ref 142, .int u232, .int u233, .int u234, .ref 143, .ref 144, .ref 145, .ref 146, .ref 147, .ref 148, .int u235, .ref 149, .ref 150, .ref 151, .int u236, .ref 152, .ref 153, .ref 154, .ref 155, .ref 156, .ref 157, .ref 158, .ref 159, .int u237, .ref 160, .int u238, .ref 161, .ref 162, .ref 163, .ref 164, .int u239, .ref 165, .ref 166]) kc_15_2 rfl rfl rfl A241 rfl rfl rfl (Nat.le_of_ble_eq_true rfl) rfl (fun hh243 eh242 => ?_)
                have K244 := xk_pf (k := 0) (v := 0) K226 (xk_wf (by decide +kernel)) xD_115 A241 rfl (by first | omega | decide) (by first | omega | decide) eh242 rfl
                refine xi_iload_n (pc' := 6) (x := 2) kc_15_5 rfl rfl ?_
                refine xi_static (mj := 10) (as := [.int 2]) (st1 := []) (lv0 := [(0, .int 2)]) kc_15_6 rfl rfl (Nat.le_of_ble_eq_true rfl) rfl rfl (Nat.le_of_ble_eq_true rfl) (hJ _ _ _ _ (by decide)) (xm_le ml_10 rfl) rfl ?_
                refine xi_iload_n (pc' := 1) (x := 2) kc_10_0 rfl rfl ?_
                refine xi_iconst (pc' := 2) (v := 0) kc_10_1 rfl rfl ?_
                refine xi_iconst (pc' := 3) (v := 5) kc_10_2 rfl rfl ?_
                refine xi_static (mj := 11) (as := [.int 2, .int 0, .int 5]) (st1 := []) (lv0 := [(0, .int 2), (1, .int 0), (2, .int 5)]) kc_10_3 rfl rfl (Nat.le_of_ble_eq_true rfl) rfl rfl (Nat.le_of_ble_eq_true rfl) (hJ _ _ _ _ (by decide)) (xm_le ml_11 rfl) rfl ?_
                refine xi_iload_n (pc' := 1) (x := 2) kc_11_0 rfl rfl ?_
                refine xi_iload_n (pc' := 2) (x := 0) kc_11_1 rfl rfl ?_
                refine xi_cmf (pc' := 5) kc_11_2 rfl rfl ?_
                refine xi_iload_n (pc' := 6) (x := 2) kc_11_5 rfl rfl ?_
                refine xi_iload_n (pc' := 7) (x := 5) kc_11_6 rfl rfl ?_
                refine xi_cmf (pc' := 10) kc_11_7 rfl rfl ?_
                refine xi_iconst (pc' := 11) (v := 1) kc_11_10 rfl rfl ?_
                refine xi_goto (pc' := 15) kc_11_11 rfl ?_
                refine xi_ireturn kc_11_15 mr_11 rfl ?_
                show xw J ov 98 10 (6, [(0, .int 2)], [.int 1], hh243) _
                refine xi_ireturn kc_10_6 mr_10 rfl ?_
                show xw J ov 99 15 (9, [(0, .ref 115), (1, .int 2), (2, .int a11), (3, .int a13)], [.int 1], hh243) _
                refine xi_iff (pc' := 12) kc_15_9 rfl rfl ?_
                refine xi_iload_n (pc' := 13) (x := a11) kc_15_12 rfl rfl ?_
                refine xi_iconst (pc' := 14) (v := 0) kc_15_13 rfl rfl ?_
                refine xi_bipush (pc' := 16) (v := 23) kc_15_14 rfl rfl ?_
                refine xi_static (mj := 11) (as := [.int a11, .int 0, .int 23]) (st1 := []) (lv0 := [(0, .int a11), (1, .int 0), (2, .int 23)]) kc_15_16 rfl rfl (Nat.le_of_ble_eq_true rfl) rfl rfl (Nat.le_of_ble_eq_true rfl) (hJ _ _ _ _ (by decide)) (xm_le ml_11 rfl) rfl ?_
                refine xi_iload_n (pc' := 1) (x := a11) kc_11_0 rfl rfl ?_
                refine xi_iload_n (pc' := 2) (x := 0) kc_11_1 rfl rfl ?_
                refine xi_cmf (pc' := 5) kc_11_2 rfl (xc_lt_f (X := a11.toInt) (Y := 0) rfl (by decide) (by omega)) ?_
                refine xi_iload_n (pc' := 6) (x := a11) kc_11_5 rfl rfl ?_
                refine xi_iload_n (pc' := 7) (x := 23) kc_11_6 rfl rfl ?_
                refine xi_cmf (pc' := 10) kc_11_7 rfl (xc_gt_f (X := a11.toInt) (Y := 23) rfl (by decide) (by omega)) ?_
                refine xi_iconst (pc' := 11) (v := 1) kc_11_10 rfl rfl ?_
                refine xi_goto (pc' := 15) kc_11_11 rfl ?_
                refine xi_ireturn kc_11_15 mr_11 rfl ?_
                show xw J ov 99 15 (19, [(0, .ref 115), (1, .int 2), (2, .int a11), (3, .int a13)], [.int 1], hh243) _
                refine xi_ift (pc' := 28) kc_15_19 rfl rfl ?_
                refine xi_iload_n (pc' := 29) (x := a13) kc_15_28 rfl rfl ?_
                refine xi_ift (pc' := 39) kc_15_29 rfl (xc_ge_t (X := a13.toInt) (Y := 0) rfl (by decide) (by omega)) ?_
                refine xi_iload_n (pc' := 40) (x := a13) kc_15_39 rfl rfl ?_
                refine xi_sipush (pc' := 43) (v := 999) kc_15_40 rfl rfl ?_
                refine xi_cmt (pc' := 53) kc_15_43 rfl (xc_le_t (X := a13.toInt) (Y := 999) rfl (by decide) (by omega)) ?_
                refine xi_aload_n (pc' := 54) (x := 115) kc_15_53 rfl rfl ?_
                refine xi_getfield (pc' := 57) (v := .ref 122) kc_15_54 rfl rfl rfl eh242.1 rfl ?_
                refine xi_bipush (pc' := 59) (v := 24) kc_15_57 rfl rfl ?_
                refine xi_iload_n (pc' := 60) (x := 2) kc_15_59 rfl rfl ?_
                refine xi_imul (pc' := 61) (v := 48) kc_15_60 rfl rfl ?_
                refine xi_iload_n (pc' := 62) (x := a11) kc_15_61 rfl rfl ?_
                obtain ⟨v245, ev245⟩ : ∃ q : Int32, 48 + a11 = q := ⟨_, rfl⟩
                have zv245 : v245.toInt = (a11.toInt + 48) := by rw [← ev245]; exact (xz_add (X := 48) (Y := a11.toInt) (by decide) rfl (by omega) (by omega)).trans (by omega)
                refine xi_iadd (pc' := 63) (v := v245) kc_15_62 rfl ev245 ?_
                have A246 := ((eh242.2.1 122 (by decide)).trans ((eh225.2.1 122 (by decide)).trans ((eh125.2.1 122 (by decide)).trans A2)))
                refine xi_iaload (pc' := 64) (v := v223) kc_15_63 rfl A246 (by decide) rfl (xi_in (by rw [zv245]; omega) (by rw [hy2]; rw [zv245]; omega)) (xE_ld H5 (by first | omega | decide) (by first | omega | decide) (by omega) ev223) ?_
                refine xi_istore (pc' := 66) (lv' := [(4, .int v223), (0, .ref 115), (1, .int 2), (2, .int a11), (3, .int a13)]) kc_15_64 rfl rfl (xm_lt ml_15 rfl) ?_
                refine xi_aload_n (pc' := 67) (x := 115) kc_15_66 rfl rfl ?_
                refine xi_getfield (pc' := 70) (v := .ref 122) kc_15_67 rfl rfl rfl eh242.1 rfl ?_
                refine xi_bipush (pc' := 72) (v := 24) kc_15_70 rfl rfl ?_
                refine xi_iload_n (pc' := 73) (x := 2) kc_15_72 rfl rfl ?_
                refine xi_imul (pc' := 74) (v := 48) kc_15_73 rfl rfl ?_
                refine xi_iload_n (pc' := 75) (x := a11) kc_15_74 rfl rfl ?_
                refine xi_iadd (pc' := 76) (v := v245) kc_15_75 rfl ev245 ?_
                refine xi_iload_n (pc' := 77) (x := a13) kc_15_76 rfl rfl ?_
                obtain ⟨y247, s247, hy247, ry247⟩ := xj_set (v := a13) hy2 ry2 v245 (by first | omega | decide) (by first | omega | decide)
                refine xi_iastore (pc' := 78) (x' := y247) kc_15_77 rfl A246 rfl (xi_in (by rw [zv245]; omega) (by rw [hy2]; rw [zv245]; omega)) s247 (fun hh247 eh247 => ?_)
                have K248 := xk_pa K244 (xk_wa (by decide +kernel)) xD_122 hy247 ry247 eh247
                refine xi_aload_n (pc' := 79) (x := 115) kc_15_78 rfl rfl ?_
                refine xi_iconst (pc' := 80) (v := 0) kc_15_79 rfl rfl ?_
                have A249 := ((eh247.2.1 115 (by decide)).trans eh242.1)
                refine xi_putfield (pc' := 83) (fs' := [.int 0, .int u228, .ref 116, .ref 117, .ref 118, .ref 119, .ref 120, .ref 121, .ref 122, .ref 123, .ref 124, .ref 125, .ref 126, .ref 127, .ref 128, .ref 129, .int u229, .ref 130, .int u230, .ref 131, .ref 132, .ref 133, .ref 134, .int u231, .ref 135, .ref 136, .ref 137, .ref 138, .ref 139, .ref 140, .ref 141, .ref 142, .int u232, .int u233, .int u234, .ref 143, .ref 144, .ref 145, .ref 146, .ref 147, .ref 148, .int 0, .ref 149, .ref 150, .ref 151, .int u236, .ref 152, .ref 153, .ref 154, .ref 155, .ref 156, .ref 157, .ref 158, .ref 159, .int u237, .ref 160, .int u238, .ref 161, .ref 162, .ref 163, .ref 164, .int u239, .ref 165, .ref 166]) kc_15_80 rfl rfl rfl A249 rfl rfl rfl (Nat.le_of_ble_eq_true rfl) rfl (fun hh251 eh250 => ?_)
                have K252 := xk_pf (k := 41) (v := 0) K248 (xk_wf (by decide +kernel)) xD_115 A249 rfl (by first | omega | decide) (by first | omega | decide) eh250 rfl
                refine xi_iload (pc' := 85) (x := v223) kc_15_83 rfl rfl ?_
                refine xi_ireturn kc_15_85 mr_15 rfl ?_
                show xw J ov 100 195 (286, [(4, .int x4), (3, .ref 167), (2, .ref 115), (1, .ref 0), (0, .ref 1000000)], [.int v223], hh251) _
                refine xi_pop (pc' := 287) kc_195_286 rfl rfl ?_
                refine xi_goto (pc' := 1501) kc_195_287 rfl ?_
                obtain ⟨v253, ev253⟩ : ∃ q : Int32, x4 + 6 = q := ⟨_, rfl⟩
                have zv253 : v253.toInt = (x4.toInt + 6) := by rw [← ev253]; exact (xz_add (X := x4.toInt) (Y := 6) rfl (by decide) (by omega) (by omega)).trans (by omega)
                refine xi_iinc (pc' := 1504) (x := x4) (v := v253) (lv' := [(4, .int v253), (3, .ref 167), (2, .ref 115), (1, .ref 0), (0, .ref 1000000)]) kc_195_1501 rfl rfl ev253 rfl (xm_lt ml_195 rfl) ?_
                refine xi_goto (pc' := 23) kc_195_1504 rfl ?_
                have A254 := ((eh250.2.1 13 (by decide)).trans ((eh247.2.1 13 (by decide)).trans ((eh242.2.1 13 (by decide)).trans ((eh225.2.1 13 (by decide)).trans ((eh125.2.1 13 (by decide)).trans A1)))))
                have A255 := ((eh250.2.1 122 (by decide)).trans eh247.1)
                have A256 := ((eh250.2.1 16 (by decide)).trans ((eh247.2.1 16 (by decide)).trans ((eh242.2.1 16 (by decide)).trans ((eh225.2.1 16 (by decide)).trans ((eh125.2.1 16 (by decide)).trans A3)))))
                have A257 := ((eh250.2.1 19 (by decide)).trans ((eh247.2.1 19 (by decide)).trans ((eh242.2.1 19 (by decide)).trans eh225.1)))
                have A258 := ((eh250.2.1 22 (by decide)).trans ((eh247.2.1 22 (by decide)).trans ((eh242.2.1 22 (by decide)).trans ((eh225.2.1 22 (by decide)).trans ((eh125.2.1 22 (by decide)).trans A5)))))
                have A259 := ((eh250.2.1 25 (by decide)).trans ((eh247.2.1 25 (by decide)).trans ((eh242.2.1 25 (by decide)).trans ((eh225.2.1 25 (by decide)).trans ((eh125.2.1 25 (by decide)).trans A6)))))
                have A260 := ((eh250.2.1 28 (by decide)).trans ((eh247.2.1 28 (by decide)).trans ((eh242.2.1 28 (by decide)).trans ((eh225.2.1 28 (by decide)).trans ((eh125.2.1 28 (by decide)).trans A7)))))
                exact kk v253 hh251 (by omega) K252 ⟨((K252.2.1 (0, 9) (by decide +kernel)).trans (I.1.trans (K252.2.1 (115, 1) (by decide +kernel)).symm)), (xWW_fr I.2.1 (K252.2.1 (64, 0) (by decide +kernel)) (K252.2.1 (121, 0) (by decide +kernel))), (xSG_fr I.2.2.1 (fun l hl => K252.2.1 l (xk_el (by decide +kernel) hl))), (xE_mk A254 A255 (xE_oth H3 (by first | omega | decide) (by omega) s247)), (xE_mk A256 A255 (xE_oth H4 (by first | omega | decide) (by omega) s247)), (xE_mk A257 A255 (xE_set H5 (by first | omega | decide) (by omega) (by omega) (by omega) s225 s247)), (xE_mk A258 A255 (xE_oth H6 (by first | omega | decide) (by omega) s247)), (xE_mk A259 A255 (xE_oth H7 (by first | omega | decide) (by omega) s247)), (xE_mk A260 A255 (xE_oth H8 (by first | omega | decide) (by omega) s247)), (by rw [(K252.2.1 (6, 0) (by decide +kernel)), (K252.2.1 (123, 0) (by decide +kernel))]; exact I.2.2.2.2.2.2.2.2.2.1), (by rw [(K252.2.1 (9, 0) (by decide +kernel)), (K252.2.1 (124, 0) (by decide +kernel))]; exact I.2.2.2.2.2.2.2.2.2.2.1), (by rw [(K252.2.1 (7, 0) (by decide +kernel)), (K252.2.1 (6, 0) (by decide +kernel))]; exact I.2.2.2.2.2.2.2.2.2.2.2.1), (by rw [(K252.2.1 (10, 0) (by decide +kernel)), (K252.2.1 (9, 0) (by decide +kernel))]; exact I.2.2.2.2.2.2.2.2.2.2.2.2.1), ((K252.2.1 (5, 0) (by decide +kernel)).trans I.2.2.2.2.2.2.2.2.2.2.2.2.2.1), ((K252.2.1 (8, 0) (by decide +kernel)).trans I.2.2.2.2.2.2.2.2.2.2.2.2.2.2.1), (xGR_fr I.2.2.2.2.2.2.2.2.2.2.2.2.2.2.2.1 K252.2.1 (by decide +kernel) (by decide +kernel)), (xGR_fr I.2.2.2.2.2.2.2.2.2.2.2.2.2.2.2.2.1 K252.2.1 (by decide +kernel) (by decide +kernel)), ((K252.2.1 (1, 5) (by decide +kernel)).trans (I.2.2.2.2.2.2.2.2.2.2.2.2.2.2.2.2.2.1.trans (K252.2.1 (115, 23) (by decide +kernel)).symm)), (xGR_fr I.2.2.2.2.2.2.2.2.2.2.2.2.2.2.2.2.2.2.1 K252.2.1 (by decide +kernel) (by decide +kernel)), (xGR_fr I.2.2.2.2.2.2.2.2.2.2.2.2.2.2.2.2.2.2.2.1 K252.2.1 (by decide +kernel) (by decide +kernel)), (xGR_fr I.2.2.2.2.2.2.2.2.2.2.2.2.2.2.2.2.2.2.2.2.1 K252.2.1 (by decide +kernel) (by decide +kernel)), (xGR_fr I.2.2.2.2.2.2.2.2.2.2.2.2.2.2.2.2.2.2.2.2.2.1 K252.2.1 (by decide +kernel) (by decide +kernel)), (by rw [(K252.2.1 (63, 2) (by decide +kernel)), (K252.2.1 (139, 0) (by decide +kernel)), (K252.2.1 (1, 5) (by decide +kernel))]; exact I.2.2.2.2.2.2.2.2.2.2.2.2.2.2.2.2.2.2.2.2.2.2.1), ((K252.2.1 (0, 8) (by decide +kernel)).trans (I.2.2.2.2.2.2.2.2.2.2.2.2.2.2.2.2.2.2.2.2.2.2.2.1.trans (K252.2.1 (115, 34) (by decide +kernel)).symm)), (xGR_fr I.2.2.2.2.2.2.2.2.2.2.2.2.2.2.2.2.2.2.2.2.2.2.2.2.1 K252.2.1 (by decide +kernel) (by decide +kernel)), (xGR_fr I.2.2.2.2.2.2.2.2.2.2.2.2.2.2.2.2.2.2.2.2.2.2.2.2.2.1 K252.2.1 (by decide +kernel) (by decide +kernel)), (xGR_fr I.2.2.2.2.2.2.2.2.2.2.2.2.2.2.2.2.2.2.2.2.2.2.2.2.2.2.1 K252.2.1 (by decide +kernel) (by decide +kernel)), (xGR_fr I.2.2.2.2.2.2.2.2.2.2.2.2.2.2.2.2.2.2.2.2.2.2.2.2.2.2.2.1 K252.2.1 (by decide +kernel) (by decide +kernel)), (xts_fr I.2.2.2.2.2.2.2.2.2.2.2.2.2.2.2.2.2.2.2.2.2.2.2.2.2.2.2.2.1 (fun l hl => K252.2.1 l (xk_el (by decide +kernel) hl))), ((K252.2.1 (63, 3) (by decide +kernel)).trans I.2.2.2.2.2.2.2.2.2.2.2.2.2.2.2.2.2.2.2.2.2.2.2.2.2.2.2.2.2)⟩
              by_cases c261 : a9.toInt = 3
              · have qa9 : a9 = 3 := xc_of (Eq.trans (by omega) (show (3 : Int) = (3 : Int32).toInt by decide))
                subst qa9
                have A262 := ((eh125.2.1 2 (by decide)).trans A134)
                refine xi_aaload (pc' := 64) (b := 20) kc_94_63 rfl A262 rfl (xi_in (n := 6) (by decide) (by decide)) rfl ?_
                have A263 := xq_20 K.1
                have A264 := ((eh125.2.1 20 (by decide)).trans A263)
                refine xi_getfield (pc' := 67) (v := .ref 22) kc_94_64 rfl rfl rfl A264 rfl ?_
                refine xi_astore (pc' := 69) (lv' := [(4, .ref 22), (0, .ref 0), (1, .int 3), (2, .int a11), (3, .int a13)]) kc_94_67 rfl rfl (xm_lt ml_94 rfl) ?_
                refine xi_aload (pc' := 71) (x := 22) kc_94_69 rfl rfl ?_
                refine xi_iload_n (pc' := 72) (x := a11) kc_94_71 rfl rfl ?_
                obtain ⟨v265, ev265, bv265, dv265⟩ := xj_get hy5 ry5 (i := a11) (by omega) (by omega)
                have A266 := ((eh125.2.1 22 (by decide)).trans A5)
                refine xi_iaload (pc' := 73) (v := v265) kc_94_72 rfl A266 (by decide) rfl (xi_in (by omega) (by rw [hy5]; omega)) ev265 ?_
                refine xi_istore (pc' := 75) (lv' := [(5, .int v265), (4, .ref 22), (0, .ref 0), (1, .int 3), (2, .int a11), (3, .int a13)]) kc_94_73 rfl rfl (xm_lt ml_94 rfl) ?_
                refine xi_aload (pc' := 77) (x := 22) kc_94_75 rfl rfl ?_
                refine xi_iload_n (pc' := 78) (x := a11) kc_94_77 rfl rfl ?_
                refine xi_iload_n (pc' := 79) (x := a13) kc_94_78 rfl rfl ?_
                obtain ⟨y267, s267, hy267, ry267⟩ := xj_set (v := a13) hy5 ry5 a11 (by first | omega | decide) (by first | omega | decide)
                refine xi_iastore (pc' := 80) (x' := y267) kc_94_79 rfl A266 rfl (xi_in (by omega) (by rw [hy5]; omega)) s267 (fun hh267 eh267 => ?_)
                have K268 := xk_pa K127 (xk_wa (by decide +kernel)) xD_22 hy267 ry267 eh267
                refine xi_iload (pc' := 82) (x := v265) kc_94_80 rfl rfl ?_
                refine xi_ireturn kc_94_82 mr_94 rfl ?_
                show xw J ov 100 195 (263, [(4, .int x4), (3, .ref 167), (2, .ref 115), (1, .ref 0), (0, .ref 1000000)], [.int v265], hh267) _
                refine xi_pop (pc' := 264) kc_195_263 rfl rfl ?_
                refine xi_aload_n (pc' := 265) (x := 115) kc_195_264 rfl rfl ?_
                refine xi_aload_n (pc' := 266) (x := 1000000) kc_195_265 rfl rfl ?_
                refine xi_iload (pc' := 268) (x := x4) kc_195_266 rfl rfl ?_
                refine xi_iconst (pc' := 269) (v := 1) kc_195_268 rfl rfl ?_
                refine xi_iadd (pc' := 270) (v := v8) kc_195_269 rfl ev8 ?_
                refine xi_ialoadO (pc' := 271) (v := 3) kc_195_270 rfl (by decide) hov0 (xi_in (by omega) (by omega)) ea9 ?_
                refine xi_aload_n (pc' := 272) (x := 1000000) kc_195_271 rfl rfl ?_
                refine xi_iload (pc' := 274) (x := x4) kc_195_272 rfl rfl ?_
                refine xi_iconst (pc' := 275) (v := 2) kc_195_274 rfl rfl ?_
                refine xi_iadd (pc' := 276) (v := v10) kc_195_275 rfl ev10 ?_
                refine xi_ialoadO (pc' := 277) (v := a11) kc_195_276 rfl (by decide) hov0 (xi_in (by omega) (by omega)) ea11 ?_
                refine xi_aload_n (pc' := 278) (x := 1000000) kc_195_277 rfl rfl ?_
                refine xi_iload (pc' := 280) (x := x4) kc_195_278 rfl rfl ?_
                refine xi_iconst (pc' := 281) (v := 3) kc_195_280 rfl rfl ?_
                refine xi_iadd (pc' := 282) (v := v12) kc_195_281 rfl ev12 ?_
                refine xi_ialoadO (pc' := 283) (v := a13) kc_195_282 rfl (by decide) hov0 (xi_in (by omega) (by omega)) ea13 ?_
                obtain ⟨u269, u270, u271, u272, u273, u274, u275, u276, u277, u278, u279, u280, u281, bu269, bu270, bu271, bu272, bu273, bu274, bu275, bu276, bu277, bu278, bu279, bu280, bu281, A282⟩ := xq_115 K.1
                have A283 := ((eh267.2.1 115 (by decide)).trans ((eh125.2.1 115 (by decide)).trans A282))
                refine xi_virtual (mj := 15) (as := [.int 3, .int a11, .int a13]) (st1 := []) (lv0 := [(0, .ref 115), (1, .int 3), (2, .int a11), (3, .int a13)]) kc_195_283 rfl rfl rfl rfl rfl A283 (Nat.le_of_ble_eq_true rfl) (hJ _ _ _ _ (by decide)) (xm_le ml_15 rfl) rfl ?_
                refine xi_aload_n (pc' := 1) (x := 115) kc_15_0 rfl rfl ?_
                refine xi_iconst (pc' := 2) (v := 0) kc_15_1 rfl rfl ?_
                refine xi_putfield (pc' := 5) (fs' := [.int 0, .int u270, .ref 116, .ref 117, .ref 118, .ref 119, .ref 120, .ref 121, .ref 122, .ref 123, .ref 124, .ref 125, .ref 126, .ref 127, .ref 128, .ref 129, .int u271, .ref 130, .int u272, .ref 131, .ref 132, .ref 133, .ref 134, .int u273, .ref 135, .ref 136, .ref 137, .ref 138, .ref 139, .ref 140, .ref 141, .ref 142, .int u274, .int u275, .int u276, .ref 143, .ref 144, .ref 145, .ref 146, .ref 147, .ref 148, .int u277, .ref 149, .ref 150, .ref 151, .int u278, .ref 152, .ref 153, .ref 154, .ref 155, .ref 156, .ref 157, .ref 158, .ref 159, .int u279, .ref 160, .int u280, .ref 161, .ref 162, .ref 163, .ref 164, .int u281, .ref 165, .ref 166]) kc_15_2 rfl rfl rfl A283 rfl rfl rfl (Nat.le_of_ble_eq_true rfl) rfl (fun hh285 eh284 => ?_)
                have K286 := xk_pf (k := 0) (v := 0) K268 (xk_wf (by decide +kernel)) xD_115 A283 rfl (by first | omega | decide) (by first | omega | decide) eh284 rfl
                refine xi_iload_n (pc' := 6) (x := 3) kc_15_5 rfl rfl ?_
                refine xi_static (mj := 10) (as := [.int 3]) (st1 := []) (lv0 := [(0, .int 3)]) kc_15_6 rfl rfl (Nat.le_of_ble_eq_true rfl) rfl rfl (Nat.le_of_ble_eq_true rfl) (hJ _ _ _ _ (by decide)) (xm_le ml_10 rfl) rfl ?_
                refine xi_iload_n (pc' := 1) (x := 3) kc_10_0 rfl rfl ?_
                refine xi_iconst (pc' := 2) (v := 0) kc_10_1 rfl rfl ?_
                refine xi_iconst (pc' := 3) (v := 5) kc_10_2 rfl rfl ?_
                refine xi_static (mj := 11) (as := [.int 3, .int 0, .int 5]) (st1 := []) (lv0 := [(0, .int 3), (1, .int 0), (2, .int 5)]) kc_10_3 rfl rfl (Nat.le_of_ble_eq_true rfl) rfl rfl (Nat.le_of_ble_eq_true rfl) (hJ _ _ _ _ (by decide)) (xm_le ml_11 rfl) rfl ?_
                refine xi_iload_n (pc' := 1) (x := 3) kc_11_0 rfl rfl ?_
                refine xi_iload_n (pc' := 2) (x := 0) kc_11_1 rfl rfl ?_
                refine xi_cmf (pc' := 5) kc_11_2 rfl rfl ?_
                refine xi_iload_n (pc' := 6) (x := 3) kc_11_5 rfl rfl ?_
                refine xi_iload_n (pc' := 7) (x := 5) kc_11_6 rfl rfl ?_
                refine xi_cmf (pc' := 10) kc_11_7 rfl rfl ?_
                refine xi_iconst (pc' := 11) (v := 1) kc_11_10 rfl rfl ?_
                refine xi_goto (pc' := 15) kc_11_11 rfl ?_
                refine xi_ireturn kc_11_15 mr_11 rfl ?_
                show xw J ov 98 10 (6, [(0, .int 3)], [.int 1], hh285) _
                refine xi_ireturn kc_10_6 mr_10 rfl ?_
                show xw J ov 99 15 (9, [(0, .ref 115), (1, .int 3), (2, .int a11), (3, .int a13)], [.int 1], hh285) _
                refine xi_iff (pc' := 12) kc_15_9 rfl rfl ?_
                refine xi_iload_n (pc' := 13) (x := a11) kc_15_12 rfl rfl ?_
                refine xi_iconst (pc' := 14) (v := 0) kc_15_13 rfl rfl ?_
                refine xi_bipush (pc' := 16) (v := 23) kc_15_14 rfl rfl ?_
                refine xi_static (mj := 11) (as := [.int a11, .int 0, .int 23]) (st1 := []) (lv0 := [(0, .int a11), (1, .int 0), (2, .int 23)]) kc_15_16 rfl rfl (Nat.le_of_ble_eq_true rfl) rfl rfl (Nat.le_of_ble_eq_true rfl) (hJ _ _ _ _ (by decide)) (xm_le ml_11 rfl) rfl ?_
                refine xi_iload_n (pc' := 1) (x := a11) kc_11_0 rfl rfl ?_
                refine xi_iload_n (pc' := 2) (x := 0) kc_11_1 rfl rfl ?_
                refine xi_cmf (pc' := 5) kc_11_2 rfl (xc_lt_f (X := a11.toInt) (Y := 0) rfl (by decide) (by omega)) ?_
                refine xi_iload_n (pc' := 6) (x := a11) kc_11_5 rfl rfl ?_
                refine xi_iload_n (pc' := 7) (x := 23) kc_11_6 rfl rfl ?_
                refine xi_cmf (pc' := 10) kc_11_7 rfl (xc_gt_f (X := a11.toInt) (Y := 23) rfl (by decide) (by omega)) ?_
                refine xi_iconst (pc' := 11) (v := 1) kc_11_10 rfl rfl ?_
                refine xi_goto (pc' := 15) kc_11_11 rfl ?_
                refine xi_ireturn kc_11_15 mr_11 rfl ?_
                show xw J ov 99 15 (19, [(0, .ref 115), (1, .int 3), (2, .int a11), (3, .int a13)], [.int 1], hh285) _
                refine xi_ift (pc' := 28) kc_15_19 rfl rfl ?_
                refine xi_iload_n (pc' := 29) (x := a13) kc_15_28 rfl rfl ?_
                refine xi_ift (pc' := 39) kc_15_29 rfl (xc_ge_t (X := a13.toInt) (Y := 0) rfl (by decide) (by omega)) ?_
                refine xi_iload_n (pc' := 40) (x := a13) kc_15_39 rfl rfl ?_
                refine xi_sipush (pc' := 43) (v := 999) kc_15_40 rfl rfl ?_
                refine xi_cmt (pc' := 53) kc_15_43 rfl (xc_le_t (X := a13.toInt) (Y := 999) rfl (by decide) (by omega)) ?_
                refine xi_aload_n (pc' := 54) (x := 115) kc_15_53 rfl rfl ?_
                refine xi_getfield (pc' := 57) (v := .ref 122) kc_15_54 rfl rfl rfl eh284.1 rfl ?_
                refine xi_bipush (pc' := 59) (v := 24) kc_15_57 rfl rfl ?_
                refine xi_iload_n (pc' := 60) (x := 3) kc_15_59 rfl rfl ?_
                refine xi_imul (pc' := 61) (v := 72) kc_15_60 rfl rfl ?_
                refine xi_iload_n (pc' := 62) (x := a11) kc_15_61 rfl rfl ?_
                obtain ⟨v287, ev287⟩ : ∃ q : Int32, 72 + a11 = q := ⟨_, rfl⟩
                have zv287 : v287.toInt = (a11.toInt + 72) := by rw [← ev287]; exact (xz_add (X := 72) (Y := a11.toInt) (by decide) rfl (by omega) (by omega)).trans (by omega)
                refine xi_iadd (pc' := 63) (v := v287) kc_15_62 rfl ev287 ?_
                have A288 := ((eh284.2.1 122 (by decide)).trans ((eh267.2.1 122 (by decide)).trans ((eh125.2.1 122 (by decide)).trans A2)))
                refine xi_iaload (pc' := 64) (v := v265) kc_15_63 rfl A288 (by decide) rfl (xi_in (by rw [zv287]; omega) (by rw [hy2]; rw [zv287]; omega)) (xE_ld H6 (by first | omega | decide) (by first | omega | decide) (by omega) ev265) ?_
                refine xi_istore (pc' := 66) (lv' := [(4, .int v265), (0, .ref 115), (1, .int 3), (2, .int a11), (3, .int a13)]) kc_15_64 rfl rfl (xm_lt ml_15 rfl) ?_
                refine xi_aload_n (pc' := 67) (x := 115) kc_15_66 rfl rfl ?_
                refine xi_getfield (pc' := 70) (v := .ref 122) kc_15_67 rfl rfl rfl eh284.1 rfl ?_
                refine xi_bipush (pc' := 72) (v := 24) kc_15_70 rfl rfl ?_
                refine xi_iload_n (pc' := 73) (x := 3) kc_15_72 rfl rfl ?_
                refine xi_imul (pc' := 74) (v := 72) kc_15_73 rfl rfl ?_
                refine xi_iload_n (pc' := 75) (x := a11) kc_15_74 rfl rfl ?_
                refine xi_iadd (pc' := 76) (v := v287) kc_15_75 rfl ev287 ?_
                refine xi_iload_n (pc' := 77) (x := a13) kc_15_76 rfl rfl ?_
                obtain ⟨y289, s289, hy289, ry289⟩ := xj_set (v := a13) hy2 ry2 v287 (by first | omega | decide) (by first | omega | decide)
                refine xi_iastore (pc' := 78) (x' := y289) kc_15_77 rfl A288 rfl (xi_in (by rw [zv287]; omega) (by rw [hy2]; rw [zv287]; omega)) s289 (fun hh289 eh289 => ?_)
                have K290 := xk_pa K286 (xk_wa (by decide +kernel)) xD_122 hy289 ry289 eh289
                refine xi_aload_n (pc' := 79) (x := 115) kc_15_78 rfl rfl ?_
                refine xi_iconst (pc' := 80) (v := 0) kc_15_79 rfl rfl ?_
                have A291 := ((eh289.2.1 115 (by decide)).trans eh284.1)
                refine xi_putfield (pc' := 83) (fs' := [.int 0, .int u270, .ref 116, .ref 117, .ref 118, .ref 119, .ref 120, .ref 121, .ref 122, .ref 123, .ref 124, .ref 125, .ref 126, .ref 127, .ref 128, .ref 129, .int u271, .ref 130, .int u272, .ref 131, .ref 132, .ref 133, .ref 134, .int u273, .ref 135, .ref 136, .ref 137, .ref 138, .ref 139, .ref 140, .ref 141, .ref 142, .int u274, .int u275, .int u276, .ref 143, .ref 144, .ref 145, .ref 146, .ref 147, .ref 148, .int 0, .ref 149, .ref 150, .ref 151, .int u278, .ref 152, .ref 153, .ref 154, .ref 155, .ref 156, .ref 157, .ref 158, .ref 159, .int u279, .ref 160, .int u280, .ref 161, .ref 162, .ref 163, .ref 164, .int u281, .ref 165, .ref 166]) kc_15_80 rfl rfl rfl A291 rfl rfl rfl (Nat.le_of_ble_eq_true rfl) rfl (fun hh293 eh292 => ?_)
                have K294 := xk_pf (k := 41) (v := 0) K290 (xk_wf (by decide +kernel)) xD_115 A291 rfl (by first | omega | decide) (by first | omega | decide) eh292 rfl
                refine xi_iload (pc' := 85) (x := v265) kc_15_83 rfl rfl ?_
                refine xi_ireturn kc_15_85 mr_15 rfl ?_
                show xw J ov 100 195 (286, [(4, .int x4), (3, .ref 167), (2, .ref 115), (1, .ref 0), (0, .ref 1000000)], [.int v265], hh293) _
                refine xi_pop (pc' := 287) kc_195_286 rfl rfl ?_
                refine xi_goto (pc' := 1501) kc_195_287 rfl ?_
                obtain ⟨v295, ev295⟩ : ∃ q : Int32, x4 + 6 = q := ⟨_, rfl⟩
                have zv295 : v295.toInt = (x4.toInt + 6) := by rw [← ev295]; exact (xz_add (X := x4.toInt) (Y := 6) rfl (by decide) (by omega) (by omega)).trans (by omega)
                refine xi_iinc (pc' := 1504) (x := x4) (v := v295) (lv' := [(4, .int v295), (3, .ref 167), (2, .ref 115), (1, .ref 0), (0, .ref 1000000)]) kc_195_1501 rfl rfl ev295 rfl (xm_lt ml_195 rfl) ?_
                refine xi_goto (pc' := 23) kc_195_1504 rfl ?_
                have A296 := ((eh292.2.1 13 (by decide)).trans ((eh289.2.1 13 (by decide)).trans ((eh284.2.1 13 (by decide)).trans ((eh267.2.1 13 (by decide)).trans ((eh125.2.1 13 (by decide)).trans A1)))))
                have A297 := ((eh292.2.1 122 (by decide)).trans eh289.1)
                have A298 := ((eh292.2.1 16 (by decide)).trans ((eh289.2.1 16 (by decide)).trans ((eh284.2.1 16 (by decide)).trans ((eh267.2.1 16 (by decide)).trans ((eh125.2.1 16 (by decide)).trans A3)))))
                have A299 := ((eh292.2.1 19 (by decide)).trans ((eh289.2.1 19 (by decide)).trans ((eh284.2.1 19 (by decide)).trans ((eh267.2.1 19 (by decide)).trans ((eh125.2.1 19 (by decide)).trans A4)))))
                have A300 := ((eh292.2.1 22 (by decide)).trans ((eh289.2.1 22 (by decide)).trans ((eh284.2.1 22 (by decide)).trans eh267.1)))
                have A301 := ((eh292.2.1 25 (by decide)).trans ((eh289.2.1 25 (by decide)).trans ((eh284.2.1 25 (by decide)).trans ((eh267.2.1 25 (by decide)).trans ((eh125.2.1 25 (by decide)).trans A6)))))
                have A302 := ((eh292.2.1 28 (by decide)).trans ((eh289.2.1 28 (by decide)).trans ((eh284.2.1 28 (by decide)).trans ((eh267.2.1 28 (by decide)).trans ((eh125.2.1 28 (by decide)).trans A7)))))
                exact kk v295 hh293 (by omega) K294 ⟨((K294.2.1 (0, 9) (by decide +kernel)).trans (I.1.trans (K294.2.1 (115, 1) (by decide +kernel)).symm)), (xWW_fr I.2.1 (K294.2.1 (64, 0) (by decide +kernel)) (K294.2.1 (121, 0) (by decide +kernel))), (xSG_fr I.2.2.1 (fun l hl => K294.2.1 l (xk_el (by decide +kernel) hl))), (xE_mk A296 A297 (xE_oth H3 (by first | omega | decide) (by omega) s289)), (xE_mk A298 A297 (xE_oth H4 (by first | omega | decide) (by omega) s289)), (xE_mk A299 A297 (xE_oth H5 (by first | omega | decide) (by omega) s289)), (xE_mk A300 A297 (xE_set H6 (by first | omega | decide) (by omega) (by omega) (by omega) s267 s289)), (xE_mk A301 A297 (xE_oth H7 (by first | omega | decide) (by omega) s289)), (xE_mk A302 A297 (xE_oth H8 (by first | omega | decide) (by omega) s289)), (by rw [(K294.2.1 (6, 0) (by decide +kernel)), (K294.2.1 (123, 0) (by decide +kernel))]; exact I.2.2.2.2.2.2.2.2.2.1), (by rw [(K294.2.1 (9, 0) (by decide +kernel)), (K294.2.1 (124, 0) (by decide +kernel))]; exact I.2.2.2.2.2.2.2.2.2.2.1), (by rw [(K294.2.1 (7, 0) (by decide +kernel)), (K294.2.1 (6, 0) (by decide +kernel))]; exact I.2.2.2.2.2.2.2.2.2.2.2.1), (by rw [(K294.2.1 (10, 0) (by decide +kernel)), (K294.2.1 (9, 0) (by decide +kernel))]; exact I.2.2.2.2.2.2.2.2.2.2.2.2.1), ((K294.2.1 (5, 0) (by decide +kernel)).trans I.2.2.2.2.2.2.2.2.2.2.2.2.2.1), ((K294.2.1 (8, 0) (by decide +kernel)).trans I.2.2.2.2.2.2.2.2.2.2.2.2.2.2.1), (xGR_fr I.2.2.2.2.2.2.2.2.2.2.2.2.2.2.2.1 K294.2.1 (by decide +kernel) (by decide +kernel)), (xGR_fr I.2.2.2.2.2.2.2.2.2.2.2.2.2.2.2.2.1 K294.2.1 (by decide +kernel) (by decide +kernel)), ((K294.2.1 (1, 5) (by decide +kernel)).trans (I.2.2.2.2.2.2.2.2.2.2.2.2.2.2.2.2.2.1.trans (K294.2.1 (115, 23) (by decide +kernel)).symm)), (xGR_fr I.2.2.2.2.2.2.2.2.2.2.2.2.2.2.2.2.2.2.1 K294.2.1 (by decide +kernel) (by decide +kernel)), (xGR_fr I.2.2.2.2.2.2.2.2.2.2.2.2.2.2.2.2.2.2.2.1 K294.2.1 (by decide +kernel) (by decide +kernel)), (xGR_fr I.2.2.2.2.2.2.2.2.2.2.2.2.2.2.2.2.2.2.2.2.1 K294.2.1 (by decide +kernel) (by decide +kernel)), (xGR_fr I.2.2.2.2.2.2.2.2.2.2.2.2.2.2.2.2.2.2.2.2.2.1 K294.2.1 (by decide +kernel) (by decide +kernel)), (by rw [(K294.2.1 (63, 2) (by decide +kernel)), (K294.2.1 (139, 0) (by decide +kernel)), (K294.2.1 (1, 5) (by decide +kernel))]; exact I.2.2.2.2.2.2.2.2.2.2.2.2.2.2.2.2.2.2.2.2.2.2.1), ((K294.2.1 (0, 8) (by decide +kernel)).trans (I.2.2.2.2.2.2.2.2.2.2.2.2.2.2.2.2.2.2.2.2.2.2.2.1.trans (K294.2.1 (115, 34) (by decide +kernel)).symm)), (xGR_fr I.2.2.2.2.2.2.2.2.2.2.2.2.2.2.2.2.2.2.2.2.2.2.2.2.1 K294.2.1 (by decide +kernel) (by decide +kernel)), (xGR_fr I.2.2.2.2.2.2.2.2.2.2.2.2.2.2.2.2.2.2.2.2.2.2.2.2.2.1 K294.2.1 (by decide +kernel) (by decide +kernel)), (xGR_fr I.2.2.2.2.2.2.2.2.2.2.2.2.2.2.2.2.2.2.2.2.2.2.2.2.2.2.1 K294.2.1 (by decide +kernel) (by decide +kernel)), (xGR_fr I.2.2.2.2.2.2.2.2.2.2.2.2.2.2.2.2.2.2.2.2.2.2.2.2.2.2.2.1 K294.2.1 (by decide +kernel) (by decide +kernel)), (xts_fr I.2.2.2.2.2.2.2.2.2.2.2.2.2.2.2.2.2.2.2.2.2.2.2.2.2.2.2.2.1 (fun l hl => K294.2.1 l (xk_el (by decide +kernel) hl))), ((K294.2.1 (63, 3) (by decide +kernel)).trans I.2.2.2.2.2.2.2.2.2.2.2.2.2.2.2.2.2.2.2.2.2.2.2.2.2.2.2.2.2)⟩
              by_cases c303 : a9.toInt = 4
              · have qa9 : a9 = 4 := xc_of (Eq.trans (by omega) (show (4 : Int) = (4 : Int32).toInt by decide))
                subst qa9
                have A304 := ((eh125.2.1 2 (by decide)).trans A134)
                refine xi_aaload (pc' := 64) (b := 23) kc_94_63 rfl A304 rfl (xi_in (n := 6) (by decide) (by decide)) rfl ?_
                have A305 := xq_23 K.1
                have A306 := ((eh125.2.1 23 (by decide)).trans A305)
                refine xi_getfield (pc' := 67) (v := .ref 25) kc_94_64 rfl rfl rfl A306 rfl ?_
                refine xi_astore (pc' := 69) (lv' := [(4, .ref 25), (0, .ref 0), (1, .int 4), (2, .int a11), (3, .int a13)]) kc_94_67 rfl rfl (xm_lt ml_94 rfl) ?_
                refine xi_aload (pc' := 71) (x := 25) kc_94_69 rfl rfl ?_
                refine xi_iload_n (pc' := 72) (x := a11) kc_94_71 rfl rfl ?_
                obtain ⟨v307, ev307, bv307, dv307⟩ := xj_get hy6 ry6 (i := a11) (by omega) (by omega)
                have A308 := ((eh125.2.1 25 (by decide)).trans A6)
                refine xi_iaload (pc' := 73) (v := v307) kc_94_72 rfl A308 (by decide) rfl (xi_in (by omega) (by rw [hy6]; omega)) ev307 ?_
                refine xi_istore (pc' := 75) (lv' := [(5, .int v307), (4, .ref 25), (0, .ref 0), (1, .int 4), (2, .int a11), (3, .int a13)]) kc_94_73 rfl rfl (xm_lt ml_94 rfl) ?_
                refine xi_aload (pc' := 77) (x := 25) kc_94_75 rfl rfl ?_
                refine xi_iload_n (pc' := 78) (x := a11) kc_94_77 rfl rfl ?_
                refine xi_iload_n (pc' := 79) (x := a13) kc_94_78 rfl rfl ?_
                obtain ⟨y309, s309, hy309, ry309⟩ := xj_set (v := a13) hy6 ry6 a11 (by first | omega | decide) (by first | omega | decide)
                refine xi_iastore (pc' := 80) (x' := y309) kc_94_79 rfl A308 rfl (xi_in (by omega) (by rw [hy6]; omega)) s309 (fun hh309 eh309 => ?_)
                have K310 := xk_pa K127 (xk_wa (by decide +kernel)) xD_25 hy309 ry309 eh309
                refine xi_iload (pc' := 82) (x := v307) kc_94_80 rfl rfl ?_
                refine xi_ireturn kc_94_82 mr_94 rfl ?_
                show xw J ov 100 195 (263, [(4, .int x4), (3, .ref 167), (2, .ref 115), (1, .ref 0), (0, .ref 1000000)], [.int v307], hh309) _
                refine xi_pop (pc' := 264) kc_195_263 rfl rfl ?_
                refine xi_aload_n (pc' := 265) (x := 115) kc_195_264 rfl rfl ?_
                refine xi_aload_n (pc' := 266) (x := 1000000) kc_195_265 rfl rfl ?_
                refine xi_iload (pc' := 268) (x := x4) kc_195_266 rfl rfl ?_
                refine xi_iconst (pc' := 269) (v := 1) kc_195_268 rfl rfl ?_
                refine xi_iadd (pc' := 270) (v := v8) kc_195_269 rfl ev8 ?_
                refine xi_ialoadO (pc' := 271) (v := 4) kc_195_270 rfl (by decide) hov0 (xi_in (by omega) (by omega)) ea9 ?_
                refine xi_aload_n (pc' := 272) (x := 1000000) kc_195_271 rfl rfl ?_
                refine xi_iload (pc' := 274) (x := x4) kc_195_272 rfl rfl ?_
                refine xi_iconst (pc' := 275) (v := 2) kc_195_274 rfl rfl ?_
                refine xi_iadd (pc' := 276) (v := v10) kc_195_275 rfl ev10 ?_
                refine xi_ialoadO (pc' := 277) (v := a11) kc_195_276 rfl (by decide) hov0 (xi_in (by omega) (by omega)) ea11 ?_
                refine xi_aload_n (pc' := 278) (x := 1000000) kc_195_277 rfl rfl ?_
                refine xi_iload (pc' := 280) (x := x4) kc_195_278 rfl rfl ?_
                refine xi_iconst (pc' := 281) (v := 3) kc_195_280 rfl rfl ?_
                refine xi_iadd (pc' := 282) (v := v12) kc_195_281 rfl ev12 ?_
                refine xi_ialoadO (pc' := 283) (v := a13) kc_195_282 rfl (by decide) hov0 (xi_in (by omega) (by omega)) ea13 ?_
                obtain ⟨u311, u312, u313, u314, u315, u316, u317, u318, u319, u320, u321, u322, u323, bu311, bu312, bu313, bu314, bu315, bu316, bu317, bu318, bu319, bu320, bu321, bu322, bu323, A324⟩ := xq_115 K.1
                have A325 := ((eh309.2.1 115 (by decide)).trans ((eh125.2.1 115 (by decide)).trans A324))
                refine xi_virtual (mj := 15) (as := [.int 4, .int a11, .int a13]) (st1 := []) (lv0 := [(0, .ref 115), (1, .int 4), (2, .int a11), (3, .int a13)]) kc_195_283 rfl rfl rfl rfl rfl A325 (Nat.le_of_ble_eq_true rfl) (hJ _ _ _ _ (by decide)) (xm_le ml_15 rfl) rfl ?_
                refine xi_aload_n (pc' := 1) (x := 115) kc_15_0 rfl rfl ?_
                refine xi_iconst (pc' := 2) (v := 0) kc_15_1 rfl rfl ?_
                refine xi_putfield (pc' := 5) (fs' := [.int 0, .int u312, .ref 116, .ref 117, .ref 118, .ref 119, .ref 120, .ref 121, .ref 122, .ref 123, .ref 124, .ref 125, .ref 126, .ref 127, .ref 128, .ref 129, .int u313, .ref 130, .int u314, .ref 131, .ref 132, .ref 133, .ref 134, .int u315, .ref 135, .ref 136, .ref 137, .ref 138, .ref 139, .ref 140, .ref 141, .ref 142, .int u316, .int u317, .int u318, .ref 143, .ref 144, .ref 145, .ref 146, .ref 147, .ref 148, .int u319, .ref 149, .ref 150, .ref 151, .int u320, .ref 152, .ref 153, .ref 154, .ref 155, .ref 156, .ref 157, .ref 158, .ref 159, .int u321, .ref 160, .int u322, .ref 161, .ref 162, .ref 163, .ref 164, .int u323, .ref 165, .ref 166]) kc_15_2 rfl rfl rfl A325 rfl rfl rfl (Nat.le_of_ble_eq_true rfl) rfl (fun hh327 eh326 => ?_)
                have K328 := xk_pf (k := 0) (v := 0) K310 (xk_wf (by decide +kernel)) xD_115 A325 rfl (by first | omega | decide) (by first | omega | decide) eh326 rfl
                refine xi_iload_n (pc' := 6) (x := 4) kc_15_5 rfl rfl ?_
                refine xi_static (mj := 10) (as := [.int 4]) (st1 := []) (lv0 := [(0, .int 4)]) kc_15_6 rfl rfl (Nat.le_of_ble_eq_true rfl) rfl rfl (Nat.le_of_ble_eq_true rfl) (hJ _ _ _ _ (by decide)) (xm_le ml_10 rfl) rfl ?_
                refine xi_iload_n (pc' := 1) (x := 4) kc_10_0 rfl rfl ?_
                refine xi_iconst (pc' := 2) (v := 0) kc_10_1 rfl rfl ?_
                refine xi_iconst (pc' := 3) (v := 5) kc_10_2 rfl rfl ?_
                refine xi_static (mj := 11) (as := [.int 4, .int 0, .int 5]) (st1 := []) (lv0 := [(0, .int 4), (1, .int 0), (2, .int 5)]) kc_10_3 rfl rfl (Nat.le_of_ble_eq_true rfl) rfl rfl (Nat.le_of_ble_eq_true rfl) (hJ _ _ _ _ (by decide)) (xm_le ml_11 rfl) rfl ?_
                refine xi_iload_n (pc' := 1) (x := 4) kc_11_0 rfl rfl ?_
                refine xi_iload_n (pc' := 2) (x := 0) kc_11_1 rfl rfl ?_
                refine xi_cmf (pc' := 5) kc_11_2 rfl rfl ?_
                refine xi_iload_n (pc' := 6) (x := 4) kc_11_5 rfl rfl ?_
                refine xi_iload_n (pc' := 7) (x := 5) kc_11_6 rfl rfl ?_
                refine xi_cmf (pc' := 10) kc_11_7 rfl rfl ?_
                refine xi_iconst (pc' := 11) (v := 1) kc_11_10 rfl rfl ?_
                refine xi_goto (pc' := 15) kc_11_11 rfl ?_
                refine xi_ireturn kc_11_15 mr_11 rfl ?_
                show xw J ov 98 10 (6, [(0, .int 4)], [.int 1], hh327) _
                refine xi_ireturn kc_10_6 mr_10 rfl ?_
                show xw J ov 99 15 (9, [(0, .ref 115), (1, .int 4), (2, .int a11), (3, .int a13)], [.int 1], hh327) _
                refine xi_iff (pc' := 12) kc_15_9 rfl rfl ?_
                refine xi_iload_n (pc' := 13) (x := a11) kc_15_12 rfl rfl ?_
                refine xi_iconst (pc' := 14) (v := 0) kc_15_13 rfl rfl ?_
                refine xi_bipush (pc' := 16) (v := 23) kc_15_14 rfl rfl ?_
                refine xi_static (mj := 11) (as := [.int a11, .int 0, .int 23]) (st1 := []) (lv0 := [(0, .int a11), (1, .int 0), (2, .int 23)]) kc_15_16 rfl rfl (Nat.le_of_ble_eq_true rfl) rfl rfl (Nat.le_of_ble_eq_true rfl) (hJ _ _ _ _ (by decide)) (xm_le ml_11 rfl) rfl ?_
                refine xi_iload_n (pc' := 1) (x := a11) kc_11_0 rfl rfl ?_
                refine xi_iload_n (pc' := 2) (x := 0) kc_11_1 rfl rfl ?_
                refine xi_cmf (pc' := 5) kc_11_2 rfl (xc_lt_f (X := a11.toInt) (Y := 0) rfl (by decide) (by omega)) ?_
                refine xi_iload_n (pc' := 6) (x := a11) kc_11_5 rfl rfl ?_
                refine xi_iload_n (pc' := 7) (x := 23) kc_11_6 rfl rfl ?_
                refine xi_cmf (pc' := 10) kc_11_7 rfl (xc_gt_f (X := a11.toInt) (Y := 23) rfl (by decide) (by omega)) ?_
                refine xi_iconst (pc' := 11) (v := 1) kc_11_10 rfl rfl ?_
                refine xi_goto (pc' := 15) kc_11_11 rfl ?_
                refine xi_ireturn kc_11_15 mr_11 rfl ?_
                show xw J ov 99 15 (19, [(0, .ref 115), (1, .int 4), (2, .int a11), (3, .int a13)], [.int 1], hh327) _
                refine xi_ift (pc' := 28) kc_15_19 rfl rfl ?_
                refine xi_iload_n (pc' := 29) (x := a13) kc_15_28 rfl rfl ?_
                refine xi_ift (pc' := 39) kc_15_29 rfl (xc_ge_t (X := a13.toInt) (Y := 0) rfl (by decide) (by omega)) ?_
                refine xi_iload_n (pc' := 40) (x := a13) kc_15_39 rfl rfl ?_
                refine xi_sipush (pc' := 43) (v := 999) kc_15_40 rfl rfl ?_
                refine xi_cmt (pc' := 53) kc_15_43 rfl (xc_le_t (X := a13.toInt) (Y := 999) rfl (by decide) (by omega)) ?_
                refine xi_aload_n (pc' := 54) (x := 115) kc_15_53 rfl rfl ?_
                refine xi_getfield (pc' := 57) (v := .ref 122) kc_15_54 rfl rfl rfl eh326.1 rfl ?_
                refine xi_bipush (pc' := 59) (v := 24) kc_15_57 rfl rfl ?_
                refine xi_iload_n (pc' := 60) (x := 4) kc_15_59 rfl rfl ?_
                refine xi_imul (pc' := 61) (v := 96) kc_15_60 rfl rfl ?_
                refine xi_iload_n (pc' := 62) (x := a11) kc_15_61 rfl rfl ?_
                obtain ⟨v329, ev329⟩ : ∃ q : Int32, 96 + a11 = q := ⟨_, rfl⟩
                have zv329 : v329.toInt = (a11.toInt + 96) := by rw [← ev329]; exact (xz_add (X := 96) (Y := a11.toInt) (by decide) rfl (by omega) (by omega)).trans (by omega)
                refine xi_iadd (pc' := 63) (v := v329) kc_15_62 rfl ev329 ?_
                have A330 := ((eh326.2.1 122 (by decide)).trans ((eh309.2.1 122 (by decide)).trans ((eh125.2.1 122 (by decide)).trans A2)))
                refine xi_iaload (pc' := 64) (v := v307) kc_15_63 rfl A330 (by decide) rfl (xi_in (by rw [zv329]; omega) (by rw [hy2]; rw [zv329]; omega)) (xE_ld H7 (by first | omega | decide) (by first | omega | decide) (by omega) ev307) ?_
                refine xi_istore (pc' := 66) (lv' := [(4, .int v307), (0, .ref 115), (1, .int 4), (2, .int a11), (3, .int a13)]) kc_15_64 rfl rfl (xm_lt ml_15 rfl) ?_
                refine xi_aload_n (pc' := 67) (x := 115) kc_15_66 rfl rfl ?_
                refine xi_getfield (pc' := 70) (v := .ref 122) kc_15_67 rfl rfl rfl eh326.1 rfl ?_
                refine xi_bipush (pc' := 72) (v := 24) kc_15_70 rfl rfl ?_
                refine xi_iload_n (pc' := 73) (x := 4) kc_15_72 rfl rfl ?_
                refine xi_imul (pc' := 74) (v := 96) kc_15_73 rfl rfl ?_
                refine xi_iload_n (pc' := 75) (x := a11) kc_15_74 rfl rfl ?_
                refine xi_iadd (pc' := 76) (v := v329) kc_15_75 rfl ev329 ?_
                refine xi_iload_n (pc' := 77) (x := a13) kc_15_76 rfl rfl ?_
                obtain ⟨y331, s331, hy331, ry331⟩ := xj_set (v := a13) hy2 ry2 v329 (by first | omega | decide) (by first | omega | decide)
                refine xi_iastore (pc' := 78) (x' := y331) kc_15_77 rfl A330 rfl (xi_in (by rw [zv329]; omega) (by rw [hy2]; rw [zv329]; omega)) s331 (fun hh331 eh331 => ?_)
                have K332 := xk_pa K328 (xk_wa (by decide +kernel)) xD_122 hy331 ry331 eh331
                refine xi_aload_n (pc' := 79) (x := 115) kc_15_78 rfl rfl ?_
                refine xi_iconst (pc' := 80) (v := 0) kc_15_79 rfl rfl ?_
                have A333 := ((eh331.2.1 115 (by decide)).trans eh326.1)
                refine xi_putfield (pc' := 83) (fs' := [.int 0, .int u312, .ref 116, .ref 117, .ref 118, .ref 119, .ref 120, .ref 121, .ref 122, .ref 123, .ref 124, .ref 125, .ref 126, .ref 127, .ref 128, .ref 129, .int u313, .ref 130, .int u314, .ref 131, .ref 132, .ref 133, .ref 134, .int u315, .ref 135, .ref 136, .ref 137, .ref 138, .ref 139, .ref 140, .ref 141, .ref 142, .int u316, .int u317, .int u318, .ref 143, .ref 144, .ref 145, .ref 146, .ref 147, .ref 148, .int 0, .ref 149, .ref 150, .ref 151, .int u320, .ref 152, .ref 153, .ref 154, .ref 155, .ref 156, .ref 157, .ref 158, .ref 159, .int u321, .ref 160, .int u322, .ref 161, .ref 162, .ref 163, .ref 164, .int u323, .ref 165, .ref 166]) kc_15_80 rfl rfl rfl A333 rfl rfl rfl (Nat.le_of_ble_eq_true rfl) rfl (fun hh335 eh334 => ?_)
                have K336 := xk_pf (k := 41) (v := 0) K332 (xk_wf (by decide +kernel)) xD_115 A333 rfl (by first | omega | decide) (by first | omega | decide) eh334 rfl
                refine xi_iload (pc' := 85) (x := v307) kc_15_83 rfl rfl ?_
                refine xi_ireturn kc_15_85 mr_15 rfl ?_
                show xw J ov 100 195 (286, [(4, .int x4), (3, .ref 167), (2, .ref 115), (1, .ref 0), (0, .ref 1000000)], [.int v307], hh335) _
                refine xi_pop (pc' := 287) kc_195_286 rfl rfl ?_
                refine xi_goto (pc' := 1501) kc_195_287 rfl ?_
                obtain ⟨v337, ev337⟩ : ∃ q : Int32, x4 + 6 = q := ⟨_, rfl⟩
                have zv337 : v337.toInt = (x4.toInt + 6) := by rw [← ev337]; exact (xz_add (X := x4.toInt) (Y := 6) rfl (by decide) (by omega) (by omega)).trans (by omega)
                refine xi_iinc (pc' := 1504) (x := x4) (v := v337) (lv' := [(4, .int v337), (3, .ref 167), (2, .ref 115), (1, .ref 0), (0, .ref 1000000)]) kc_195_1501 rfl rfl ev337 rfl (xm_lt ml_195 rfl) ?_
                refine xi_goto (pc' := 23) kc_195_1504 rfl ?_
                have A338 := ((eh334.2.1 13 (by decide)).trans ((eh331.2.1 13 (by decide)).trans ((eh326.2.1 13 (by decide)).trans ((eh309.2.1 13 (by decide)).trans ((eh125.2.1 13 (by decide)).trans A1)))))
                have A339 := ((eh334.2.1 122 (by decide)).trans eh331.1)
                have A340 := ((eh334.2.1 16 (by decide)).trans ((eh331.2.1 16 (by decide)).trans ((eh326.2.1 16 (by decide)).trans ((eh309.2.1 16 (by decide)).trans ((eh125.2.1 16 (by decide)).trans A3)))))
                have A341 := ((eh334.2.1 19 (by decide)).trans ((eh331.2.1 19 (by decide)).trans ((eh326.2.1 19 (by decide)).trans ((eh309.2.1 19 (by decide)).trans ((eh125.2.1 19 (by decide)).trans A4)))))
                have A342 := ((eh334.2.1 22 (by decide)).trans ((eh331.2.1 22 (by decide)).trans ((eh326.2.1 22 (by decide)).trans ((eh309.2.1 22 (by decide)).trans ((eh125.2.1 22 (by decide)).trans A5)))))
                have A343 := ((eh334.2.1 25 (by decide)).trans ((eh331.2.1 25 (by decide)).trans ((eh326.2.1 25 (by decide)).trans eh309.1)))
                have A344 := ((eh334.2.1 28 (by decide)).trans ((eh331.2.1 28 (by decide)).trans ((eh326.2.1 28 (by decide)).trans ((eh309.2.1 28 (by decide)).trans ((eh125.2.1 28 (by decide)).trans A7)))))
                exact kk v337 hh335 (by omega) K336 ⟨((K336.2.1 (0, 9) (by decide +kernel)).trans (I.1.trans (K336.2.1 (115, 1) (by decide +kernel)).symm)), (xWW_fr I.2.1 (K336.2.1 (64, 0) (by decide +kernel)) (K336.2.1 (121, 0) (by decide +kernel))), (xSG_fr I.2.2.1 (fun l hl => K336.2.1 l (xk_el (by decide +kernel) hl))), (xE_mk A338 A339 (xE_oth H3 (by first | omega | decide) (by omega) s331)), (xE_mk A340 A339 (xE_oth H4 (by first | omega | decide) (by omega) s331)), (xE_mk A341 A339 (xE_oth H5 (by first | omega | decide) (by omega) s331)), (xE_mk A342 A339 (xE_oth H6 (by first | omega | decide) (by omega) s331)), (xE_mk A343 A339 (xE_set H7 (by first | omega | decide) (by omega) (by omega) (by omega) s309 s331)), (xE_mk A344 A339 (xE_oth H8 (by first | omega | decide) (by omega) s331)), (by rw [(K336.2.1 (6, 0) (by decide +kernel)), (K336.2.1 (123, 0) (by decide +kernel))]; exact I.2.2.2.2.2.2.2.2.2.1), (by rw [(K336.2.1 (9, 0) (by decide +kernel)), (K336.2.1 (124, 0) (by decide +kernel))]; exact I.2.2.2.2.2.2.2.2.2.2.1), (by rw [(K336.2.1 (7, 0) (by decide +kernel)), (K336.2.1 (6, 0) (by decide +kernel))]; exact I.2.2.2.2.2.2.2.2.2.2.2.1), (by rw [(K336.2.1 (10, 0) (by decide +kernel)), (K336.2.1 (9, 0) (by decide +kernel))]; exact I.2.2.2.2.2.2.2.2.2.2.2.2.1), ((K336.2.1 (5, 0) (by decide +kernel)).trans I.2.2.2.2.2.2.2.2.2.2.2.2.2.1), ((K336.2.1 (8, 0) (by decide +kernel)).trans I.2.2.2.2.2.2.2.2.2.2.2.2.2.2.1), (xGR_fr I.2.2.2.2.2.2.2.2.2.2.2.2.2.2.2.1 K336.2.1 (by decide +kernel) (by decide +kernel)), (xGR_fr I.2.2.2.2.2.2.2.2.2.2.2.2.2.2.2.2.1 K336.2.1 (by decide +kernel) (by decide +kernel)), ((K336.2.1 (1, 5) (by decide +kernel)).trans (I.2.2.2.2.2.2.2.2.2.2.2.2.2.2.2.2.2.1.trans (K336.2.1 (115, 23) (by decide +kernel)).symm)), (xGR_fr I.2.2.2.2.2.2.2.2.2.2.2.2.2.2.2.2.2.2.1 K336.2.1 (by decide +kernel) (by decide +kernel)), (xGR_fr I.2.2.2.2.2.2.2.2.2.2.2.2.2.2.2.2.2.2.2.1 K336.2.1 (by decide +kernel) (by decide +kernel)), (xGR_fr I.2.2.2.2.2.2.2.2.2.2.2.2.2.2.2.2.2.2.2.2.1 K336.2.1 (by decide +kernel) (by decide +kernel)), (xGR_fr I.2.2.2.2.2.2.2.2.2.2.2.2.2.2.2.2.2.2.2.2.2.1 K336.2.1 (by decide +kernel) (by decide +kernel)), (by rw [(K336.2.1 (63, 2) (by decide +kernel)), (K336.2.1 (139, 0) (by decide +kernel)), (K336.2.1 (1, 5) (by decide +kernel))]; exact I.2.2.2.2.2.2.2.2.2.2.2.2.2.2.2.2.2.2.2.2.2.2.1), ((K336.2.1 (0, 8) (by decide +kernel)).trans (I.2.2.2.2.2.2.2.2.2.2.2.2.2.2.2.2.2.2.2.2.2.2.2.1.trans (K336.2.1 (115, 34) (by decide +kernel)).symm)), (xGR_fr I.2.2.2.2.2.2.2.2.2.2.2.2.2.2.2.2.2.2.2.2.2.2.2.2.1 K336.2.1 (by decide +kernel) (by decide +kernel)), (xGR_fr I.2.2.2.2.2.2.2.2.2.2.2.2.2.2.2.2.2.2.2.2.2.2.2.2.2.1 K336.2.1 (by decide +kernel) (by decide +kernel)), (xGR_fr I.2.2.2.2.2.2.2.2.2.2.2.2.2.2.2.2.2.2.2.2.2.2.2.2.2.2.1 K336.2.1 (by decide +kernel) (by decide +kernel)), (xGR_fr I.2.2.2.2.2.2.2.2.2.2.2.2.2.2.2.2.2.2.2.2.2.2.2.2.2.2.2.1 K336.2.1 (by decide +kernel) (by decide +kernel)), (xts_fr I.2.2.2.2.2.2.2.2.2.2.2.2.2.2.2.2.2.2.2.2.2.2.2.2.2.2.2.2.1 (fun l hl => K336.2.1 l (xk_el (by decide +kernel) hl))), ((K336.2.1 (63, 3) (by decide +kernel)).trans I.2.2.2.2.2.2.2.2.2.2.2.2.2.2.2.2.2.2.2.2.2.2.2.2.2.2.2.2.2)⟩
              have qa9 : a9 = 5 := xc_of (Eq.trans (by omega) (show (5 : Int) = (5 : Int32).toInt by decide))
              subst qa9
              have A345 := ((eh125.2.1 2 (by decide)).trans A134)
              refine xi_aaload (pc' := 64) (b := 26) kc_94_63 rfl A345 rfl (xi_in (n := 6) (by decide) (by decide)) rfl ?_
              have A346 := xq_26 K.1
              have A347 := ((eh125.2.1 26 (by decide)).trans A346)
              refine xi_getfield (pc' := 67) (v := .ref 28) kc_94_64 rfl rfl rfl A347 rfl ?_
              refine xi_astore (pc' := 69) (lv' := [(4, .ref 28), (0, .ref 0), (1, .int 5), (2, .int a11), (3, .int a13)]) kc_94_67 rfl rfl (xm_lt ml_94 rfl) ?_
              refine xi_aload (pc' := 71) (x := 28) kc_94_69 rfl rfl ?_
              refine xi_iload_n (pc' := 72) (x := a11) kc_94_71 rfl rfl ?_
              obtain ⟨v348, ev348, bv348, dv348⟩ := xj_get hy7 ry7 (i := a11) (by omega) (by omega)
              have A349 := ((eh125.2.1 28 (by decide)).trans A7)
              refine xi_iaload (pc' := 73) (v := v348) kc_94_72 rfl A349 (by decide) rfl (xi_in (by omega) (by rw [hy7]; omega)) ev348 ?_
              refine xi_istore (pc' := 75) (lv' := [(5, .int v348), (4, .ref 28), (0, .ref 0), (1, .int 5), (2, .int a11), (3, .int a13)]) kc_94_73 rfl rfl (xm_lt ml_94 rfl) ?_
              refine xi_aload (pc' := 77) (x := 28) kc_94_75 rfl rfl ?_
              refine xi_iload_n (pc' := 78) (x := a11) kc_94_77 rfl rfl ?_
              refine xi_iload_n (pc' := 79) (x := a13) kc_94_78 rfl rfl ?_
              obtain ⟨y350, s350, hy350, ry350⟩ := xj_set (v := a13) hy7 ry7 a11 (by first | omega | decide) (by first | omega | decide)
              refine xi_iastore (pc' := 80) (x' := y350) kc_94_79 rfl A349 rfl (xi_in (by omega) (by rw [hy7]; omega)) s350 (fun hh350 eh350 => ?_)
              have K351 := xk_pa K127 (xk_wa (by decide +kernel)) xD_28 hy350 ry350 eh350
              refine xi_iload (pc' := 82) (x := v348) kc_94_80 rfl rfl ?_
              refine xi_ireturn kc_94_82 mr_94 rfl ?_
              show xw J ov 100 195 (263, [(4, .int x4), (3, .ref 167), (2, .ref 115), (1, .ref 0), (0, .ref 1000000)], [.int v348], hh350) _
              refine xi_pop (pc' := 264) kc_195_263 rfl rfl ?_
              refine xi_aload_n (pc' := 265) (x := 115) kc_195_264 rfl rfl ?_
              refine xi_aload_n (pc' := 266) (x := 1000000) kc_195_265 rfl rfl ?_
              refine xi_iload (pc' := 268) (x := x4) kc_195_266 rfl rfl ?_
              refine xi_iconst (pc' := 269) (v := 1) kc_195_268 rfl rfl ?_
              refine xi_iadd (pc' := 270) (v := v8) kc_195_269 rfl ev8 ?_
              refine xi_ialoadO (pc' := 271) (v := 5) kc_195_270 rfl (by decide) hov0 (xi_in (by omega) (by omega)) ea9 ?_
              refine xi_aload_n (pc' := 272) (x := 1000000) kc_195_271 rfl rfl ?_
              refine xi_iload (pc' := 274) (x := x4) kc_195_272 rfl rfl ?_
              refine xi_iconst (pc' := 275) (v := 2) kc_195_274 rfl rfl ?_
              refine xi_iadd (pc' := 276) (v := v10) kc_195_275 rfl ev10 ?_
              refine xi_ialoadO (pc' := 277) (v := a11) kc_195_276 rfl (by decide) hov0 (xi_in (by omega) (by omega)) ea11 ?_
              refine xi_aload_n (pc' := 278) (x := 1000000) kc_195_277 rfl rfl ?_
              refine xi_iload (pc' := 280) (x := x4) kc_195_278 rfl rfl ?_
              refine xi_iconst (pc' := 281) (v := 3) kc_195_280 rfl rfl ?_
              refine xi_iadd (pc' := 282) (v := v12) kc_195_281 rfl ev12 ?_
              refine xi_ialoadO (pc' := 283) (v := a13) kc_195_282 rfl (by decide) hov0 (xi_in (by omega) (by omega)) ea13 ?_
              obtain ⟨u352, u353, u354, u355, u356, u357, u358, u359, u360, u361, u362, u363, u364, bu352, bu353, bu354, bu355, bu356, bu357, bu358, bu359, bu360, bu361, bu362, bu363, bu364, A365⟩ := xq_115 K.1
              have A366 := ((eh350.2.1 115 (by decide)).trans ((eh125.2.1 115 (by decide)).trans A365))
              refine xi_virtual (mj := 15) (as := [.int 5, .int a11, .int a13]) (st1 := []) (lv0 := [(0, .ref 115), (1, .int 5), (2, .int a11), (3, .int a13)]) kc_195_283 rfl rfl rfl rfl rfl A366 (Nat.le_of_ble_eq_true rfl) (hJ _ _ _ _ (by decide)) (xm_le ml_15 rfl) rfl ?_
              refine xi_aload_n (pc' := 1) (x := 115) kc_15_0 rfl rfl ?_
              refine xi_iconst (pc' := 2) (v := 0) kc_15_1 rfl rfl ?_
              refine xi_putfield (pc' := 5) (fs' := [.int 0, .int u353, .ref 116, .ref 117, .ref 118, .ref 119, .ref 120, .ref 121, .ref 122, .ref 123, .ref 124, .ref 125, .ref 126, .ref 127, .ref 128, .ref 129, .int u354, .ref 130, .int u355, .ref 131, .ref 132, .ref 133, .ref 134, .int u356, .ref 135, .ref 136, .ref 137, .ref 138, .ref 139, .ref 140, .ref 141, .ref 142, .int u357, .int u358, .int u359, .ref 143, .ref 144, .ref 145, .ref 146, .ref 147, .ref 148, .int u360, .ref 149, .ref 150, .ref 151, .int u361, .ref 152, .ref 153, .ref 154, .ref 155, .ref 156, .ref 157, .ref 158, .ref 159, .int u362, .ref 160, .int u363, .ref 161, .ref 162, .ref 163, .ref 164, .int u364, .ref 165, .ref 166]) kc_15_2 rfl rfl rfl A366 rfl rfl rfl (Nat.le_of_ble_eq_true rfl) rfl (fun hh368 eh367 => ?_)
              have K369 := xk_pf (k := 0) (v := 0) K351 (xk_wf (by decide +kernel)) xD_115 A366 rfl (by first | omega | decide) (by first | omega | decide) eh367 rfl
              refine xi_iload_n (pc' := 6) (x := 5) kc_15_5 rfl rfl ?_
              refine xi_static (mj := 10) (as := [.int 5]) (st1 := []) (lv0 := [(0, .int 5)]) kc_15_6 rfl rfl (Nat.le_of_ble_eq_true rfl) rfl rfl (Nat.le_of_ble_eq_true rfl) (hJ _ _ _ _ (by decide)) (xm_le ml_10 rfl) rfl ?_
              refine xi_iload_n (pc' := 1) (x := 5) kc_10_0 rfl rfl ?_
              refine xi_iconst (pc' := 2) (v := 0) kc_10_1 rfl rfl ?_
              refine xi_iconst (pc' := 3) (v := 5) kc_10_2 rfl rfl ?_
              refine xi_static (mj := 11) (as := [.int 5, .int 0, .int 5]) (st1 := []) (lv0 := [(0, .int 5), (1, .int 0), (2, .int 5)]) kc_10_3 rfl rfl (Nat.le_of_ble_eq_true rfl) rfl rfl (Nat.le_of_ble_eq_true rfl) (hJ _ _ _ _ (by decide)) (xm_le ml_11 rfl) rfl ?_
              refine xi_iload_n (pc' := 1) (x := 5) kc_11_0 rfl rfl ?_
              refine xi_iload_n (pc' := 2) (x := 0) kc_11_1 rfl rfl ?_
              refine xi_cmf (pc' := 5) kc_11_2 rfl rfl ?_
              refine xi_iload_n (pc' := 6) (x := 5) kc_11_5 rfl rfl ?_
              refine xi_iload_n (pc' := 7) (x := 5) kc_11_6 rfl rfl ?_
              refine xi_cmf (pc' := 10) kc_11_7 rfl rfl ?_
              refine xi_iconst (pc' := 11) (v := 1) kc_11_10 rfl rfl ?_
              refine xi_goto (pc' := 15) kc_11_11 rfl ?_
              refine xi_ireturn kc_11_15 mr_11 rfl ?_
              show xw J ov 98 10 (6, [(0, .int 5)], [.int 1], hh368) _
              refine xi_ireturn kc_10_6 mr_10 rfl ?_
              show xw J ov 99 15 (9, [(0, .ref 115), (1, .int 5), (2, .int a11), (3, .int a13)], [.int 1], hh368) _
              refine xi_iff (pc' := 12) kc_15_9 rfl rfl ?_
              refine xi_iload_n (pc' := 13) (x := a11) kc_15_12 rfl rfl ?_
              refine xi_iconst (pc' := 14) (v := 0) kc_15_13 rfl rfl ?_
              refine xi_bipush (pc' := 16) (v := 23) kc_15_14 rfl rfl ?_
              refine xi_static (mj := 11) (as := [.int a11, .int 0, .int 23]) (st1 := []) (lv0 := [(0, .int a11), (1, .int 0), (2, .int 23)]) kc_15_16 rfl rfl (Nat.le_of_ble_eq_true rfl) rfl rfl (Nat.le_of_ble_eq_true rfl) (hJ _ _ _ _ (by decide)) (xm_le ml_11 rfl) rfl ?_
              refine xi_iload_n (pc' := 1) (x := a11) kc_11_0 rfl rfl ?_
              refine xi_iload_n (pc' := 2) (x := 0) kc_11_1 rfl rfl ?_
              refine xi_cmf (pc' := 5) kc_11_2 rfl (xc_lt_f (X := a11.toInt) (Y := 0) rfl (by decide) (by omega)) ?_
              refine xi_iload_n (pc' := 6) (x := a11) kc_11_5 rfl rfl ?_
              refine xi_iload_n (pc' := 7) (x := 23) kc_11_6 rfl rfl ?_
              refine xi_cmf (pc' := 10) kc_11_7 rfl (xc_gt_f (X := a11.toInt) (Y := 23) rfl (by decide) (by omega)) ?_
              refine xi_iconst (pc' := 11) (v := 1) kc_11_10 rfl rfl ?_
              refine xi_goto (pc' := 15) kc_11_11 rfl ?_
              refine xi_ireturn kc_11_15 mr_11 rfl ?_
              show xw J ov 99 15 (19, [(0, .ref 115), (1, .int 5), (2, .int a11), (3, .int a13)], [.int 1], hh368) _
              refine xi_ift (pc' := 28) kc_15_19 rfl rfl ?_
              refine xi_iload_n (pc' := 29) (x := a13) kc_15_28 rfl rfl ?_
              refine xi_ift (pc' := 39) kc_15_29 rfl (xc_ge_t (X := a13.toInt) (Y := 0) rfl (by decide) (by omega)) ?_
              refine xi_iload_n (pc' := 40) (x := a13) kc_15_39 rfl rfl ?_
              refine xi_sipush (pc' := 43) (v := 999) kc_15_40 rfl rfl ?_
              refine xi_cmt (pc' := 53) kc_15_43 rfl (xc_le_t (X := a13.toInt) (Y := 999) rfl (by decide) (by omega)) ?_
              refine xi_aload_n (pc' := 54) (x := 115) kc_15_53 rfl rfl ?_
              refine xi_getfield (pc' := 57) (v := .ref 122) kc_15_54 rfl rfl rfl eh367.1 rfl ?_
              refine xi_bipush (pc' := 59) (v := 24) kc_15_57 rfl rfl ?_
              refine xi_iload_n (pc' := 60) (x := 5) kc_15_59 rfl rfl ?_
              refine xi_imul (pc' := 61) (v := 120) kc_15_60 rfl rfl ?_
              refine xi_iload_n (pc' := 62) (x := a11) kc_15_61 rfl rfl ?_
              obtain ⟨v370, ev370⟩ : ∃ q : Int32, 120 + a11 = q := ⟨_, rfl⟩
              have zv370 : v370.toInt = (a11.toInt + 120) := by rw [← ev370]; exact (xz_add (X := 120) (Y := a11.toInt) (by decide) rfl (by omega) (by omega)).trans (by omega)
              refine xi_iadd (pc' := 63) (v := v370) kc_15_62 rfl ev370 ?_
              have A371 := ((eh367.2.1 122 (by decide)).trans ((eh350.2.1 122 (by decide)).trans ((eh125.2.1 122 (by decide)).trans A2)))
              refine xi_iaload (pc' := 64) (v := v348) kc_15_63 rfl A371 (by decide) rfl (xi_in (by rw [zv370]; omega) (by rw [hy2]; rw [zv370]; omega)) (xE_ld H8 (by first | omega | decide) (by first | omega | decide) (by omega) ev348) ?_
              refine xi_istore (pc' := 66) (lv' := [(4, .int v348), (0, .ref 115), (1, .int 5), (2, .int a11), (3, .int a13)]) kc_15_64 rfl rfl (xm_lt ml_15 rfl) ?_
              refine xi_aload_n (pc' := 67) (x := 115) kc_15_66 rfl rfl ?_
              refine xi_getfield (pc' := 70) (v := .ref 122) kc_15_67 rfl rfl rfl eh367.1 rfl ?_
              refine xi_bipush (pc' := 72) (v := 24) kc_15_70 rfl rfl ?_
              refine xi_iload_n (pc' := 73) (x := 5) kc_15_72 rfl rfl ?_
              refine xi_imul (pc' := 74) (v := 120) kc_15_73 rfl rfl ?_
              refine xi_iload_n (pc' := 75) (x := a11) kc_15_74 rfl rfl ?_
              refine xi_iadd (pc' := 76) (v := v370) kc_15_75 rfl ev370 ?_
              refine xi_iload_n (pc' := 77) (x := a13) kc_15_76 rfl rfl ?_
              obtain ⟨y372, s372, hy372, ry372⟩ := xj_set (v := a13) hy2 ry2 v370 (by first | omega | decide) (by first | omega | decide)
              refine xi_iastore (pc' := 78) (x' := y372) kc_15_77 rfl A371 rfl (xi_in (by rw [zv370]; omega) (by rw [hy2]; rw [zv370]; omega)) s372 (fun hh372 eh372 => ?_)
              have K373 := xk_pa K369 (xk_wa (by decide +kernel)) xD_122 hy372 ry372 eh372
              refine xi_aload_n (pc' := 79) (x := 115) kc_15_78 rfl rfl ?_
              refine xi_iconst (pc' := 80) (v := 0) kc_15_79 rfl rfl ?_
              have A374 := ((eh372.2.1 115 (by decide)).trans eh367.1)
              refine xi_putfield (pc' := 83) (fs' := [.int 0, .int u353, .ref 116, .ref 117, .ref 118, .ref 119, .ref 120, .ref 121, .ref 122, .ref 123, .ref 124, .ref 125, .ref 126, .ref 127, .ref 128, .ref 129, .int u354, .ref 130, .int u355, .ref 131, .ref 132, .ref 133, .ref 134, .int u356, .ref 135, .ref 136, .ref 137, .ref 138, .ref 139, .ref 140, .ref 141, .ref 142, .int u357, .int u358, .int u359, .ref 143, .ref 144, .ref 145, .ref 146, .ref 147, .ref 148, .int 0, .ref 149, .ref 150, .ref 151, .int u361, .ref 152, .ref 153, .ref 154, .ref 155, .ref 156, .ref 157, .ref 158, .ref 159, .int u362, .ref 160, .int u363, .ref 161, .ref 162, .ref 163, .ref 164, .int u364, .ref 165, .ref 166]) kc_15_80 rfl rfl rfl A374 rfl rfl rfl (Nat.le_of_ble_eq_true rfl) rfl (fun hh376 eh375 => ?_)
              have K377 := xk_pf (k := 41) (v := 0) K373 (xk_wf (by decide +kernel)) xD_115 A374 rfl (by first | omega | decide) (by first | omega | decide) eh375 rfl
              refine xi_iload (pc' := 85) (x := v348) kc_15_83 rfl rfl ?_
              refine xi_ireturn kc_15_85 mr_15 rfl ?_
              show xw J ov 100 195 (286, [(4, .int x4), (3, .ref 167), (2, .ref 115), (1, .ref 0), (0, .ref 1000000)], [.int v348], hh376) _
              refine xi_pop (pc' := 287) kc_195_286 rfl rfl ?_
              refine xi_goto (pc' := 1501) kc_195_287 rfl ?_
              obtain ⟨v378, ev378⟩ : ∃ q : Int32, x4 + 6 = q := ⟨_, rfl⟩
              have zv378 : v378.toInt = (x4.toInt + 6) := by rw [← ev378]; exact (xz_add (X := x4.toInt) (Y := 6) rfl (by decide) (by omega) (by omega)).trans (by omega)
              refine xi_iinc (pc' := 1504) (x := x4) (v := v378) (lv' := [(4, .int v378), (3, .ref 167), (2, .ref 115), (1, .ref 0), (0, .ref 1000000)]) kc_195_1501 rfl rfl ev378 rfl (xm_lt ml_195 rfl) ?_
              refine xi_goto (pc' := 23) kc_195_1504 rfl ?_
              have A379 := ((eh375.2.1 13 (by decide)).trans ((eh372.2.1 13 (by decide)).trans ((eh367.2.1 13 (by decide)).trans ((eh350.2.1 13 (by decide)).trans ((eh125.2.1 13 (by decide)).trans A1)))))
              have A380 := ((eh375.2.1 122 (by decide)).trans eh372.1)
              have A381 := ((eh375.2.1 16 (by decide)).trans ((eh372.2.1 16 (by decide)).trans ((eh367.2.1 16 (by decide)).trans ((eh350.2.1 16 (by decide)).trans ((eh125.2.1 16 (by decide)).trans A3)))))
              have A382 := ((eh375.2.1 19 (by decide)).trans ((eh372.2.1 19 (by decide)).trans ((eh367.2.1 19 (by decide)).trans ((eh350.2.1 19 (by decide)).trans ((eh125.2.1 19 (by decide)).trans A4)))))
              have A383 := ((eh375.2.1 22 (by decide)).trans ((eh372.2.1 22 (by decide)).trans ((eh367.2.1 22 (by decide)).trans ((eh350.2.1 22 (by decide)).trans ((eh125.2.1 22 (by decide)).trans A5)))))
              have A384 := ((eh375.2.1 25 (by decide)).trans ((eh372.2.1 25 (by decide)).trans ((eh367.2.1 25 (by decide)).trans ((eh350.2.1 25 (by decide)).trans ((eh125.2.1 25 (by decide)).trans A6)))))
              have A385 := ((eh375.2.1 28 (by decide)).trans ((eh372.2.1 28 (by decide)).trans ((eh367.2.1 28 (by decide)).trans eh350.1)))
              exact kk v378 hh376 (by omega) K377 ⟨((K377.2.1 (0, 9) (by decide +kernel)).trans (I.1.trans (K377.2.1 (115, 1) (by decide +kernel)).symm)), (xWW_fr I.2.1 (K377.2.1 (64, 0) (by decide +kernel)) (K377.2.1 (121, 0) (by decide +kernel))), (xSG_fr I.2.2.1 (fun l hl => K377.2.1 l (xk_el (by decide +kernel) hl))), (xE_mk A379 A380 (xE_oth H3 (by first | omega | decide) (by omega) s372)), (xE_mk A381 A380 (xE_oth H4 (by first | omega | decide) (by omega) s372)), (xE_mk A382 A380 (xE_oth H5 (by first | omega | decide) (by omega) s372)), (xE_mk A383 A380 (xE_oth H6 (by first | omega | decide) (by omega) s372)), (xE_mk A384 A380 (xE_oth H7 (by first | omega | decide) (by omega) s372)), (xE_mk A385 A380 (xE_set H8 (by first | omega | decide) (by omega) (by omega) (by omega) s350 s372)), (by rw [(K377.2.1 (6, 0) (by decide +kernel)), (K377.2.1 (123, 0) (by decide +kernel))]; exact I.2.2.2.2.2.2.2.2.2.1), (by rw [(K377.2.1 (9, 0) (by decide +kernel)), (K377.2.1 (124, 0) (by decide +kernel))]; exact I.2.2.2.2.2.2.2.2.2.2.1), (by rw [(K377.2.1 (7, 0) (by decide +kernel)), (K377.2.1 (6, 0) (by decide +kernel))]; exact I.2.2.2.2.2.2.2.2.2.2.2.1), (by rw [(K377.2.1 (10, 0) (by decide +kernel)), (K377.2.1 (9, 0) (by decide +kernel))]; exact I.2.2.2.2.2.2.2.2.2.2.2.2.1), ((K377.2.1 (5, 0) (by decide +kernel)).trans I.2.2.2.2.2.2.2.2.2.2.2.2.2.1), ((K377.2.1 (8, 0) (by decide +kernel)).trans I.2.2.2.2.2.2.2.2.2.2.2.2.2.2.1), (xGR_fr I.2.2.2.2.2.2.2.2.2.2.2.2.2.2.2.1 K377.2.1 (by decide +kernel) (by decide +kernel)), (xGR_fr I.2.2.2.2.2.2.2.2.2.2.2.2.2.2.2.2.1 K377.2.1 (by decide +kernel) (by decide +kernel)), ((K377.2.1 (1, 5) (by decide +kernel)).trans (I.2.2.2.2.2.2.2.2.2.2.2.2.2.2.2.2.2.1.trans (K377.2.1 (115, 23) (by decide +kernel)).symm)), (xGR_fr I.2.2.2.2.2.2.2.2.2.2.2.2.2.2.2.2.2.2.1 K377.2.1 (by decide +kernel) (by decide +kernel)), (xGR_fr I.2.2.2.2.2.2.2.2.2.2.2.2.2.2.2.2.2.2.2.1 K377.2.1 (by decide +kernel) (by decide +kernel)), (xGR_fr I.2.2.2.2.2.2.2.2.2.2.2.2.2.2.2.2.2.2.2.2.1 K377.2.1 (by decide +kernel) (by decide +kernel)), (xGR_fr I.2.2.2.2.2.2.2.2.2.2.2.2.2.2.2.2.2.2.2.2.2.1 K377.2.1 (by decide +kernel) (by decide +kernel)), (by rw [(K377.2.1 (63, 2) (by decide +kernel)), (K377.2.1 (139, 0) (by decide +kernel)), (K377.2.1 (1, 5) (by decide +kernel))]; exact I.2.2.2.2.2.2.2.2.2.2.2.2.2.2.2.2.2.2.2.2.2.2.1), ((K377.2.1 (0, 8) (by decide +kernel)).trans (I.2.2.2.2.2.2.2.2.2.2.2.2.2.2.2.2.2.2.2.2.2.2.2.1.trans (K377.2.1 (115, 34) (by decide +kernel)).symm)), (xGR_fr I.2.2.2.2.2.2.2.2.2.2.2.2.2.2.2.2.2.2.2.2.2.2.2.2.1 K377.2.1 (by decide +kernel) (by decide +kernel)), (xGR_fr I.2.2.2.2.2.2.2.2.2.2.2.2.2.2.2.2.2.2.2.2.2.2.2.2.2.1 K377.2.1 (by decide +kernel) (by decide +kernel)), (xGR_fr I.2.2.2.2.2.2.2.2.2.2.2.2.2.2.2.2.2.2.2.2.2.2.2.2.2.2.1 K377.2.1 (by decide +kernel) (by decide +kernel)), (xGR_fr I.2.2.2.2.2.2.2.2.2.2.2.2.2.2.2.2.2.2.2.2.2.2.2.2.2.2.2.1 K377.2.1 (by decide +kernel) (by decide +kernel)), (xts_fr I.2.2.2.2.2.2.2.2.2.2.2.2.2.2.2.2.2.2.2.2.2.2.2.2.2.2.2.2.1 (fun l hl => K377.2.1 l (xk_el (by decide +kernel) hl))), ((K377.2.1 (63, 3) (by decide +kernel)).trans I.2.2.2.2.2.2.2.2.2.2.2.2.2.2.2.2.2.2.2.2.2.2.2.2.2.2.2.2.2)⟩
            · refine xi_cmf (pc' := 41) kc_94_38 rfl (xc_le_f (X := a13.toInt) (Y := 999) rfl (by decide) (by omega)) ?_
              refine xi_aload_n (pc' := 42) (x := 0) kc_94_41 rfl rfl ?_
              refine xi_bipush (pc' := 44) (v := (-6)) kc_94_42 rfl rfl ?_
              refine xi_virtual (mj := 90) (as := [.int (-6)]) (st1 := []) (lv0 := [(0, .ref 0), (1, .int (-6))]) kc_94_44 rfl rfl rfl rfl rfl A16 (Nat.le_of_ble_eq_true rfl) (hJ _ _ _ _ (by decide)) (xm_le ml_90 rfl) rfl ?_
              refine xi_iload_n (pc' := 1) (x := (-6)) kc_90_0 rfl rfl ?_
              refine xi_ineg (pc' := 2) (v := 6) kc_90_1 rfl rfl ?_
              refine xi_istore_n (pc' := 3) (lv' := [(2, .int 6), (0, .ref 0), (1, .int (-6))]) kc_90_2 rfl rfl (xm_lt ml_90 rfl) ?_
              refine xi_iload_n (pc' := 4) (x := 6) kc_90_3 rfl rfl ?_
              refine xi_iff (pc' := 7) kc_90_4 rfl rfl ?_
              refine xi_iload_n (pc' := 8) (x := 6) kc_90_7 rfl rfl ?_
              refine xi_aload_n (pc' := 9) (x := 0) kc_90_8 rfl rfl ?_
              refine xi_getfield (pc' := 12) (v := .ref 94) kc_90_9 rfl rfl rfl A16 rfl ?_
              obtain ⟨y386, A386, hy386, ry386⟩ := xk_arr K.1 xD_94
              refine xi_arraylength (pc' := 13) (n := 7) (v := 7) kc_90_12 rfl (xl_lenI (by decide) (by decide) A386 hy386) rfl ?_
              refine xi_cmf (pc' := 16) kc_90_13 rfl rfl ?_
              refine xi_aload_n (pc' := 17) (x := 0) kc_90_16 rfl rfl ?_
              refine xi_getfield (pc' := 20) (v := .ref 94) kc_90_17 rfl rfl rfl A16 rfl ?_
              refine xi_iload_n (pc' := 21) (x := 6) kc_90_20 rfl rfl ?_
              refine xi_dup2 (pc' := 22) kc_90_21 rfl ⟨rfl, rfl⟩ ?_
              obtain ⟨v387, ev387, bv387, dv387⟩ := xj_get hy386 ry386 (i := 6) (by decide) (by decide)
              refine xi_iaload (pc' := 23) (v := v387) kc_90_22 rfl A386 (by decide) rfl (xi_in (by decide) (by rw [hy386]; decide)) ev387 ?_
              refine xi_iconst (pc' := 24) (v := 1) kc_90_23 rfl rfl ?_
              obtain ⟨v388, ev388⟩ : ∃ q : Int32, (v387 : Int32) + 1 = q := ⟨_, rfl⟩
              have rv388 := xc_rng v388
              refine xi_iadd (pc' := 25) (v := v388) kc_90_24 rfl ev388 ?_
              obtain ⟨y389, s389, hy389, ry389⟩ := xj_set (v := v388) hy386 ry386 6 (by first | omega | decide) (by first | omega | decide)
              refine xi_iastore (pc' := 26) (x' := y389) kc_90_25 rfl A386 rfl (xi_in (by decide) (by rw [hy386]; decide)) s389 (fun hh389 eh389 => ?_)
              have K390 := xk_pa K (xk_wa (by decide +kernel)) xD_94 hy389 ry389 eh389
              have KR391 := xk_pa KR (xk_wa (by decide +kernel)) xD_94 hy389 ry389 eh389
              refine xi_iload_n (pc' := 27) (x := (-6)) kc_90_26 rfl rfl ?_
              refine xi_ireturn kc_90_27 mr_90 rfl ?_
              show xw J ov 99 94 (47, [(0, .ref 0), (1, .int a9), (2, .int a11), (3, .int a13)], [.int (-6)], hh389) _
              refine xi_ireturn kc_94_47 mr_94 rfl ?_
              show xw J ov 100 195 (263, [(4, .int x4), (3, .ref 167), (2, .ref 115), (1, .ref 0), (0, .ref 1000000)], [.int (-6)], hh389) _
              refine xi_pop (pc' := 264) kc_195_263 rfl rfl ?_
              refine xi_aload_n (pc' := 265) (x := 115) kc_195_264 rfl rfl ?_
              refine xi_aload_n (pc' := 266) (x := 1000000) kc_195_265 rfl rfl ?_
              refine xi_iload (pc' := 268) (x := x4) kc_195_266 rfl rfl ?_
              refine xi_iconst (pc' := 269) (v := 1) kc_195_268 rfl rfl ?_
              refine xi_iadd (pc' := 270) (v := v8) kc_195_269 rfl ev8 ?_
              refine xi_ialoadO (pc' := 271) (v := a9) kc_195_270 rfl (by decide) hov0 (xi_in (by omega) (by omega)) ea9 ?_
              refine xi_aload_n (pc' := 272) (x := 1000000) kc_195_271 rfl rfl ?_
              refine xi_iload (pc' := 274) (x := x4) kc_195_272 rfl rfl ?_
              refine xi_iconst (pc' := 275) (v := 2) kc_195_274 rfl rfl ?_
              refine xi_iadd (pc' := 276) (v := v10) kc_195_275 rfl ev10 ?_
              refine xi_ialoadO (pc' := 277) (v := a11) kc_195_276 rfl (by decide) hov0 (xi_in (by omega) (by omega)) ea11 ?_
              refine xi_aload_n (pc' := 278) (x := 1000000) kc_195_277 rfl rfl ?_
              refine xi_iload (pc' := 280) (x := x4) kc_195_278 rfl rfl ?_
              refine xi_iconst (pc' := 281) (v := 3) kc_195_280 rfl rfl ?_
              refine xi_iadd (pc' := 282) (v := v12) kc_195_281 rfl ev12 ?_
              refine xi_ialoadO (pc' := 283) (v := a13) kc_195_282 rfl (by decide) hov0 (xi_in (by omega) (by omega)) ea13 ?_
              obtain ⟨u392, u393, u394, u395, u396, u397, u398, u399, u400, u401, u402, u403, u404, bu392, bu393, bu394, bu395, bu396, bu397, bu398, bu399, bu400, bu401, bu402, bu403, bu404, A405⟩ := xq_115 K.1
              have A406 := ((eh389.2.1 115 (by decide)).trans A405)
              refine xi_virtual (mj := 15) (as := [.int a9, .int a11, .int a13]) (st1 := []) (lv0 := [(0, .ref 115), (1, .int a9), (2, .int a11), (3, .int a13)]) kc_195_283 rfl rfl rfl rfl rfl A406 (Nat.le_of_ble_eq_true rfl) (hJ _ _ _ _ (by decide)) (xm_le ml_15 rfl) rfl ?_
              refine xi_aload_n (pc' := 1) (x := 115) kc_15_0 rfl rfl ?_
              refine xi_iconst (pc' := 2) (v := 0) kc_15_1 rfl rfl ?_
              refine xi_putfield (pc' := 5) (fs' := [.int 0, .int u393, .ref 116, .ref 117, .ref 118, .ref 119, .ref 120, .ref 121, .ref 122, .ref 123, .ref 124, .ref 125, .ref 126, .ref 127, .ref 128, .ref 129, .int u394, .ref 130, .int u395, .ref 131, .ref 132, .ref 133, .ref 134, .int u396, .ref 135, .ref 136, .ref 137, .ref 138, .ref 139, .ref 140, .ref 141, .ref 142, .int u397, .int u398, .int u399, .ref 143, .ref 144, .ref 145, .ref 146, .ref 147, .ref 148, .int u400, .ref 149, .ref 150, .ref 151, .int u401, .ref 152, .ref 153, .ref 154, .ref 155, .ref 156, .ref 157, .ref 158, .ref 159, .int u402, .ref 160, .int u403, .ref 161, .ref 162, .ref 163, .ref 164, .int u404, .ref 165, .ref 166]) kc_15_2 rfl rfl rfl A406 rfl rfl rfl (Nat.le_of_ble_eq_true rfl) rfl (fun hh408 eh407 => ?_)
              have K409 := xk_pf (k := 0) (v := 0) K390 (xk_wf (by decide +kernel)) xD_115 A406 rfl (by first | omega | decide) (by first | omega | decide) eh407 rfl
              have KR410 := xk_pf (k := 0) (v := 0) KR391 (xk_wf (by decide +kernel)) xD_115 A406 rfl (by first | omega | decide) (by first | omega | decide) eh407 rfl
              refine xi_iload_n (pc' := 6) (x := a9) kc_15_5 rfl rfl ?_
              refine xi_static (mj := 10) (as := [.int a9]) (st1 := []) (lv0 := [(0, .int a9)]) kc_15_6 rfl rfl (Nat.le_of_ble_eq_true rfl) rfl rfl (Nat.le_of_ble_eq_true rfl) (hJ _ _ _ _ (by decide)) (xm_le ml_10 rfl) rfl ?_
              refine xi_iload_n (pc' := 1) (x := a9) kc_10_0 rfl rfl ?_
              refine xi_iconst (pc' := 2) (v := 0) kc_10_1 rfl rfl ?_
              refine xi_iconst (pc' := 3) (v := 5) kc_10_2 rfl rfl ?_
              refine xi_static (mj := 11) (as := [.int a9, .int 0, .int 5]) (st1 := []) (lv0 := [(0, .int a9), (1, .int 0), (2, .int 5)]) kc_10_3 rfl rfl (Nat.le_of_ble_eq_true rfl) rfl rfl (Nat.le_of_ble_eq_true rfl) (hJ _ _ _ _ (by decide)) (xm_le ml_11 rfl) rfl ?_
              refine xi_iload_n (pc' := 1) (x := a9) kc_11_0 rfl rfl ?_
              refine xi_iload_n (pc' := 2) (x := 0) kc_11_1 rfl rfl ?_
              refine xi_cmf (pc' := 5) kc_11_2 rfl (xc_lt_f (X := a9.toInt) (Y := 0) rfl (by decide) (by omega)) ?_
              refine xi_iload_n (pc' := 6) (x := a9) kc_11_5 rfl rfl ?_
              refine xi_iload_n (pc' := 7) (x := 5) kc_11_6 rfl rfl ?_
              refine xi_cmf (pc' := 10) kc_11_7 rfl (xc_gt_f (X := a9.toInt) (Y := 5) rfl (by decide) (by omega)) ?_
              refine xi_iconst (pc' := 11) (v := 1) kc_11_10 rfl rfl ?_
              refine xi_goto (pc' := 15) kc_11_11 rfl ?_
              refine xi_ireturn kc_11_15 mr_11 rfl ?_
              show xw J ov 98 10 (6, [(0, .int a9)], [.int 1], hh408) _
              refine xi_ireturn kc_10_6 mr_10 rfl ?_
              show xw J ov 99 15 (9, [(0, .ref 115), (1, .int a9), (2, .int a11), (3, .int a13)], [.int 1], hh408) _
              refine xi_iff (pc' := 12) kc_15_9 rfl rfl ?_
              refine xi_iload_n (pc' := 13) (x := a11) kc_15_12 rfl rfl ?_
              refine xi_iconst (pc' := 14) (v := 0) kc_15_13 rfl rfl ?_
              refine xi_bipush (pc' := 16) (v := 23) kc_15_14 rfl rfl ?_
              refine xi_static (mj := 11) (as := [.int a11, .int 0, .int 23]) (st1 := []) (lv0 := [(0, .int a11), (1, .int 0), (2, .int 23)]) kc_15_16 rfl rfl (Nat.le_of_ble_eq_true rfl) rfl rfl (Nat.le_of_ble_eq_true rfl) (hJ _ _ _ _ (by decide)) (xm_le ml_11 rfl) rfl ?_
              refine xi_iload_n (pc' := 1) (x := a11) kc_11_0 rfl rfl ?_
              refine xi_iload_n (pc' := 2) (x := 0) kc_11_1 rfl rfl ?_
              refine xi_cmf (pc' := 5) kc_11_2 rfl (xc_lt_f (X := a11.toInt) (Y := 0) rfl (by decide) (by omega)) ?_
              refine xi_iload_n (pc' := 6) (x := a11) kc_11_5 rfl rfl ?_
              refine xi_iload_n (pc' := 7) (x := 23) kc_11_6 rfl rfl ?_
              refine xi_cmf (pc' := 10) kc_11_7 rfl (xc_gt_f (X := a11.toInt) (Y := 23) rfl (by decide) (by omega)) ?_
              refine xi_iconst (pc' := 11) (v := 1) kc_11_10 rfl rfl ?_
              refine xi_goto (pc' := 15) kc_11_11 rfl ?_
              refine xi_ireturn kc_11_15 mr_11 rfl ?_
              show xw J ov 99 15 (19, [(0, .ref 115), (1, .int a9), (2, .int a11), (3, .int a13)], [.int 1], hh408) _
              refine xi_ift (pc' := 28) kc_15_19 rfl rfl ?_
              refine xi_iload_n (pc' := 29) (x := a13) kc_15_28 rfl rfl ?_
              refine xi_ift (pc' := 39) kc_15_29 rfl (xc_ge_t (X := a13.toInt) (Y := 0) rfl (by decide) (by omega)) ?_
              refine xi_iload_n (pc' := 40) (x := a13) kc_15_39 rfl rfl ?_
              refine xi_sipush (pc' := 43) (v := 999) kc_15_40 rfl rfl ?_
              refine xi_cmf (pc' := 46) kc_15_43 rfl (xc_le_f (X := a13.toInt) (Y := 999) rfl (by decide) (by omega)) ?_
              refine xi_aload_n (pc' := 47) (x := 115) kc_15_46 rfl rfl ?_
              refine xi_bipush (pc' := 49) (v := (-6)) kc_15_47 rfl rfl ?_
              refine xi_virtual (mj := 12) (as := [.int (-6)]) (st1 := []) (lv0 := [(0, .ref 115), (1, .int (-6))]) kc_15_49 rfl rfl rfl rfl rfl eh407.1 (Nat.le_of_ble_eq_true rfl) (hJ _ _ _ _ (by decide)) (xm_le ml_12 rfl) rfl ?_
              refine xi_aload_n (pc' := 1) (x := 115) kc_12_0 rfl rfl ?_
              refine xi_getfield (pc' := 4) (v := .ref 140) kc_12_1 rfl rfl rfl eh407.1 rfl ?_
              refine xi_iload_n (pc' := 5) (x := (-6)) kc_12_4 rfl rfl ?_
              refine xi_ineg (pc' := 6) (v := 6) kc_12_5 rfl rfl ?_
              refine xi_dup2 (pc' := 7) kc_12_6 rfl ⟨rfl, rfl⟩ ?_
              obtain ⟨y411, A411, hy411, ry411⟩ := xk_arr K.1 xD_140
              obtain ⟨v412, ev412, bv412, dv412⟩ := xj_get hy411 ry411 (i := 6) (by decide) (by decide)
              have A413 := ((eh407.2.1 140 (by decide)).trans ((eh389.2.1 140 (by decide)).trans A411))
              refine xi_iaload (pc' := 8) (v := v412) kc_12_7 rfl A413 (by decide) rfl (xi_in (by decide) (by rw [hy411]; decide)) ev412 ?_
              refine xi_iconst (pc' := 9) (v := 1) kc_12_8 rfl rfl ?_
              obtain ⟨v414, ev414⟩ : ∃ q : Int32, (v412 : Int32) + 1 = q := ⟨_, rfl⟩
              have rv414 := xc_rng v414
              refine xi_iadd (pc' := 10) (v := v414) kc_12_9 rfl ev414 ?_
              obtain ⟨y415, s415, hy415, ry415⟩ := xj_set (v := v414) hy411 ry411 6 (by first | omega | decide) (by first | omega | decide)
              refine xi_iastore (pc' := 11) (x' := y415) kc_12_10 rfl A413 rfl (xi_in (by decide) (by rw [hy411]; decide)) s415 (fun hh415 eh415 => ?_)
              have K416 := xk_pa K409 (xk_wa (by decide +kernel)) xD_140 hy415 ry415 eh415
              have KR417 := xk_pa KR410 (xk_wa (by decide +kernel)) xD_140 hy415 ry415 eh415
              refine xi_iload_n (pc' := 12) (x := (-6)) kc_12_11 rfl rfl ?_
              refine xi_ireturn kc_12_12 mr_12 rfl ?_
              show xw J ov 99 15 (52, [(0, .ref 115), (1, .int a9), (2, .int a11), (3, .int a13)], [.int (-6)], hh415) _
              refine xi_ireturn kc_15_52 mr_15 rfl ?_
              show xw J ov 100 195 (286, [(4, .int x4), (3, .ref 167), (2, .ref 115), (1, .ref 0), (0, .ref 1000000)], [.int (-6)], hh415) _
              refine xi_pop (pc' := 287) kc_195_286 rfl rfl ?_
              refine xi_goto (pc' := 1501) kc_195_287 rfl ?_
              obtain ⟨v418, ev418⟩ : ∃ q : Int32, x4 + 6 = q := ⟨_, rfl⟩
              have zv418 : v418.toInt = (x4.toInt + 6) := by rw [← ev418]; exact (xz_add (X := x4.toInt) (Y := 6) rfl (by decide) (by omega) (by omega)).trans (by omega)
              refine xi_iinc (pc' := 1504) (x := x4) (v := v418) (lv' := [(4, .int v418), (3, .ref 167), (2, .ref 115), (1, .ref 0), (0, .ref 1000000)]) kc_195_1501 rfl rfl ev418 rfl (xm_lt ml_195 rfl) ?_
              refine xi_goto (pc' := 23) kc_195_1504 rfl ?_
              exact kk v418 hh415 (by omega) K416 (xI_kept I KR417.2.1)
          · refine xi_iff (pc' := 27) kc_94_24 rfl (xc_ge_f (X := a13.toInt) (Y := 0) rfl (by decide) (by omega)) ?_
            refine xi_aload_n (pc' := 28) (x := 0) kc_94_27 rfl rfl ?_
            refine xi_bipush (pc' := 30) (v := (-4)) kc_94_28 rfl rfl ?_
            refine xi_virtual (mj := 90) (as := [.int (-4)]) (st1 := []) (lv0 := [(0, .ref 0), (1, .int (-4))]) kc_94_30 rfl rfl rfl rfl rfl A16 (Nat.le_of_ble_eq_true rfl) (hJ _ _ _ _ (by decide)) (xm_le ml_90 rfl) rfl ?_
            refine xi_iload_n (pc' := 1) (x := (-4)) kc_90_0 rfl rfl ?_
            refine xi_ineg (pc' := 2) (v := 4) kc_90_1 rfl rfl ?_
            refine xi_istore_n (pc' := 3) (lv' := [(2, .int 4), (0, .ref 0), (1, .int (-4))]) kc_90_2 rfl rfl (xm_lt ml_90 rfl) ?_
            refine xi_iload_n (pc' := 4) (x := 4) kc_90_3 rfl rfl ?_
            refine xi_iff (pc' := 7) kc_90_4 rfl rfl ?_
            refine xi_iload_n (pc' := 8) (x := 4) kc_90_7 rfl rfl ?_
            refine xi_aload_n (pc' := 9) (x := 0) kc_90_8 rfl rfl ?_
            refine xi_getfield (pc' := 12) (v := .ref 94) kc_90_9 rfl rfl rfl A16 rfl ?_
            obtain ⟨y419, A419, hy419, ry419⟩ := xk_arr K.1 xD_94
            refine xi_arraylength (pc' := 13) (n := 7) (v := 7) kc_90_12 rfl (xl_lenI (by decide) (by decide) A419 hy419) rfl ?_
            refine xi_cmf (pc' := 16) kc_90_13 rfl rfl ?_
            refine xi_aload_n (pc' := 17) (x := 0) kc_90_16 rfl rfl ?_
            refine xi_getfield (pc' := 20) (v := .ref 94) kc_90_17 rfl rfl rfl A16 rfl ?_
            refine xi_iload_n (pc' := 21) (x := 4) kc_90_20 rfl rfl ?_
            refine xi_dup2 (pc' := 22) kc_90_21 rfl ⟨rfl, rfl⟩ ?_
            obtain ⟨v420, ev420, bv420, dv420⟩ := xj_get hy419 ry419 (i := 4) (by decide) (by decide)
            refine xi_iaload (pc' := 23) (v := v420) kc_90_22 rfl A419 (by decide) rfl (xi_in (by decide) (by rw [hy419]; decide)) ev420 ?_
            refine xi_iconst (pc' := 24) (v := 1) kc_90_23 rfl rfl ?_
            obtain ⟨v421, ev421⟩ : ∃ q : Int32, (v420 : Int32) + 1 = q := ⟨_, rfl⟩
            have rv421 := xc_rng v421
            refine xi_iadd (pc' := 25) (v := v421) kc_90_24 rfl ev421 ?_
            obtain ⟨y422, s422, hy422, ry422⟩ := xj_set (v := v421) hy419 ry419 4 (by first | omega | decide) (by first | omega | decide)
            refine xi_iastore (pc' := 26) (x' := y422) kc_90_25 rfl A419 rfl (xi_in (by decide) (by rw [hy419]; decide)) s422 (fun hh422 eh422 => ?_)
            have K423 := xk_pa K (xk_wa (by decide +kernel)) xD_94 hy422 ry422 eh422
            have KR424 := xk_pa KR (xk_wa (by decide +kernel)) xD_94 hy422 ry422 eh422
            refine xi_iload_n (pc' := 27) (x := (-4)) kc_90_26 rfl rfl ?_
            refine xi_ireturn kc_90_27 mr_90 rfl ?_
            show xw J ov 99 94 (33, [(0, .ref 0), (1, .int a9), (2, .int a11), (3, .int a13)], [.int (-4)], hh422) _
            refine xi_ireturn kc_94_33 mr_94 rfl ?_
            show xw J ov 100 195 (263, [(4, .int x4), (3, .ref 167), (2, .ref 115), (1, .ref 0), (0, .ref 1000000)], [.int (-4)], hh422) _
            refine xi_pop (pc' := 264) kc_195_263 rfl rfl ?_
            refine xi_aload_n (pc' := 265) (x := 115) kc_195_264 rfl rfl ?_
            refine xi_aload_n (pc' := 266) (x := 1000000) kc_195_265 rfl rfl ?_
            refine xi_iload (pc' := 268) (x := x4) kc_195_266 rfl rfl ?_
            refine xi_iconst (pc' := 269) (v := 1) kc_195_268 rfl rfl ?_
            refine xi_iadd (pc' := 270) (v := v8) kc_195_269 rfl ev8 ?_
            refine xi_ialoadO (pc' := 271) (v := a9) kc_195_270 rfl (by decide) hov0 (xi_in (by omega) (by omega)) ea9 ?_
            refine xi_aload_n (pc' := 272) (x := 1000000) kc_195_271 rfl rfl ?_
            refine xi_iload (pc' := 274) (x := x4) kc_195_272 rfl rfl ?_
            refine xi_iconst (pc' := 275) (v := 2) kc_195_274 rfl rfl ?_
            refine xi_iadd (pc' := 276) (v := v10) kc_195_275 rfl ev10 ?_
            refine xi_ialoadO (pc' := 277) (v := a11) kc_195_276 rfl (by decide) hov0 (xi_in (by omega) (by omega)) ea11 ?_
            refine xi_aload_n (pc' := 278) (x := 1000000) kc_195_277 rfl rfl ?_
            refine xi_iload (pc' := 280) (x := x4) kc_195_278 rfl rfl ?_
            refine xi_iconst (pc' := 281) (v := 3) kc_195_280 rfl rfl ?_
            refine xi_iadd (pc' := 282) (v := v12) kc_195_281 rfl ev12 ?_
            refine xi_ialoadO (pc' := 283) (v := a13) kc_195_282 rfl (by decide) hov0 (xi_in (by omega) (by omega)) ea13 ?_
            obtain ⟨u425, u426, u427, u428, u429, u430, u431, u432, u433, u434, u435, u436, u437, bu425, bu426, bu427, bu428, bu429, bu430, bu431, bu432, bu433, bu434, bu435, bu436, bu437, A438⟩ := xq_115 K.1
            have A439 := ((eh422.2.1 115 (by decide)).trans A438)
            refine xi_virtual (mj := 15) (as := [.int a9, .int a11, .int a13]) (st1 := []) (lv0 := [(0, .ref 115), (1, .int a9), (2, .int a11), (3, .int a13)]) kc_195_283 rfl rfl rfl rfl rfl A439 (Nat.le_of_ble_eq_true rfl) (hJ _ _ _ _ (by decide)) (xm_le ml_15 rfl) rfl ?_
            refine xi_aload_n (pc' := 1) (x := 115) kc_15_0 rfl rfl ?_
            refine xi_iconst (pc' := 2) (v := 0) kc_15_1 rfl rfl ?_
            refine xi_putfield (pc' := 5) (fs' := [.int 0, .int u426, .ref 116, .ref 117, .ref 118, .ref 119, .ref 120, .ref 121, .ref 122, .ref 123, .ref 124, .ref 125, .ref 126, .ref 127, .ref 128, .ref 129, .int u427, .ref 130, .int u428, .ref 131, .ref 132, .ref 133, .ref 134, .int u429, .ref 135, .ref 136, .ref 137, .ref 138, .ref 139, .ref 140, .ref 141, .ref 142, .int u430, .int u431, .int u432, .ref 143, .ref 144, .ref 145, .ref 146, .ref 147, .ref 148, .int u433, .ref 149, .ref 150, .ref 151, .int u434, .ref 152, .ref 153, .ref 154, .ref 155, .ref 156, .ref 157, .ref 158, .ref 159, .int u435, .ref 160, .int u436, .ref 161, .ref 162, .ref 163, .ref 164, .int u437, .ref 165, .ref 166]) kc_15_2 rfl rfl rfl A439 rfl rfl rfl (Nat.le_of_ble_eq_true rfl) rfl (fun hh441 eh440 => ?_)
            have K442 := xk_pf (k := 0) (v := 0) K423 (xk_wf (by decide +kernel)) xD_115 A439 rfl (by first | omega | decide) (by first | omega | decide) eh440 rfl
            have KR443 := xk_pf (k := 0) (v := 0) KR424 (xk_wf (by decide +kernel)) xD_115 A439 rfl (by first | omega | decide) (by first | omega | decide) eh440 rfl
            refine xi_iload_n (pc' := 6) (x := a9) kc_15_5 rfl rfl ?_
            refine xi_static (mj := 10) (as := [.int a9]) (st1 := []) (lv0 := [(0, .int a9)]) kc_15_6 rfl rfl (Nat.le_of_ble_eq_true rfl) rfl rfl (Nat.le_of_ble_eq_true rfl) (hJ _ _ _ _ (by decide)) (xm_le ml_10 rfl) rfl ?_
            refine xi_iload_n (pc' := 1) (x := a9) kc_10_0 rfl rfl ?_
            refine xi_iconst (pc' := 2) (v := 0) kc_10_1 rfl rfl ?_
            refine xi_iconst (pc' := 3) (v := 5) kc_10_2 rfl rfl ?_
            refine xi_static (mj := 11) (as := [.int a9, .int 0, .int 5]) (st1 := []) (lv0 := [(0, .int a9), (1, .int 0), (2, .int 5)]) kc_10_3 rfl rfl (Nat.le_of_ble_eq_true rfl) rfl rfl (Nat.le_of_ble_eq_true rfl) (hJ _ _ _ _ (by decide)) (xm_le ml_11 rfl) rfl ?_
            refine xi_iload_n (pc' := 1) (x := a9) kc_11_0 rfl rfl ?_
            refine xi_iload_n (pc' := 2) (x := 0) kc_11_1 rfl rfl ?_
            refine xi_cmf (pc' := 5) kc_11_2 rfl (xc_lt_f (X := a9.toInt) (Y := 0) rfl (by decide) (by omega)) ?_
            refine xi_iload_n (pc' := 6) (x := a9) kc_11_5 rfl rfl ?_
            refine xi_iload_n (pc' := 7) (x := 5) kc_11_6 rfl rfl ?_
            refine xi_cmf (pc' := 10) kc_11_7 rfl (xc_gt_f (X := a9.toInt) (Y := 5) rfl (by decide) (by omega)) ?_
            refine xi_iconst (pc' := 11) (v := 1) kc_11_10 rfl rfl ?_
            refine xi_goto (pc' := 15) kc_11_11 rfl ?_
            refine xi_ireturn kc_11_15 mr_11 rfl ?_
            show xw J ov 98 10 (6, [(0, .int a9)], [.int 1], hh441) _
            refine xi_ireturn kc_10_6 mr_10 rfl ?_
            show xw J ov 99 15 (9, [(0, .ref 115), (1, .int a9), (2, .int a11), (3, .int a13)], [.int 1], hh441) _
            refine xi_iff (pc' := 12) kc_15_9 rfl rfl ?_
            refine xi_iload_n (pc' := 13) (x := a11) kc_15_12 rfl rfl ?_
            refine xi_iconst (pc' := 14) (v := 0) kc_15_13 rfl rfl ?_
            refine xi_bipush (pc' := 16) (v := 23) kc_15_14 rfl rfl ?_
            refine xi_static (mj := 11) (as := [.int a11, .int 0, .int 23]) (st1 := []) (lv0 := [(0, .int a11), (1, .int 0), (2, .int 23)]) kc_15_16 rfl rfl (Nat.le_of_ble_eq_true rfl) rfl rfl (Nat.le_of_ble_eq_true rfl) (hJ _ _ _ _ (by decide)) (xm_le ml_11 rfl) rfl ?_
            refine xi_iload_n (pc' := 1) (x := a11) kc_11_0 rfl rfl ?_
            refine xi_iload_n (pc' := 2) (x := 0) kc_11_1 rfl rfl ?_
            refine xi_cmf (pc' := 5) kc_11_2 rfl (xc_lt_f (X := a11.toInt) (Y := 0) rfl (by decide) (by omega)) ?_
            refine xi_iload_n (pc' := 6) (x := a11) kc_11_5 rfl rfl ?_
            refine xi_iload_n (pc' := 7) (x := 23) kc_11_6 rfl rfl ?_
            refine xi_cmf (pc' := 10) kc_11_7 rfl (xc_gt_f (X := a11.toInt) (Y := 23) rfl (by decide) (by omega)) ?_
            refine xi_iconst (pc' := 11) (v := 1) kc_11_10 rfl rfl ?_
            refine xi_goto (pc' := 15) kc_11_11 rfl ?_
            refine xi_ireturn kc_11_15 mr_11 rfl ?_
            show xw J ov 99 15 (19, [(0, .ref 115), (1, .int a9), (2, .int a11), (3, .int a13)], [.int 1], hh441) _
            refine xi_ift (pc' := 28) kc_15_19 rfl rfl ?_
            refine xi_iload_n (pc' := 29) (x := a13) kc_15_28 rfl rfl ?_
            refine xi_iff (pc' := 32) kc_15_29 rfl (xc_ge_f (X := a13.toInt) (Y := 0) rfl (by decide) (by omega)) ?_
            refine xi_aload_n (pc' := 33) (x := 115) kc_15_32 rfl rfl ?_
            refine xi_bipush (pc' := 35) (v := (-4)) kc_15_33 rfl rfl ?_
            refine xi_virtual (mj := 12) (as := [.int (-4)]) (st1 := []) (lv0 := [(0, .ref 115), (1, .int (-4))]) kc_15_35 rfl rfl rfl rfl rfl eh440.1 (Nat.le_of_ble_eq_true rfl) (hJ _ _ _ _ (by decide)) (xm_le ml_12 rfl) rfl ?_
            refine xi_aload_n (pc' := 1) (x := 115) kc_12_0 rfl rfl ?_
            refine xi_getfield (pc' := 4) (v := .ref 140) kc_12_1 rfl rfl rfl eh440.1 rfl ?_
            refine xi_iload_n (pc' := 5) (x := (-4)) kc_12_4 rfl rfl ?_
            refine xi_ineg (pc' := 6) (v := 4) kc_12_5 rfl rfl ?_
            refine xi_dup2 (pc' := 7) kc_12_6 rfl ⟨rfl, rfl⟩ ?_
            obtain ⟨y444, A444, hy444, ry444⟩ := xk_arr K.1 xD_140
            obtain ⟨v445, ev445, bv445, dv445⟩ := xj_get hy444 ry444 (i := 4) (by decide) (by decide)
            have A446 := ((eh440.2.1 140 (by decide)).trans ((eh422.2.1 140 (by decide)).trans A444))
            refine xi_iaload (pc' := 8) (v := v445) kc_12_7 rfl A446 (by decide) rfl (xi_in (by decide) (by rw [hy444]; decide)) ev445 ?_
            refine xi_iconst (pc' := 9) (v := 1) kc_12_8 rfl rfl ?_
            obtain ⟨v447, ev447⟩ : ∃ q : Int32, (v445 : Int32) + 1 = q := ⟨_, rfl⟩
            have rv447 := xc_rng v447
            refine xi_iadd (pc' := 10) (v := v447) kc_12_9 rfl ev447 ?_
            obtain ⟨y448, s448, hy448, ry448⟩ := xj_set (v := v447) hy444 ry444 4 (by first | omega | decide) (by first | omega | decide)
            refine xi_iastore (pc' := 11) (x' := y448) kc_12_10 rfl A446 rfl (xi_in (by decide) (by rw [hy444]; decide)) s448 (fun hh448 eh448 => ?_)
            have K449 := xk_pa K442 (xk_wa (by decide +kernel)) xD_140 hy448 ry448 eh448
            have KR450 := xk_pa KR443 (xk_wa (by decide +kernel)) xD_140 hy448 ry448 eh448
            refine xi_iload_n (pc' := 12) (x := (-4)) kc_12_11 rfl rfl ?_
            refine xi_ireturn kc_12_12 mr_12 rfl ?_
            show xw J ov 99 15 (38, [(0, .ref 115), (1, .int a9), (2, .int a11), (3, .int a13)], [.int (-4)], hh448) _
            refine xi_ireturn kc_15_38 mr_15 rfl ?_
            show xw J ov 100 195 (286, [(4, .int x4), (3, .ref 167), (2, .ref 115), (1, .ref 0), (0, .ref 1000000)], [.int (-4)], hh448) _
            refine xi_pop (pc' := 287) kc_195_286 rfl rfl ?_
            refine xi_goto (pc' := 1501) kc_195_287 rfl ?_
            obtain ⟨v451, ev451⟩ : ∃ q : Int32, x4 + 6 = q := ⟨_, rfl⟩
            have zv451 : v451.toInt = (x4.toInt + 6) := by rw [← ev451]; exact (xz_add (X := x4.toInt) (Y := 6) rfl (by decide) (by omega) (by omega)).trans (by omega)
            refine xi_iinc (pc' := 1504) (x := x4) (v := v451) (lv' := [(4, .int v451), (3, .ref 167), (2, .ref 115), (1, .ref 0), (0, .ref 1000000)]) kc_195_1501 rfl rfl ev451 rfl (xm_lt ml_195 rfl) ?_
            refine xi_goto (pc' := 23) kc_195_1504 rfl ?_
            exact kk v451 hh448 (by omega) K449 (xI_kept I KR450.2.1)
        · refine xi_cmf (pc' := 17) kc_94_14 rfl (xc_lt_f (X := a11.toInt) (Y := 24) rfl (by decide) (by omega)) ?_
          refine xi_aload_n (pc' := 18) (x := 0) kc_94_17 rfl rfl ?_
          refine xi_iconst (pc' := 19) (v := (-1)) kc_94_18 rfl rfl ?_
          refine xi_virtual (mj := 90) (as := [.int (-1)]) (st1 := []) (lv0 := [(0, .ref 0), (1, .int (-1))]) kc_94_19 rfl rfl rfl rfl rfl A16 (Nat.le_of_ble_eq_true rfl) (hJ _ _ _ _ (by decide)) (xm_le ml_90 rfl) rfl ?_
          refine xi_iload_n (pc' := 1) (x := (-1)) kc_90_0 rfl rfl ?_
          refine xi_ineg (pc' := 2) (v := 1) kc_90_1 rfl rfl ?_
          refine xi_istore_n (pc' := 3) (lv' := [(2, .int 1), (0, .ref 0), (1, .int (-1))]) kc_90_2 rfl rfl (xm_lt ml_90 rfl) ?_
          refine xi_iload_n (pc' := 4) (x := 1) kc_90_3 rfl rfl ?_
          refine xi_iff (pc' := 7) kc_90_4 rfl rfl ?_
          refine xi_iload_n (pc' := 8) (x := 1) kc_90_7 rfl rfl ?_
          refine xi_aload_n (pc' := 9) (x := 0) kc_90_8 rfl rfl ?_
          refine xi_getfield (pc' := 12) (v := .ref 94) kc_90_9 rfl rfl rfl A16 rfl ?_
          obtain ⟨y452, A452, hy452, ry452⟩ := xk_arr K.1 xD_94
          refine xi_arraylength (pc' := 13) (n := 7) (v := 7) kc_90_12 rfl (xl_lenI (by decide) (by decide) A452 hy452) rfl ?_
          refine xi_cmf (pc' := 16) kc_90_13 rfl rfl ?_
          refine xi_aload_n (pc' := 17) (x := 0) kc_90_16 rfl rfl ?_
          refine xi_getfield (pc' := 20) (v := .ref 94) kc_90_17 rfl rfl rfl A16 rfl ?_
          refine xi_iload_n (pc' := 21) (x := 1) kc_90_20 rfl rfl ?_
          refine xi_dup2 (pc' := 22) kc_90_21 rfl ⟨rfl, rfl⟩ ?_
          obtain ⟨v453, ev453, bv453, dv453⟩ := xj_get hy452 ry452 (i := 1) (by decide) (by decide)
          refine xi_iaload (pc' := 23) (v := v453) kc_90_22 rfl A452 (by decide) rfl (xi_in (by decide) (by rw [hy452]; decide)) ev453 ?_
          refine xi_iconst (pc' := 24) (v := 1) kc_90_23 rfl rfl ?_
          obtain ⟨v454, ev454⟩ : ∃ q : Int32, (v453 : Int32) + 1 = q := ⟨_, rfl⟩
          have rv454 := xc_rng v454
          refine xi_iadd (pc' := 25) (v := v454) kc_90_24 rfl ev454 ?_
          obtain ⟨y455, s455, hy455, ry455⟩ := xj_set (v := v454) hy452 ry452 1 (by first | omega | decide) (by first | omega | decide)
          refine xi_iastore (pc' := 26) (x' := y455) kc_90_25 rfl A452 rfl (xi_in (by decide) (by rw [hy452]; decide)) s455 (fun hh455 eh455 => ?_)
          have K456 := xk_pa K (xk_wa (by decide +kernel)) xD_94 hy455 ry455 eh455
          have KR457 := xk_pa KR (xk_wa (by decide +kernel)) xD_94 hy455 ry455 eh455
          refine xi_iload_n (pc' := 27) (x := (-1)) kc_90_26 rfl rfl ?_
          refine xi_ireturn kc_90_27 mr_90 rfl ?_
          show xw J ov 99 94 (22, [(0, .ref 0), (1, .int a9), (2, .int a11), (3, .int a13)], [.int (-1)], hh455) _
          refine xi_ireturn kc_94_22 mr_94 rfl ?_
          show xw J ov 100 195 (263, [(4, .int x4), (3, .ref 167), (2, .ref 115), (1, .ref 0), (0, .ref 1000000)], [.int (-1)], hh455) _
          refine xi_pop (pc' := 264) kc_195_263 rfl rfl ?_
          refine xi_aload_n (pc' := 265) (x := 115) kc_195_264 rfl rfl ?_
          refine xi_aload_n (pc' := 266) (x := 1000000) kc_195_265 rfl rfl ?_
          refine xi_iload (pc' := 268) (x := x4) kc_195_266 rfl rfl ?_
          refine xi_iconst (pc' := 269) (v := 1) kc_195_268 rfl rfl ?_
          refine xi_iadd (pc' := 270) (v := v8) kc_195_269 rfl ev8 ?_
          refine xi_ialoadO (pc' := 271) (v := a9) kc_195_270 rfl (by decide) hov0 (xi_in (by omega) (by omega)) ea9 ?_
          refine xi_aload_n (pc' := 272) (x := 1000000) kc_195_271 rfl rfl ?_
          refine xi_iload (pc' := 274) (x := x4) kc_195_272 rfl rfl ?_
          refine xi_iconst (pc' := 275) (v := 2) kc_195_274 rfl rfl ?_
          refine xi_iadd (pc' := 276) (v := v10) kc_195_275 rfl ev10 ?_
          refine xi_ialoadO (pc' := 277) (v := a11) kc_195_276 rfl (by decide) hov0 (xi_in (by omega) (by omega)) ea11 ?_
          refine xi_aload_n (pc' := 278) (x := 1000000) kc_195_277 rfl rfl ?_
          refine xi_iload (pc' := 280) (x := x4) kc_195_278 rfl rfl ?_
          refine xi_iconst (pc' := 281) (v := 3) kc_195_280 rfl rfl ?_
          refine xi_iadd (pc' := 282) (v := v12) kc_195_281 rfl ev12 ?_
          refine xi_ialoadO (pc' := 283) (v := a13) kc_195_282 rfl (by decide) hov0 (xi_in (by omega) (by omega)) ea13 ?_
          obtain ⟨u458, u459, u460, u461, u462, u463, u464, u465, u466, u467, u468, u469, u470, bu458, bu459, bu460, bu461, bu462, bu463, bu464, bu465, bu466, bu467, bu468, bu469, bu470, A471⟩ := xq_115 K.1
          have A472 := ((eh455.2.1 115 (by decide)).trans A471)
          refine xi_virtual (mj := 15) (as := [.int a9, .int a11, .int a13]) (st1 := []) (lv0 := [(0, .ref 115), (1, .int a9), (2, .int a11), (3, .int a13)]) kc_195_283 rfl rfl rfl rfl rfl A472 (Nat.le_of_ble_eq_true rfl) (hJ _ _ _ _ (by decide)) (xm_le ml_15 rfl) rfl ?_
          refine xi_aload_n (pc' := 1) (x := 115) kc_15_0 rfl rfl ?_
          refine xi_iconst (pc' := 2) (v := 0) kc_15_1 rfl rfl ?_
          refine xi_putfield (pc' := 5) (fs' := [.int 0, .int u459, .ref 116, .ref 117, .ref 118, .ref 119, .ref 120, .ref 121, .ref 122, .ref 123, .ref 124, .ref 125, .ref 126, .ref 127, .ref 128, .ref 129, .int u460, .ref 130, .int u461, .ref 131, .ref 132, .ref 133, .ref 134, .int u462, .ref 135, .ref 136, .ref 137, .ref 138, .ref 139, .ref 140, .ref 141, .ref 142, .int u463, .int u464, .int u465, .ref 143, .ref 144, .ref 145, .ref 146, .ref 147, .ref 148, .int u466, .ref 149, .ref 150, .ref 151, .int u467, .ref 152, .ref 153, .ref 154, .ref 155, .ref 156, .ref 157, .ref 158, .ref 159, .int u468, .ref 160, .int u469, .ref 161, .ref 162, .ref 163, .ref 164, .int u470, .ref 165, .ref 166]) kc_15_2 rfl rfl rfl A472 rfl rfl rfl (Nat.le_of_ble_eq_true rfl) rfl (fun hh474 eh473 => ?_)
          have K475 := xk_pf (k := 0) (v := 0) K456 (xk_wf (by decide +kernel)) xD_115 A472 rfl (by first | omega | decide) (by first | omega | decide) eh473 rfl
          have KR476 := xk_pf (k := 0) (v := 0) KR457 (xk_wf (by decide +kernel)) xD_115 A472 rfl (by first | omega | decide) (by first | omega | decide) eh473 rfl
          refine xi_iload_n (pc' := 6) (x := a9) kc_15_5 rfl rfl ?_
          refine xi_static (mj := 10) (as := [.int a9]) (st1 := []) (lv0 := [(0, .int a9)]) kc_15_6 rfl rfl (Nat.le_of_ble_eq_true rfl) rfl rfl (Nat.le_of_ble_eq_true rfl) (hJ _ _ _ _ (by decide)) (xm_le ml_10 rfl) rfl ?_
          refine xi_iload_n (pc' := 1) (x := a9) kc_10_0 rfl rfl ?_
          refine xi_iconst (pc' := 2) (v := 0) kc_10_1 rfl rfl ?_
          refine xi_iconst (pc' := 3) (v := 5) kc_10_2 rfl rfl ?_
          refine xi_static (mj := 11) (as := [.int a9, .int 0, .int 5]) (st1 := []) (lv0 := [(0, .int a9), (1, .int 0), (2, .int 5)]) kc_10_3 rfl rfl (Nat.le_of_ble_eq_true rfl) rfl rfl (Nat.le_of_ble_eq_true rfl) (hJ _ _ _ _ (by decide)) (xm_le ml_11 rfl) rfl ?_
          refine xi_iload_n (pc' := 1) (x := a9) kc_11_0 rfl rfl ?_
          refine xi_iload_n (pc' := 2) (x := 0) kc_11_1 rfl rfl ?_
          refine xi_cmf (pc' := 5) kc_11_2 rfl (xc_lt_f (X := a9.toInt) (Y := 0) rfl (by decide) (by omega)) ?_
          refine xi_iload_n (pc' := 6) (x := a9) kc_11_5 rfl rfl ?_
          refine xi_iload_n (pc' := 7) (x := 5) kc_11_6 rfl rfl ?_
          refine xi_cmf (pc' := 10) kc_11_7 rfl (xc_gt_f (X := a9.toInt) (Y := 5) rfl (by decide) (by omega)) ?_
          refine xi_iconst (pc' := 11) (v := 1) kc_11_10 rfl rfl ?_
          refine xi_goto (pc' := 15) kc_11_11 rfl ?_
          refine xi_ireturn kc_11_15 mr_11 rfl ?_
          show xw J ov 98 10 (6, [(0, .int a9)], [.int 1], hh474) _
          refine xi_ireturn kc_10_6 mr_10 rfl ?_
          show xw J ov 99 15 (9, [(0, .ref 115), (1, .int a9), (2, .int a11), (3, .int a13)], [.int 1], hh474) _
          refine xi_iff (pc' := 12) kc_15_9 rfl rfl ?_
          refine xi_iload_n (pc' := 13) (x := a11) kc_15_12 rfl rfl ?_
          refine xi_iconst (pc' := 14) (v := 0) kc_15_13 rfl rfl ?_
          refine xi_bipush (pc' := 16) (v := 23) kc_15_14 rfl rfl ?_
          refine xi_static (mj := 11) (as := [.int a11, .int 0, .int 23]) (st1 := []) (lv0 := [(0, .int a11), (1, .int 0), (2, .int 23)]) kc_15_16 rfl rfl (Nat.le_of_ble_eq_true rfl) rfl rfl (Nat.le_of_ble_eq_true rfl) (hJ _ _ _ _ (by decide)) (xm_le ml_11 rfl) rfl ?_
          refine xi_iload_n (pc' := 1) (x := a11) kc_11_0 rfl rfl ?_
          refine xi_iload_n (pc' := 2) (x := 0) kc_11_1 rfl rfl ?_
          refine xi_cmf (pc' := 5) kc_11_2 rfl (xc_lt_f (X := a11.toInt) (Y := 0) rfl (by decide) (by omega)) ?_
          refine xi_iload_n (pc' := 6) (x := a11) kc_11_5 rfl rfl ?_
          refine xi_iload_n (pc' := 7) (x := 23) kc_11_6 rfl rfl ?_
          refine xi_cmt (pc' := 14) kc_11_7 rfl (xc_gt_t (X := a11.toInt) (Y := 23) rfl (by decide) (by omega)) ?_
          refine xi_iconst (pc' := 15) (v := 0) kc_11_14 rfl rfl ?_
          refine xi_ireturn kc_11_15 mr_11 rfl ?_
          show xw J ov 99 15 (19, [(0, .ref 115), (1, .int a9), (2, .int a11), (3, .int a13)], [.int 0], hh474) _
          refine xi_iff (pc' := 22) kc_15_19 rfl rfl ?_
          refine xi_aload_n (pc' := 23) (x := 115) kc_15_22 rfl rfl ?_
          refine xi_iconst (pc' := 24) (v := (-1)) kc_15_23 rfl rfl ?_
          refine xi_virtual (mj := 12) (as := [.int (-1)]) (st1 := []) (lv0 := [(0, .ref 115), (1, .int (-1))]) kc_15_24 rfl rfl rfl rfl rfl eh473.1 (Nat.le_of_ble_eq_true rfl) (hJ _ _ _ _ (by decide)) (xm_le ml_12 rfl) rfl ?_
          refine xi_aload_n (pc' := 1) (x := 115) kc_12_0 rfl rfl ?_
          refine xi_getfield (pc' := 4) (v := .ref 140) kc_12_1 rfl rfl rfl eh473.1 rfl ?_
          refine xi_iload_n (pc' := 5) (x := (-1)) kc_12_4 rfl rfl ?_
          refine xi_ineg (pc' := 6) (v := 1) kc_12_5 rfl rfl ?_
          refine xi_dup2 (pc' := 7) kc_12_6 rfl ⟨rfl, rfl⟩ ?_
          obtain ⟨y477, A477, hy477, ry477⟩ := xk_arr K.1 xD_140
          obtain ⟨v478, ev478, bv478, dv478⟩ := xj_get hy477 ry477 (i := 1) (by decide) (by decide)
          have A479 := ((eh473.2.1 140 (by decide)).trans ((eh455.2.1 140 (by decide)).trans A477))
          refine xi_iaload (pc' := 8) (v := v478) kc_12_7 rfl A479 (by decide) rfl (xi_in (by decide) (by rw [hy477]; decide)) ev478 ?_
          refine xi_iconst (pc' := 9) (v := 1) kc_12_8 rfl rfl ?_
          obtain ⟨v480, ev480⟩ : ∃ q : Int32, (v478 : Int32) + 1 = q := ⟨_, rfl⟩
          have rv480 := xc_rng v480
          refine xi_iadd (pc' := 10) (v := v480) kc_12_9 rfl ev480 ?_
          obtain ⟨y481, s481, hy481, ry481⟩ := xj_set (v := v480) hy477 ry477 1 (by first | omega | decide) (by first | omega | decide)
          refine xi_iastore (pc' := 11) (x' := y481) kc_12_10 rfl A479 rfl (xi_in (by decide) (by rw [hy477]; decide)) s481 (fun hh481 eh481 => ?_)
          have K482 := xk_pa K475 (xk_wa (by decide +kernel)) xD_140 hy481 ry481 eh481
          have KR483 := xk_pa KR476 (xk_wa (by decide +kernel)) xD_140 hy481 ry481 eh481
          refine xi_iload_n (pc' := 12) (x := (-1)) kc_12_11 rfl rfl ?_
          refine xi_ireturn kc_12_12 mr_12 rfl ?_
          show xw J ov 99 15 (27, [(0, .ref 115), (1, .int a9), (2, .int a11), (3, .int a13)], [.int (-1)], hh481) _
          refine xi_ireturn kc_15_27 mr_15 rfl ?_
          show xw J ov 100 195 (286, [(4, .int x4), (3, .ref 167), (2, .ref 115), (1, .ref 0), (0, .ref 1000000)], [.int (-1)], hh481) _
          refine xi_pop (pc' := 287) kc_195_286 rfl rfl ?_
          refine xi_goto (pc' := 1501) kc_195_287 rfl ?_
          obtain ⟨v484, ev484⟩ : ∃ q : Int32, x4 + 6 = q := ⟨_, rfl⟩
          have zv484 : v484.toInt = (x4.toInt + 6) := by rw [← ev484]; exact (xz_add (X := x4.toInt) (Y := 6) rfl (by decide) (by omega) (by omega)).trans (by omega)
          refine xi_iinc (pc' := 1504) (x := x4) (v := v484) (lv' := [(4, .int v484), (3, .ref 167), (2, .ref 115), (1, .ref 0), (0, .ref 1000000)]) kc_195_1501 rfl rfl ev484 rfl (xm_lt ml_195 rfl) ?_
          refine xi_goto (pc' := 23) kc_195_1504 rfl ?_
          exact kk v484 hh481 (by omega) K482 (xI_kept I KR483.2.1)
