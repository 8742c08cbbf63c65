set_option maxHeartbeats 8000000 in
theorem lc_2 {J : xe_J} {ov : List (List Int32)} (hJ : ∀ d mj as h, mj ≠ xe_loff → J d mj as h = none) {a0 a1 a2 a3 a4 a5 : Int32} (hov0 : ov[0]? = some [a0, a1, a2, a3, a4, a5]) (hov1 : ov[1]? = some [10, 0, 0, 0, 0, 0]) (hov2 : ov[2]? = some [99, 30, 50, 50, 1, 99999]) {h0 : xe_H} (F : xf_fr h0) (hn0 : h0.length ≤ 600002) (hz0 : xe_sz h0 ≤ 7302232) : xw J ov 100 196 (290, [(4, .int 0), (3, .ref 167), (2, .ref 115), (1, .ref 0), (0, .ref 1000000)], [], h0) xf_Q := by
  have rr1 := xc_rng a1
  have rr2 := xc_rng a2
  have rr3 := xc_rng a3
  have rr4 := xc_rng a4
  have rr5 := xc_rng a5
  refine xi_aload_n (pc' := 291) (x := 0) kc_196_290 rfl rfl ?_
  refine xi_aload_n (pc' := 292) (x := 1000000) kc_196_291 rfl rfl ?_
  refine xi_iload (pc' := 294) (x := 0) kc_196_292 rfl rfl ?_
  refine xi_iconst (pc' := 295) (v := 1) kc_196_294 rfl rfl ?_
  refine xi_iadd (pc' := 296) (v := 1) kc_196_295 rfl rfl ?_
  refine xi_ialoadO (pc' := 297) (v := a1) kc_196_296 rfl (by decide) hov0 (xi_in (n := 6) (by decide) (by decide)) rfl ?_
  refine xi_aload_n (pc' := 298) (x := 1000000) kc_196_297 rfl rfl ?_
  refine xi_iload (pc' := 300) (x := 0) kc_196_298 rfl rfl ?_
  refine xi_iconst (pc' := 301) (v := 2) kc_196_300 rfl rfl ?_
  refine xi_iadd (pc' := 302) (v := 2) kc_196_301 rfl rfl ?_
  refine xi_ialoadO (pc' := 303) (v := a2) kc_196_302 rfl (by decide) hov0 (xi_in (n := 6) (by decide) (by decide)) rfl ?_
  refine xi_aload_n (pc' := 304) (x := 1000000) kc_196_303 rfl rfl ?_
  refine xi_iload (pc' := 306) (x := 0) kc_196_304 rfl rfl ?_
  refine xi_iconst (pc' := 307) (v := 3) kc_196_306 rfl rfl ?_
  refine xi_iadd (pc' := 308) (v := 3) kc_196_307 rfl rfl ?_
  refine xi_ialoadO (pc' := 309) (v := a3) kc_196_308 rfl (by decide) hov0 (xi_in (n := 6) (by decide) (by decide)) rfl ?_
  refine xi_virtual (mj := 96) (as := [.int a1, .int a2, .int a3]) (st1 := []) (lv0 := [(0, .ref 0), (1, .int a1), (2, .int a2), (3, .int a3)]) kc_196_309 rfl rfl rfl rfl rfl (F 0 _ hl_0) (Nat.le_of_ble_eq_true rfl) (hJ _ _ _ _ (by decide)) (xm_le ml_96 rfl) rfl ?_
  refine xi_iload_n (pc' := 1) (x := a2) kc_96_0 rfl rfl ?_
  by_cases c1 : a2.toInt = 0
  · refine xi_ift (pc' := 16) kc_96_1 rfl (xc_eq_t (X := a2.toInt) (Y := 0) rfl (by decide) (by omega)) ?_
    refine xi_iload_n (pc' := 17) (x := a2) kc_96_16 rfl rfl ?_
    refine xi_iff (pc' := 20) kc_96_17 rfl (xc_ne_f (X := a2.toInt) (Y := 0) rfl (by decide) (by omega)) ?_
    refine xi_bipush (pc' := 22) (v := (-20)) kc_96_20 rfl rfl ?_
    refine xi_goto (pc' := 26) kc_96_22 rfl ?_
    refine xi_istore (pc' := 28) (lv' := [(4, .int (-20)), (0, .ref 0), (1, .int a1), (2, .int a2), (3, .int a3)]) kc_96_26 rfl rfl (xm_lt ml_96 rfl) ?_
    refine xi_iload_n (pc' := 29) (x := a2) kc_96_28 rfl rfl ?_
    refine xi_iff (pc' := 32) kc_96_29 rfl (xc_ne_f (X := a2.toInt) (Y := 0) rfl (by decide) (by omega)) ?_
    refine xi_bipush (pc' := 34) (v := 30) kc_96_32 rfl rfl ?_
    refine xi_goto (pc' := 39) kc_96_34 rfl ?_
    refine xi_istore (pc' := 41) (lv' := [(5, .int 30), (4, .int (-20)), (0, .ref 0), (1, .int a1), (2, .int a2), (3, .int a3)]) kc_96_39 rfl rfl (xm_lt ml_96 rfl) ?_
    refine xi_iload_n (pc' := 42) (x := a1) kc_96_41 rfl rfl ?_
    by_cases c2 : a1.toInt < 0
    · refine xi_ift (pc' := 51) kc_96_42 rfl (xc_lt_t (X := a1.toInt) (Y := 0) rfl (by decide) (by omega)) ?_
      refine xi_aload_n (pc' := 52) (x := 0) kc_96_51 rfl rfl ?_
      refine xi_bipush (pc' := 54) (v := (-4)) kc_96_52 rfl rfl ?_
      refine xi_virtual (mj := 97) (as := [.int (-4)]) (st1 := []) (lv0 := [(0, .ref 0), (1, .int (-4))]) kc_96_54 rfl rfl rfl rfl rfl (F 0 _ hl_0) (Nat.le_of_ble_eq_true rfl) (hJ _ _ _ _ (by decide)) (xm_le ml_97 rfl) rfl ?_
      refine xi_ldc_w (pc' := 3) (v := 1000000000) kc_97_0 rfl rfl ?_
      refine xi_aload_n (pc' := 4) (x := 0) kc_97_3 rfl rfl ?_
      refine xi_iload_n (pc' := 5) (x := (-4)) kc_97_4 rfl rfl ?_
      refine xi_virtual (mj := 91) (as := [.int (-4)]) (st1 := [.int 1000000000]) (lv0 := [(0, .ref 0), (1, .int (-4))]) kc_97_5 rfl rfl rfl rfl rfl (F 0 _ hl_0) (Nat.le_of_ble_eq_true rfl) (hJ _ _ _ _ (by decide)) (xm_le ml_91 rfl) rfl ?_
      refine xi_iload_n (pc' := 1) (x := (-4)) kc_91_0 rfl rfl ?_
      refine xi_ineg (pc' := 2) (v := 4) kc_91_1 rfl rfl ?_
      refine xi_istore_n (pc' := 3) (lv' := [(2, .int 4), (0, .ref 0), (1, .int (-4))]) kc_91_2 rfl rfl (xm_lt ml_91 rfl) ?_
      refine xi_iload_n (pc' := 4) (x := 4) kc_91_3 rfl rfl ?_
      refine xi_iff (pc' := 7) kc_91_4 rfl rfl ?_
      refine xi_iload_n (pc' := 8) (x := 4) kc_91_7 rfl rfl ?_
      refine xi_aload_n (pc' := 9) (x := 0) kc_91_8 rfl rfl ?_
      refine xi_getfield (pc' := 12) (v := .ref 94) kc_91_9 rfl rfl rfl (F 0 _ hl_0) rfl ?_
      refine xi_arraylength (pc' := 13) (n := 7) (v := 7) kc_91_12 rfl (xl_lenI (by decide) (by decide) (F 94 _ hl_94) (by simp only [List.length_replicate, List.length_cons, List.length_nil])) rfl ?_
      refine xi_cmf (pc' := 16) kc_91_13 rfl rfl ?_
      refine xi_aload_n (pc' := 17) (x := 0) kc_91_16 rfl rfl ?_
      refine xi_getfield (pc' := 20) (v := .ref 94) kc_91_17 rfl rfl rfl (F 0 _ hl_0) rfl ?_
      refine xi_iload_n (pc' := 21) (x := 4) kc_91_20 rfl rfl ?_
      refine xi_dup2 (pc' := 22) kc_91_21 rfl ⟨rfl, rfl⟩ ?_
      refine xi_iaload (pc' := 23) (v := 0) kc_91_22 rfl (F 94 _ hl_94) (by decide) rfl (xi_in (n := 7) (by decide) (by decide)) rfl ?_
      refine xi_iconst (pc' := 24) (v := 1) kc_91_23 rfl rfl ?_
      refine xi_iadd (pc' := 25) (v := 1) kc_91_24 rfl rfl ?_
      refine xi_iastore (pc' := 26) (x' := [0, 0, 0, 0, 1, 0, 0]) kc_91_25 rfl (F 94 _ hl_94) rfl (xi_in (n := 7) (by decide) (by decide)) rfl (fun hh1 eh1 => ?_)
      refine xi_iload_n (pc' := 27) (x := (-4)) kc_91_26 rfl rfl ?_
      refine xi_ireturn kc_91_27 mr_91 rfl ?_
      show xw J ov 98 97 (8, [(0, .ref 0), (1, .int (-4))], [.int (-4), .int 1000000000], hh1) _
      refine xi_isub (pc' := 9) (v := 1000000004) kc_97_8 rfl rfl ?_
      refine xi_ireturn kc_97_9 mr_97 rfl ?_
      show xw J ov 99 96 (57, [(5, .int 30), (4, .int (-20)), (0, .ref 0), (1, .int a1), (2, .int a2), (3, .int a3)], [.int 1000000004], hh1) _
      refine xi_ireturn kc_96_57 mr_96 rfl ?_
      show xw J ov 100 196 (312, [(4, .int 0), (3, .ref 167), (2, .ref 115), (1, .ref 0), (0, .ref 1000000)], [.int 1000000004], hh1) _
      refine xi_aload_n (pc' := 313) (x := 115) kc_196_312 rfl rfl ?_
      refine xi_aload_n (pc' := 314) (x := 1000000) kc_196_313 rfl rfl ?_
      refine xi_iload (pc' := 316) (x := 0) kc_196_314 rfl rfl ?_
      refine xi_iconst (pc' := 317) (v := 1) kc_196_316 rfl rfl ?_
      refine xi_iadd (pc' := 318) (v := 1) kc_196_317 rfl rfl ?_
      refine xi_ialoadO (pc' := 319) (v := a1) kc_196_318 rfl (by decide) hov0 (xi_in (n := 6) (by decide) (by decide)) rfl ?_
      refine xi_aload_n (pc' := 320) (x := 1000000) kc_196_319 rfl rfl ?_
      refine xi_iload (pc' := 322) (x := 0) kc_196_320 rfl rfl ?_
      refine xi_iconst (pc' := 323) (v := 2) kc_196_322 rfl rfl ?_
      refine xi_iadd (pc' := 324) (v := 2) kc_196_323 rfl rfl ?_
      refine xi_ialoadO (pc' := 325) (v := a2) kc_196_324 rfl (by decide) hov0 (xi_in (n := 6) (by decide) (by decide)) rfl ?_
      refine xi_aload_n (pc' := 326) (x := 1000000) kc_196_325 rfl rfl ?_
      refine xi_iload (pc' := 328) (x := 0) kc_196_326 rfl rfl ?_
      refine xi_iconst (pc' := 329) (v := 3) kc_196_328 rfl rfl ?_
      refine xi_iadd (pc' := 330) (v := 3) kc_196_329 rfl rfl ?_
      refine xi_ialoadO (pc' := 331) (v := a3) kc_196_330 rfl (by decide) hov0 (xi_in (n := 6) (by decide) (by decide)) rfl ?_
      refine xi_virtual (mj := 17) (as := [.int a1, .int a2, .int a3]) (st1 := [.int 1000000004]) (lv0 := [(0, .ref 115), (1, .int a1), (2, .int a2), (3, .int a3)]) kc_196_331 rfl rfl rfl rfl rfl ((eh1.2.1 115 (by decide)).trans (F 115 _ hl_115)) (Nat.le_of_ble_eq_true rfl) (hJ _ _ _ _ (by decide)) (xm_le ml_17 rfl) rfl ?_
      refine xi_aload_n (pc' := 1) (x := 115) kc_17_0 rfl rfl ?_
      refine xi_iconst (pc' := 2) (v := 0) kc_17_1 rfl rfl ?_
      refine xi_putfield (pc' := 5) (fs' := [.int 0, .int 0, .ref 116, .ref 117, .ref 118, .ref 119, .ref 120, .ref 121, .ref 122, .ref 123, .ref 124, .ref 125, .ref 126, .ref 127, .ref 128, .ref 129, .int 4, .ref 130, .int 0, .ref 131, .ref 132, .ref 133, .ref 134, .int 0, .ref 135, .ref 136, .ref 137, .ref 138, .ref 139, .ref 140, .ref 141, .ref 142, .int 0, .int 0, .int 0, .ref 143, .ref 144, .ref 145, .ref 146, .ref 147, .ref 148, .int 0, .ref 149, .ref 150, .ref 151, .int 0, .ref 152, .ref 153, .ref 154, .ref 155, .ref 156, .ref 157, .ref 158, .ref 159, .int 0, .ref 160, .int 0, .ref 161, .ref 162, .ref 163, .ref 164, .int 0, .ref 165, .ref 166]) kc_17_2 rfl rfl rfl ((eh1.2.1 115 (by decide)).trans (F 115 _ hl_115)) rfl rfl rfl (Nat.le_of_ble_eq_true rfl) rfl (fun hh2 eh2 => ?_)
      refine xi_iload_n (pc' := 6) (x := a2) kc_17_5 rfl rfl ?_
      refine xi_iconst (pc' := 7) (v := 0) kc_17_6 rfl rfl ?_
      refine xi_iconst (pc' := 8) (v := 1) kc_17_7 rfl rfl ?_
      refine xi_static (mj := 12) (as := [.int a2, .int 0, .int 1]) (st1 := []) (lv0 := [(0, .int a2), (1, .int 0), (2, .int 1)]) kc_17_8 rfl rfl (Nat.le_of_ble_eq_true rfl) rfl rfl (Nat.le_of_ble_eq_true rfl) (hJ _ _ _ _ (by decide)) (xm_le ml_12 rfl) rfl ?_
      refine xi_iload_n (pc' := 1) (x := a2) kc_12_0 rfl rfl ?_
      refine xi_iload_n (pc' := 2) (x := 0) kc_12_1 rfl rfl ?_
      refine xi_cmf (pc' := 5) kc_12_2 rfl (xc_lt_f (X := a2.toInt) (Y := 0) rfl (by decide) (by omega)) ?_
      refine xi_iload_n (pc' := 6) (x := a2) kc_12_5 rfl rfl ?_
      refine xi_iload_n (pc' := 7) (x := 1) kc_12_6 rfl rfl ?_
      refine xi_cmf (pc' := 10) kc_12_7 rfl (xc_gt_f (X := a2.toInt) (Y := 1) rfl (by decide) (by omega)) ?_
      refine xi_iconst (pc' := 11) (v := 1) kc_12_10 rfl rfl ?_
      refine xi_goto (pc' := 15) kc_12_11 rfl ?_
      refine xi_ireturn kc_12_15 mr_12 rfl ?_
      show xw J ov 99 17 (11, [(0, .ref 115), (1, .int a1), (2, .int a2), (3, .int a3)], [.int 1], hh2) _
      refine xi_ift (pc' := 21) kc_17_11 rfl rfl ?_
      refine xi_iload_n (pc' := 22) (x := a1) kc_17_21 rfl rfl ?_
      refine xi_ift (pc' := 39) kc_17_22 rfl (xc_lt_t (X := a1.toInt) (Y := 0) rfl (by decide) (by omega)) ?_
      refine xi_aload_n (pc' := 40) (x := 115) kc_17_39 rfl rfl ?_
      refine xi_bipush (pc' := 42) (v := (-4)) kc_17_40 rfl rfl ?_
      refine xi_virtual (mj := 18) (as := [.int (-4)]) (st1 := []) (lv0 := [(0, .ref 115), (1, .int (-4))]) kc_17_42 rfl rfl rfl rfl rfl eh2.1 (Nat.le_of_ble_eq_true rfl) (hJ _ _ _ _ (by decide)) (xm_le ml_18 rfl) rfl ?_
      refine xi_aload_n (pc' := 1) (x := 115) kc_18_0 rfl rfl ?_
      refine xi_getfield (pc' := 4) (v := .ref 140) kc_18_1 rfl rfl rfl eh2.1 rfl ?_
      refine xi_iload_n (pc' := 5) (x := (-4)) kc_18_4 rfl rfl ?_
      refine xi_ineg (pc' := 6) (v := 4) kc_18_5 rfl rfl ?_
      refine xi_dup2 (pc' := 7) kc_18_6 rfl ⟨rfl, rfl⟩ ?_
      refine xi_iaload (pc' := 8) (v := 0) kc_18_7 rfl ((eh2.2.1 140 (by decide)).trans ((eh1.2.1 140 (by decide)).trans (F 140 _ hl_140))) (by decide) rfl (xi_in (n := 7) (by decide) (by decide)) rfl ?_
      refine xi_iconst (pc' := 9) (v := 1) kc_18_8 rfl rfl ?_
      refine xi_iadd (pc' := 10) (v := 1) kc_18_9 rfl rfl ?_
      refine xi_iastore (pc' := 11) (x' := [0, 0, 0, 0, 1, 0, 0]) kc_18_10 rfl ((eh2.2.1 140 (by decide)).trans ((eh1.2.1 140 (by decide)).trans (F 140 _ hl_140))) rfl (xi_in (n := 7) (by decide) (by decide)) rfl (fun hh3 eh3 => ?_)
      refine xi_ldc (pc' := 13) (v := 1000000000) kc_18_11 rfl rfl ?_
      refine xi_iload_n (pc' := 14) (x := (-4)) kc_18_13 rfl rfl ?_
      refine xi_isub (pc' := 15) (v := 1000000004) kc_18_14 rfl rfl ?_
      refine xi_ireturn kc_18_15 mr_18 rfl ?_
      show xw J ov 99 17 (45, [(0, .ref 115), (1, .int a1), (2, .int a2), (3, .int a3)], [.int 1000000004], hh3) _
      refine xi_ireturn kc_17_45 mr_17 rfl ?_
      show xw J ov 100 196 (334, [(4, .int 0), (3, .ref 167), (2, .ref 115), (1, .ref 0), (0, .ref 1000000)], [.int 1000000004, .int 1000000004], hh3) _
      refine xi_cmt (pc' := 1528) kc_196_334 rfl rfl ?_
      refine xi_iinc (pc' := 1531) (x := 0) (v := 6) (lv' := [(4, .int 6), (3, .ref 167), (2, .ref 115), (1, .ref 0), (0, .ref 1000000)]) kc_196_1528 rfl rfl rfl rfl (xm_lt ml_196 rfl) ?_
      refine xi_goto (pc' := 23) kc_196_1531 rfl ?_
      refine xi_iload (pc' := 25) (x := 6) kc_196_23 rfl rfl ?_
      refine xi_aload_n (pc' := 26) (x := 1000000) kc_196_25 rfl rfl ?_
      refine xi_arraylength (pc' := 27) (n := 6) (v := 6) kc_196_26 rfl (xl_lenO (by decide) hov0 rfl) rfl ?_
      refine xi_bipush (pc' := 29) (v := 6) kc_196_27 rfl rfl ?_
      refine xi_isub (pc' := 30) (v := 0) kc_196_29 rfl rfl ?_
      refine xi_cmt (pc' := 1534) kc_196_30 rfl rfl ?_
      refine xi_iconst (pc' := 1535) (v := 1) kc_196_1534 rfl rfl ?_
      refine xi_ireturn kc_196_1535 mr_196 rfl ?_
      refine ⟨rfl, ?_, ?_⟩
      · rw [eh3.2.2.1, eh2.2.2.1, eh1.2.2.1]; exact hn0
      · rw [eh3.2.2.2, eh2.2.2.2, eh1.2.2.2]; exact hz0
    · refine xi_iff (pc' := 45) kc_96_42 rfl (xc_lt_f (X := a1.toInt) (Y := 0) rfl (by decide) (by omega)) ?_
      refine xi_iload_n (pc' := 46) (x := a3) kc_96_45 rfl rfl ?_
      refine xi_iload (pc' := 48) (x := (-20)) kc_96_46 rfl rfl ?_
      by_cases c3 : (-20) ≤ a3.toInt
      · refine xi_cmt (pc' := 58) kc_96_48 rfl (xc_ge_t (X := a3.toInt) (Y := (-20)) rfl (by decide) (by omega)) ?_
        refine xi_iload_n (pc' := 59) (x := a1) kc_96_58 rfl rfl ?_
        refine xi_sipush (pc' := 62) (v := 600) kc_96_59 rfl rfl ?_
        by_cases c4 : 600 ≤ a1.toInt
        · refine xi_cmt (pc' := 77) kc_96_62 rfl (xc_ge_t (X := a1.toInt) (Y := 600) rfl (by decide) (by omega)) ?_
          refine xi_aload_n (pc' := 78) (x := 0) kc_96_77 rfl rfl ?_
          refine xi_bipush (pc' := 80) (v := (-6)) kc_96_78 rfl rfl ?_
          refine xi_virtual (mj := 97) (as := [.int (-6)]) (st1 := []) (lv0 := [(0, .ref 0), (1, .int (-6))]) kc_96_80 rfl rfl rfl rfl rfl (F 0 _ hl_0) (Nat.le_of_ble_eq_true rfl) (hJ _ _ _ _ (by decide)) (xm_le ml_97 rfl) rfl ?_
          refine xi_ldc_w (pc' := 3) (v := 1000000000) kc_97_0 rfl rfl ?_
          refine xi_aload_n (pc' := 4) (x := 0) kc_97_3 rfl rfl ?_
          refine xi_iload_n (pc' := 5) (x := (-6)) kc_97_4 rfl rfl ?_
          refine xi_virtual (mj := 91) (as := [.int (-6)]) (st1 := [.int 1000000000]) (lv0 := [(0, .ref 0), (1, .int (-6))]) kc_97_5 rfl rfl rfl rfl rfl (F 0 _ hl_0) (Nat.le_of_ble_eq_true rfl) (hJ _ _ _ _ (by decide)) (xm_le ml_91 rfl) rfl ?_
          refine xi_iload_n (pc' := 1) (x := (-6)) kc_91_0 rfl rfl ?_
          refine xi_ineg (pc' := 2) (v := 6) kc_91_1 rfl rfl ?_
          refine xi_istore_n (pc' := 3) (lv' := [(2, .int 6), (0, .ref 0), (1, .int (-6))]) kc_91_2 rfl rfl (xm_lt ml_91 rfl) ?_
          refine xi_iload_n (pc' := 4) (x := 6) kc_91_3 rfl rfl ?_
          refine xi_iff (pc' := 7) kc_91_4 rfl rfl ?_
          refine xi_iload_n (pc' := 8) (x := 6) kc_91_7 rfl rfl ?_
          refine xi_aload_n (pc' := 9) (x := 0) kc_91_8 rfl rfl ?_
          refine xi_getfield (pc' := 12) (v := .ref 94) kc_91_9 rfl rfl rfl (F 0 _ hl_0) rfl ?_
          refine xi_arraylength (pc' := 13) (n := 7) (v := 7) kc_91_12 rfl (xl_lenI (by decide) (by decide) (F 94 _ hl_94) (by simp only [List.length_replicate, List.length_cons, List.length_nil])) rfl ?_
          refine xi_cmf (pc' := 16) kc_91_13 rfl rfl ?_
          refine xi_aload_n (pc' := 17) (x := 0) kc_91_16 rfl rfl ?_
          refine xi_getfield (pc' := 20) (v := .ref 94) kc_91_17 rfl rfl rfl (F 0 _ hl_0) rfl ?_
          refine xi_iload_n (pc' := 21) (x := 6) kc_91_20 rfl rfl ?_
          refine xi_dup2 (pc' := 22) kc_91_21 rfl ⟨rfl, rfl⟩ ?_
          refine xi_iaload (pc' := 23) (v := 0) kc_91_22 rfl (F 94 _ hl_94) (by decide) rfl (xi_in (n := 7) (by decide) (by decide)) rfl ?_
          refine xi_iconst (pc' := 24) (v := 1) kc_91_23 rfl rfl ?_
          refine xi_iadd (pc' := 25) (v := 1) kc_91_24 rfl rfl ?_
          refine xi_iastore (pc' := 26) (x' := [0, 0, 0, 0, 0, 0, 1]) kc_91_25 rfl (F 94 _ hl_94) rfl (xi_in (n := 7) (by decide) (by decide)) rfl (fun hh1 eh1 => ?_)
          refine xi_iload_n (pc' := 27) (x := (-6)) kc_91_26 rfl rfl ?_
          refine xi_ireturn kc_91_27 mr_91 rfl ?_
          show xw J ov 98 97 (8, [(0, .ref 0), (1, .int (-6))], [.int (-6), .int 1000000000], hh1) _
          refine xi_isub (pc' := 9) (v := 1000000006) kc_97_8 rfl rfl ?_
          refine xi_ireturn kc_97_9 mr_97 rfl ?_
          show xw J ov 99 96 (83, [(5, .int 30), (4, .int (-20)), (0, .ref 0), (1, .int a1), (2, .int a2), (3, .int a3)], [.int 1000000006], hh1) _
          refine xi_ireturn kc_96_83 mr_96 rfl ?_
          show xw J ov 100 196 (312, [(4, .int 0), (3, .ref 167), (2, .ref 115), (1, .ref 0), (0, .ref 1000000)], [.int 1000000006], hh1) _
          refine xi_aload_n (pc' := 313) (x := 115) kc_196_312 rfl rfl ?_
          refine xi_aload_n (pc' := 314) (x := 1000000) kc_196_313 rfl rfl ?_
          refine xi_iload (pc' := 316) (x := 0) kc_196_314 rfl rfl ?_
          refine xi_iconst (pc' := 317) (v := 1) kc_196_316 rfl rfl ?_
          refine xi_iadd (pc' := 318) (v := 1) kc_196_317 rfl rfl ?_
          refine xi_ialoadO (pc' := 319) (v := a1) kc_196_318 rfl (by decide) hov0 (xi_in (n := 6) (by decide) (by decide)) rfl ?_
          refine xi_aload_n (pc' := 320) (x := 1000000) kc_196_319 rfl rfl ?_
          refine xi_iload (pc' := 322) (x := 0) kc_196_320 rfl rfl ?_
          refine xi_iconst (pc' := 323) (v := 2) kc_196_322 rfl rfl ?_
          refine xi_iadd (pc' := 324) (v := 2) kc_196_323 rfl rfl ?_
          refine xi_ialoadO (pc' := 325) (v := a2) kc_196_324 rfl (by decide) hov0 (xi_in (n := 6) (by decide) (by decide)) rfl ?_
          refine xi_aload_n (pc' := 326) (x := 1000000) kc_196_325 rfl rfl ?_
          refine xi_iload (pc' := 328) (x := 0) kc_196_326 rfl rfl ?_
          refine xi_iconst (pc' := 329) (v := 3) kc_196_328 rfl rfl ?_
          refine xi_iadd (pc' := 330) (v := 3) kc_196_329 rfl rfl ?_
          refine xi_ialoadO (pc' := 331) (v := a3) kc_196_330 rfl (by decide) hov0 (xi_in (n := 6) (by decide) (by decide)) rfl ?_
          refine xi_virtual (mj := 17) (as := [.int a1, .int a2, .int a3]) (st1 := [.int 1000000006]) (lv0 := [(0, .ref 115), (1, .int a1), (2, .int a2), (3, .int a3)]) kc_196_331 rfl rfl rfl rfl rfl ((eh1.2.1 115 (by decide)).trans (F 115 _ hl_115)) (Nat.le_of_ble_eq_true rfl) (hJ _ _ _ _ (by decide)) (xm_le ml_17 rfl) rfl ?_
          refine xi_aload_n (pc' := 1) (x := 115) kc_17_0 rfl rfl ?_
          refine xi_iconst (pc' := 2) (v := 0) kc_17_1 rfl rfl ?_
          refine xi_putfield (pc' := 5) (fs' := [.int 0, .int 0, .ref 116, .ref 117, .ref 118, .ref 119, .ref 120, .ref 121, .ref 122, .ref 123, .ref 124, .ref 125, .ref 126, .ref 127, .ref 128, .ref 129, .int 4, .ref 130, .int 0, .ref 131, .ref 132, .ref 133, .ref 134, .int 0, .ref 135, .ref 136, .ref 137, .ref 138, .ref 139, .ref 140, .ref 141, .ref 142, .int 0, .int 0, .int 0, .ref 143, .ref 144, .ref 145, .ref 146, .ref 147, .ref 148, .int 0, .ref 149, .ref 150, .ref 151, .int 0, .ref 152, .ref 153, .ref 154, .ref 155, .ref 156, .ref 157, .ref 158, .ref 159, .int 0, .ref 160, .int 0, .ref 161, .ref 162, .ref 163, .ref 164, .int 0, .ref 165, .ref 166]) kc_17_2 rfl rfl rfl ((eh1.2.1 115 (by decide)).trans (F 115 _ hl_115)) rfl rfl rfl (Nat.le_of_ble_eq_true rfl) rfl (fun hh2 eh2 => ?_)
          refine xi_iload_n (pc' := 6) (x := a2) kc_17_5 rfl rfl ?_
          refine xi_iconst (pc' := 7) (v := 0) kc_17_6 rfl rfl ?_
          refine xi_iconst (pc' := 8) (v := 1) kc_17_7 rfl rfl ?_
          refine xi_static (mj := 12) (as := [.int a2, .int 0, .int 1]) (st1 := []) (lv0 := [(0, .int a2), (1, .int 0), (2, .int 1)]) kc_17_8 rfl rfl (Nat.le_of_ble_eq_true rfl) rfl rfl (Nat.le_of_ble_eq_true rfl) (hJ _ _ _ _ (by decide)) (xm_le ml_12 rfl) rfl ?_
          refine xi_iload_n (pc' := 1) (x := a2) kc_12_0 rfl rfl ?_
          refine xi_iload_n (pc' := 2) (x := 0) kc_12_1 rfl rfl ?_
          refine xi_cmf (pc' := 5) kc_12_2 rfl (xc_lt_f (X := a2.toInt) (Y := 0) rfl (by decide) (by omega)) ?_
          refine xi_iload_n (pc' := 6) (x := a2) kc_12_5 rfl rfl ?_
          refine xi_iload_n (pc' := 7) (x := 1) kc_12_6 rfl rfl ?_
          refine xi_cmf (pc' := 10) kc_12_7 rfl (xc_gt_f (X := a2.toInt) (Y := 1) rfl (by decide) (by omega)) ?_
          refine xi_iconst (pc' := 11) (v := 1) kc_12_10 rfl rfl ?_
          refine xi_goto (pc' := 15) kc_12_11 rfl ?_
          refine xi_ireturn kc_12_15 mr_12 rfl ?_
          show xw J ov 99 17 (11, [(0, .ref 115), (1, .int a1), (2, .int a2), (3, .int a3)], [.int 1], hh2) _
          refine xi_ift (pc' := 21) kc_17_11 rfl rfl ?_
          refine xi_iload_n (pc' := 22) (x := a1) kc_17_21 rfl rfl ?_
          refine xi_iff (pc' := 25) kc_17_22 rfl (xc_lt_f (X := a1.toInt) (Y := 0) rfl (by decide) (by omega)) ?_
          refine xi_iload_n (pc' := 26) (x := a3) kc_17_25 rfl rfl ?_
          refine xi_iload_n (pc' := 27) (x := a2) kc_17_26 rfl rfl ?_
          refine xi_iff (pc' := 30) kc_17_27 rfl (xc_ne_f (X := a2.toInt) (Y := 0) rfl (by decide) (by omega)) ?_
          refine xi_bipush (pc' := 32) (v := (-20)) kc_17_30 rfl rfl ?_
          refine xi_goto (pc' := 36) kc_17_32 rfl ?_
          refine xi_cmt (pc' := 46) kc_17_36 rfl (xc_ge_t (X := a3.toInt) (Y := (-20)) rfl (by decide) (by omega)) ?_
          refine xi_iload_n (pc' := 47) (x := a1) kc_17_46 rfl rfl ?_
          refine xi_sipush (pc' := 50) (v := 599) kc_17_47 rfl rfl ?_
          refine xi_cmt (pc' := 74) kc_17_50 rfl (xc_gt_t (X := a1.toInt) (Y := 599) rfl (by decide) (by omega)) ?_
          refine xi_aload_n (pc' := 75) (x := 115) kc_17_74 rfl rfl ?_
          refine xi_bipush (pc' := 77) (v := (-6)) kc_17_75 rfl rfl ?_
          refine xi_virtual (mj := 18) (as := [.int (-6)]) (st1 := []) (lv0 := [(0, .ref 115), (1, .int (-6))]) kc_17_77 rfl rfl rfl rfl rfl eh2.1 (Nat.le_of_ble_eq_true rfl) (hJ _ _ _ _ (by decide)) (xm_le ml_18 rfl) rfl ?_
          refine xi_aload_n (pc' := 1) (x := 115) kc_18_0 rfl rfl ?_
          refine xi_getfield (pc' := 4) (v := .ref 140) kc_18_1 rfl rfl rfl eh2.1 rfl ?_
          refine xi_iload_n (pc' := 5) (x := (-6)) kc_18_4 rfl rfl ?_
          refine xi_ineg (pc' := 6) (v := 6) kc_18_5 rfl rfl ?_
          refine xi_dup2 (pc' := 7) kc_18_6 rfl ⟨rfl, rfl⟩ ?_
          refine xi_iaload (pc' := 8) (v := 0) kc_18_7 rfl ((eh2.2.1 140 (by decide)).trans ((eh1.2.1 140 (by decide)).trans (F 140 _ hl_140))) (by decide) rfl (xi_in (n := 7) (by decide) (by decide)) rfl ?_
          refine xi_iconst (pc' := 9) (v := 1) kc_18_8 rfl rfl ?_
          refine xi_iadd (pc' := 10) (v := 1) kc_18_9 rfl rfl ?_
          refine xi_iastore (pc' := 11) (x' := [0, 0, 0, 0, 0, 0, 1]) kc_18_10 rfl ((eh2.2.1 140 (by decide)).trans ((eh1.2.1 140 (by decide)).trans (F 140 _ hl_140))) rfl (xi_in (n := 7) (by decide) (by decide)) rfl (fun hh3 eh3 => ?_)
          refine xi_ldc (pc' := 13) (v := 1000000000) kc_18_11 rfl rfl ?_
          refine xi_iload_n (pc' := 14) (x := (-6)) kc_18_13 rfl rfl ?_
          refine xi_isub (pc' := 15) (v := 1000000006) kc_18_14 rfl rfl ?_
          refine xi_ireturn kc_18_15 mr_18 rfl ?_
          show xw J ov 99 17 (80, [(0, .ref 115), (1, .int a1), (2, .int a2), (3, .int a3)], [.int 1000000006], hh3) _
          refine xi_ireturn kc_17_80 mr_17 rfl ?_
          show xw J ov 100 196 (334, [(4, .int 0), (3, .ref 167), (2, .ref 115), (1, .ref 0), (0, .ref 1000000)], [.int 1000000006, .int 1000000006], hh3) _
          refine xi_cmt (pc' := 1528) kc_196_334 rfl rfl ?_
          refine xi_iinc (pc' := 1531) (x := 0) (v := 6) (lv' := [(4, .int 6), (3, .ref 167), (2, .ref 115), (1, .ref 0), (0, .ref 1000000)]) kc_196_1528 rfl rfl rfl rfl (xm_lt ml_196 rfl) ?_
          refine xi_goto (pc' := 23) kc_196_1531 rfl ?_
          refine xi_iload (pc' := 25) (x := 6) kc_196_23 rfl rfl ?_
          refine xi_aload_n (pc' := 26) (x := 1000000) kc_196_25 rfl rfl ?_
          refine xi_arraylength (pc' := 27) (n := 6) (v := 6) kc_196_26 rfl (xl_lenO (by decide) hov0 rfl) rfl ?_
          refine xi_bipush (pc' := 29) (v := 6) kc_196_27 rfl rfl ?_
          refine xi_isub (pc' := 30) (v := 0) kc_196_29 rfl rfl ?_
          refine xi_cmt (pc' := 1534) kc_196_30 rfl rfl ?_
          refine xi_iconst (pc' := 1535) (v := 1) kc_196_1534 rfl rfl ?_
          refine xi_ireturn kc_196_1535 mr_196 rfl ?_
          refine ⟨rfl, ?_, ?_⟩
          · rw [eh3.2.2.1, eh2.2.2.1, eh1.2.2.1]; exact hn0
          · rw [eh3.2.2.2, eh2.2.2.2, eh1.2.2.2]; exact hz0
        · refine xi_cmf (pc' := 65) kc_96_62 rfl (xc_ge_f (X := a1.toInt) (Y := 600) rfl (by decide) (by omega)) ?_
          refine xi_iload_n (pc' := 66) (x := a3) kc_96_65 rfl rfl ?_
          refine xi_iload (pc' := 68) (x := 30) kc_96_66 rfl rfl ?_
          by_cases c5 : a3.toInt ≤ 30
          · refine xi_cmt (pc' := 84) kc_96_68 rfl (xc_le_t (X := a3.toInt) (Y := 30) rfl (by decide) (by omega)) ?_
            refine xi_aload_n (pc' := 85) (x := 0) kc_96_84 rfl rfl ?_
            refine xi_getfield (pc' := 88) (v := .ref 66) kc_96_85 rfl rfl rfl (F 0 _ hl_0) rfl ?_
            refine xi_virtual (mj := 92) (as := []) (st1 := []) (lv0 := [(0, .ref 66)]) kc_96_88 rfl rfl rfl rfl rfl (F 66 _ hl_66) (Nat.le_of_ble_eq_true rfl) (hJ _ _ _ _ (by decide)) (xm_le ml_92 rfl) rfl ?_
            refine xi_aload_n (pc' := 1) (x := 66) kc_92_0 rfl rfl ?_
            refine xi_lconst (pc' := 2) (v := 0) kc_92_1 rfl rfl ?_
            refine xi_putfield (pc' := 5) (fs' := [.ref 1, .ref 67, .ref 70, .ref 71, .ref 72, .ref 73, .ref 74, .long 0, .int 0]) kc_92_2 rfl rfl rfl (F 66 _ hl_66) rfl rfl rfl (Nat.le_of_ble_eq_true rfl) rfl (fun hh1 eh1 => ?_)
            refine xi_return kc_92_5 mr_92 ?_
            show xw J ov 99 96 (91, [(5, .int 30), (4, .int (-20)), (0, .ref 0), (1, .int a1), (2, .int a2), (3, .int a3)], [], hh1) _
            refine xi_aload_n (pc' := 92) (x := 0) kc_96_91 rfl rfl ?_
            refine xi_getfield (pc' := 95) (v := .ref 1) kc_96_92 rfl rfl rfl ((eh1.2.1 0 (by decide)).trans (F 0 _ hl_0)) rfl ?_
            refine xi_iload_n (pc' := 96) (x := a2) kc_96_95 rfl rfl ?_
            refine xi_virtual (mj := 98) (as := [.int a2]) (st1 := []) (lv0 := [(0, .ref 1), (1, .int a2)]) kc_96_96 rfl rfl rfl rfl rfl ((eh1.2.1 1 (by decide)).trans (F 1 _ hl_1)) (Nat.le_of_ble_eq_true rfl) (hJ _ _ _ _ (by decide)) (xm_le ml_98 rfl) rfl ?_
            refine xi_iload_n (pc' := 1) (x := a2) kc_98_0 rfl rfl ?_
            refine xi_iff (pc' := 4) kc_98_1 rfl (xc_ne_f (X := a2.toInt) (Y := 0) rfl (by decide) (by omega)) ?_
            refine xi_aload_n (pc' := 5) (x := 1) kc_98_4 rfl rfl ?_
            refine xi_getfield (pc' := 8) (v := .ref 5) kc_98_5 rfl rfl rfl ((eh1.2.1 1 (by decide)).trans (F 1 _ hl_1)) rfl ?_
            refine xi_goto (pc' := 15) kc_98_8 rfl ?_
            refine xi_areturn kc_98_15 (by rw [mr_98]; rfl) ?_
            show xw J ov 99 96 (99, [(5, .int 30), (4, .int (-20)), (0, .ref 0), (1, .int a1), (2, .int a2), (3, .int a3)], [.ref 5], hh1) _
            refine xi_iload_n (pc' := 100) (x := a1) kc_96_99 rfl rfl ?_
            refine xi_iload_n (pc' := 101) (x := a3) kc_96_100 rfl rfl ?_
            refine xi_virtual (mj := 99) (as := [.int a1, .int a3]) (st1 := []) (lv0 := [(0, .ref 5), (1, .int a1), (2, .int a3)]) kc_96_101 rfl rfl rfl rfl rfl ((eh1.2.1 5 (by decide)).trans (F 5 _ hl_5)) (Nat.le_of_ble_eq_true rfl) (hJ _ _ _ _ (by decide)) (xm_le ml_99 rfl) rfl ?_
            refine xi_iload_n (pc' := 1) (x := a1) kc_99_0 rfl rfl ?_
            refine xi_iff (pc' := 4) kc_99_1 rfl (xc_lt_f (X := a1.toInt) (Y := 0) rfl (by decide) (by omega)) ?_
            refine xi_iload_n (pc' := 5) (x := a1) kc_99_4 rfl rfl ?_
            refine xi_aload_n (pc' := 6) (x := 5) kc_99_5 rfl rfl ?_
            refine xi_getfield (pc' := 9) (v := .ref 6) kc_99_6 rfl rfl rfl ((eh1.2.1 5 (by decide)).trans (F 5 _ hl_5)) rfl ?_
            refine xi_arraylength (pc' := 10) (n := 601) (v := 601) kc_99_9 rfl (xl_lenI (by decide) (by decide) ((eh1.2.1 6 (by decide)).trans (F 6 _ hl_6)) (by simp only [List.length_replicate, List.length_cons, List.length_nil])) rfl ?_
            refine xi_cmt (pc' := 16) kc_99_10 rfl (xc_lt_t (X := a1.toInt) (Y := 601) rfl (by decide) (by omega)) ?_
            refine xi_aload_n (pc' := 17) (x := 5) kc_99_16 rfl rfl ?_
            refine xi_getfield (pc' := 20) (v := .ref 6) kc_99_17 rfl rfl rfl ((eh1.2.1 5 (by decide)).trans (F 5 _ hl_5)) rfl ?_
            refine xi_iload_n (pc' := 21) (x := a1) kc_99_20 rfl rfl ?_
            refine xi_iaload (pc' := 22) (v := 99) kc_99_21 rfl ((eh1.2.1 6 (by decide)).trans (F 6 _ hl_6)) (by decide) rfl (xi_in (by omega) (by simp only [List.length_replicate]; omega)) (xa_rep (by omega) (by omega)) ?_
            refine xi_istore_n (pc' := 23) (lv' := [(3, .int 99), (0, .ref 5), (1, .int a1), (2, .int a3)]) kc_99_22 rfl rfl (xm_lt ml_99 rfl) ?_
            refine xi_aload_n (pc' := 24) (x := 5) kc_99_23 rfl rfl ?_
            refine xi_getfield (pc' := 27) (v := .ref 6) kc_99_24 rfl rfl rfl ((eh1.2.1 5 (by decide)).trans (F 5 _ hl_5)) rfl ?_
            refine xi_iload_n (pc' := 28) (x := a1) kc_99_27 rfl rfl ?_
            refine xi_iload_n (pc' := 29) (x := a3) kc_99_28 rfl rfl ?_
            have lq7 : (List.replicate 601 99 : List Int32).length = 601 := by simp only [List.length_replicate, List.length_cons, List.length_nil, List.length_set]
            obtain ⟨x6, hx6⟩ : ∃ q, (List.replicate 601 99 : List Int32).set (Int32.toNatClampNeg a1) (a3) = q := ⟨_, rfl⟩
            have lx6 : x6.length = 601 := by rw [← hx6, List.length_set]; exact lq7
            refine xi_iastore (pc' := 30) (x' := x6) kc_99_29 rfl ((eh1.2.1 6 (by decide)).trans (F 6 _ hl_6)) rfl (xi_in (by omega) (by rw [lq7]; omega)) hx6 (fun hh2 eh2 => ?_)
            refine xi_aload_n (pc' := 31) (x := 5) kc_99_30 rfl rfl ?_
            refine xi_iload_n (pc' := 32) (x := a1) kc_99_31 rfl rfl ?_
            refine xi_iconst (pc' := 33) (v := 1) kc_99_32 rfl rfl ?_
            obtain ⟨v8, ev8⟩ : ∃ q : Int32, a1 - 1 = q := ⟨_, rfl⟩
            have zv8 : v8.toInt = (a1.toInt + (-1)) := by rw [← ev8]; exact (xz_sub (X := a1.toInt) (Y := 1) rfl (by decide) (by omega) (by omega)).trans (by omega)
            refine xi_isub (pc' := 34) (v := v8) kc_99_33 rfl ev8 ?_
            refine xi_virtual (mj := 100) (as := [.int v8]) (st1 := []) (lv0 := [(0, .ref 5), (1, .int v8)]) kc_99_34 rfl rfl rfl rfl rfl ((eh2.2.1 5 (by decide)).trans ((eh1.2.1 5 (by decide)).trans (F 5 _ hl_5))) (Nat.le_of_ble_eq_true rfl) (hJ _ _ _ _ (by decide)) (xm_le ml_100 rfl) rfl ?_
            refine xi_iload_n (pc' := 1) (x := v8) kc_100_0 rfl rfl ?_
            by_cases c9 : (a1.toInt + (-1)) < 0
            · refine xi_ift (pc' := 13) kc_100_1 rfl (xc_lt_t (X := (a1.toInt + (-1))) (Y := 0) zv8 (by decide) (by omega)) ?_
              refine xi_aload_n (pc' := 14) (x := 5) kc_100_13 rfl rfl ?_
              refine xi_getfield (pc' := 17) (v := .int 5) kc_100_14 rfl rfl rfl ((eh2.2.1 5 (by decide)).trans ((eh1.2.1 5 (by decide)).trans (F 5 _ hl_5))) rfl ?_
              refine xi_goto (pc' := 26) kc_100_17 rfl ?_
              refine xi_ireturn kc_100_26 mr_100 rfl ?_
              show xw J ov 98 99 (37, [(3, .int 99), (0, .ref 5), (1, .int a1), (2, .int a3)], [.int 5], hh2) _
              refine xi_istore (pc' := 39) (lv' := [(4, .int 5), (3, .int 99), (0, .ref 5), (1, .int a1), (2, .int a3)]) kc_99_37 rfl rfl (xm_lt ml_99 rfl) ?_
              refine xi_iload_n (pc' := 40) (x := a1) kc_99_39 rfl rfl ?_
              refine xi_istore (pc' := 42) (lv' := [(5, .int a1), (4, .int 5), (3, .int 99), (0, .ref 5), (1, .int a1), (2, .int a3)]) kc_99_40 rfl rfl (xm_lt ml_99 rfl) ?_
              refine lp_tell_cold (hr := a1) (v := a3) hJ ((eh2.2.1 5 (by decide)).trans ((eh1.2.1 5 (by decide)).trans (F 5 _ hl_5))) (fun y3 z3 hh3 ly3 lz3 et3 => ?_) 601 a1 5 x6 (List.replicate 601 5) hh2 (by omega) (by omega) (by omega) lx6 (by simp only [List.length_replicate]) ⟨eh2.1, ((eh2.2.1 7 (by decide)).trans ((eh1.2.1 7 (by decide)).trans (F 7 _ hl_7))), fun _ _ _ => rfl, rfl, rfl⟩
              show xw J ov 99 96 (104, [(5, .int 30), (4, .int (-20)), (0, .ref 0), (1, .int a1), (2, .int a2), (3, .int a3)], [.int 99], hh3) _
              refine xi_ireturn kc_96_104 mr_96 rfl ?_
              show xw J ov 100 196 (312, [(4, .int 0), (3, .ref 167), (2, .ref 115), (1, .ref 0), (0, .ref 1000000)], [.int 99], hh3) _
              refine xi_aload_n (pc' := 313) (x := 115) kc_196_312 rfl rfl ?_
              refine xi_aload_n (pc' := 314) (x := 1000000) kc_196_313 rfl rfl ?_
              refine xi_iload (pc' := 316) (x := 0) kc_196_314 rfl rfl ?_
              refine xi_iconst (pc' := 317) (v := 1) kc_196_316 rfl rfl ?_
              refine xi_iadd (pc' := 318) (v := 1) kc_196_317 rfl rfl ?_
              refine xi_ialoadO (pc' := 319) (v := a1) kc_196_318 rfl (by decide) hov0 (xi_in (n := 6) (by decide) (by decide)) rfl ?_
              refine xi_aload_n (pc' := 320) (x := 1000000) kc_196_319 rfl rfl ?_
              refine xi_iload (pc' := 322) (x := 0) kc_196_320 rfl rfl ?_
              refine xi_iconst (pc' := 323) (v := 2) kc_196_322 rfl rfl ?_
              refine xi_iadd (pc' := 324) (v := 2) kc_196_323 rfl rfl ?_
              refine xi_ialoadO (pc' := 325) (v := a2) kc_196_324 rfl (by decide) hov0 (xi_in (n := 6) (by decide) (by decide)) rfl ?_
              refine xi_aload_n (pc' := 326) (x := 1000000) kc_196_325 rfl rfl ?_
              refine xi_iload (pc' := 328) (x := 0) kc_196_326 rfl rfl ?_
              refine xi_iconst (pc' := 329) (v := 3) kc_196_328 rfl rfl ?_
              refine xi_iadd (pc' := 330) (v := 3) kc_196_329 rfl rfl ?_
              refine xi_ialoadO (pc' := 331) (v := a3) kc_196_330 rfl (by decide) hov0 (xi_in (n := 6) (by decide) (by decide)) rfl ?_
              refine xi_virtual (mj := 17) (as := [.int a1, .int a2, .int a3]) (st1 := [.int 99]) (lv0 := [(0, .ref 115), (1, .int a1), (2, .int a2), (3, .int a3)]) kc_196_331 rfl rfl rfl rfl rfl ((et3.2.2.1 115 (by decide) (by decide)).trans ((eh2.2.1 115 (by decide)).trans ((eh1.2.1 115 (by decide)).trans (F 115 _ hl_115)))) (Nat.le_of_ble_eq_true rfl) (hJ _ _ _ _ (by decide)) (xm_le ml_17 rfl) rfl ?_
              refine xi_aload_n (pc' := 1) (x := 115) kc_17_0 rfl rfl ?_
              refine xi_iconst (pc' := 2) (v := 0) kc_17_1 rfl rfl ?_
              refine xi_putfield (pc' := 5) (fs' := [.int 0, .int 0, .ref 116, .ref 117, .ref 118, .ref 119, .ref 120, .ref 121, .ref 122, .ref 123, .ref 124, .ref 125, .ref 126, .ref 127, .ref 128, .ref 129, .int 4, .ref 130, .int 0, .ref 131, .ref 132, .ref 133, .ref 134, .int 0, .ref 135, .ref 136, .ref 137, .ref 138, .ref 139, .ref 140, .ref 141, .ref 142, .int 0, .int 0, .int 0, .ref 143, .ref 144, .ref 145, .ref 146, .ref 147, .ref 148, .int 0, .ref 149, .ref 150, .ref 151, .int 0, .ref 152, .ref 153, .ref 154, .ref 155, .ref 156, .ref 157, .ref 158, .ref 159, .int 0, .ref 160, .int 0, .ref 161, .ref 162, .ref 163, .ref 164, .int 0, .ref 165, .ref 166]) kc_17_2 rfl rfl rfl ((et3.2.2.1 115 (by decide) (by decide)).trans ((eh2.2.1 115 (by decide)).trans ((eh1.2.1 115 (by decide)).trans (F 115 _ hl_115)))) rfl rfl rfl (Nat.le_of_ble_eq_true rfl) rfl (fun hh4 eh4 => ?_)
              refine xi_iload_n (pc' := 6) (x := a2) kc_17_5 rfl rfl ?_
              refine xi_iconst (pc' := 7) (v := 0) kc_17_6 rfl rfl ?_
              refine xi_iconst (pc' := 8) (v := 1) kc_17_7 rfl rfl ?_
              refine xi_static (mj := 12) (as := [.int a2, .int 0, .int 1]) (st1 := []) (lv0 := [(0, .int a2), (1, .int 0), (2, .int 1)]) kc_17_8 rfl rfl (Nat.le_of_ble_eq_true rfl) rfl rfl (Nat.le_of_ble_eq_true rfl) (hJ _ _ _ _ (by decide)) (xm_le ml_12 rfl) rfl ?_
              refine xi_iload_n (pc' := 1) (x := a2) kc_12_0 rfl rfl ?_
              refine xi_iload_n (pc' := 2) (x := 0) kc_12_1 rfl rfl ?_
              refine xi_cmf (pc' := 5) kc_12_2 rfl (xc_lt_f (X := a2.toInt) (Y := 0) rfl (by decide) (by omega)) ?_
              refine xi_iload_n (pc' := 6) (x := a2) kc_12_5 rfl rfl ?_
              refine xi_iload_n (pc' := 7) (x := 1) kc_12_6 rfl rfl ?_
              refine xi_cmf (pc' := 10) kc_12_7 rfl (xc_gt_f (X := a2.toInt) (Y := 1) rfl (by decide) (by omega)) ?_
              refine xi_iconst (pc' := 11) (v := 1) kc_12_10 rfl rfl ?_
              refine xi_goto (pc' := 15) kc_12_11 rfl ?_
              refine xi_ireturn kc_12_15 mr_12 rfl ?_
              show xw J ov 99 17 (11, [(0, .ref 115), (1, .int a1), (2, .int a2), (3, .int a3)], [.int 1], hh4) _
              refine xi_ift (pc' := 21) kc_17_11 rfl rfl ?_
              refine xi_iload_n (pc' := 22) (x := a1) kc_17_21 rfl rfl ?_
              refine xi_iff (pc' := 25) kc_17_22 rfl (xc_lt_f (X := a1.toInt) (Y := 0) rfl (by decide) (by omega)) ?_
              refine xi_iload_n (pc' := 26) (x := a3) kc_17_25 rfl rfl ?_
              refine xi_iload_n (pc' := 27) (x := a2) kc_17_26 rfl rfl ?_
              refine xi_iff (pc' := 30) kc_17_27 rfl (xc_ne_f (X := a2.toInt) (Y := 0) rfl (by decide) (by omega)) ?_
              refine xi_bipush (pc' := 32) (v := (-20)) kc_17_30 rfl rfl ?_
              refine xi_goto (pc' := 36) kc_17_32 rfl ?_
              refine xi_cmt (pc' := 46) kc_17_36 rfl (xc_ge_t (X := a3.toInt) (Y := (-20)) rfl (by decide) (by omega)) ?_
              refine xi_iload_n (pc' := 47) (x := a1) kc_17_46 rfl rfl ?_
              refine xi_sipush (pc' := 50) (v := 599) kc_17_47 rfl rfl ?_
              refine xi_cmf (pc' := 53) kc_17_50 rfl (xc_gt_f (X := a1.toInt) (Y := 599) rfl (by decide) (by omega)) ?_
              refine xi_iload_n (pc' := 54) (x := a3) kc_17_53 rfl rfl ?_
              refine xi_iload_n (pc' := 55) (x := a2) kc_17_54 rfl rfl ?_
              refine xi_iff (pc' := 58) kc_17_55 rfl (xc_ne_f (X := a2.toInt) (Y := 0) rfl (by decide) (by omega)) ?_
              refine xi_bipush (pc' := 60) (v := 30) kc_17_58 rfl rfl ?_
              refine xi_goto (pc' := 65) kc_17_60 rfl ?_
              refine xi_cmt (pc' := 81) kc_17_65 rfl (xc_le_t (X := a3.toInt) (Y := 30) rfl (by decide) (by omega)) ?_
              refine xi_iload_n (pc' := 82) (x := a2) kc_17_81 rfl rfl ?_
              refine xi_iff (pc' := 85) kc_17_82 rfl (xc_ne_f (X := a2.toInt) (Y := 0) rfl (by decide) (by omega)) ?_
              refine xi_aload_n (pc' := 86) (x := 115) kc_17_85 rfl rfl ?_
              refine xi_getfield (pc' := 89) (v := .ref 123) kc_17_86 rfl rfl rfl eh4.1 rfl ?_
              refine xi_iload_n (pc' := 90) (x := a1) kc_17_89 rfl rfl ?_
              refine xi_iaload (pc' := 91) (v := 99) kc_17_90 rfl ((eh4.2.1 123 (by decide)).trans ((et3.2.2.1 123 (by decide) (by decide)).trans ((eh2.2.1 123 (by decide)).trans ((eh1.2.1 123 (by decide)).trans (F 123 _ hl_123))))) (by decide) rfl (xi_in (by omega) (by simp only [List.length_replicate]; omega)) (xa_rep (by omega) (by omega)) ?_
              refine xi_goto (pc' := 100) kc_17_91 rfl ?_
              refine xi_istore (pc' := 102) (lv' := [(4, .int 99), (0, .ref 115), (1, .int a1), (2, .int a2), (3, .int a3)]) kc_17_100 rfl rfl (xm_lt ml_17 rfl) ?_
              refine xi_aload_n (pc' := 103) (x := 115) kc_17_102 rfl rfl ?_
              refine xi_getfield (pc' := 106) (v := .ref 123) kc_17_103 rfl rfl rfl eh4.1 rfl ?_
              refine xi_iload_n (pc' := 107) (x := a1) kc_17_106 rfl rfl ?_
              refine xi_iload_n (pc' := 108) (x := a2) kc_17_107 rfl rfl ?_
              refine xi_iff (pc' := 111) kc_17_108 rfl (xc_ne_f (X := a2.toInt) (Y := 0) rfl (by decide) (by omega)) ?_
              refine xi_iload_n (pc' := 112) (x := a3) kc_17_111 rfl rfl ?_
              refine xi_goto (pc' := 121) kc_17_112 rfl ?_
              have lq11 : (List.replicate 600 99 : List Int32).length = 600 := by simp only [List.length_replicate, List.length_cons, List.length_nil, List.length_set]
              obtain ⟨x10, hx10⟩ : ∃ q, (List.replicate 600 99 : List Int32).set (Int32.toNatClampNeg a1) (a3) = q := ⟨_, rfl⟩
              have lx10 : x10.length = 600 := by rw [← hx10, List.length_set]; exact lq11
              refine xi_iastore (pc' := 122) (x' := x10) kc_17_121 rfl ((eh4.2.1 123 (by decide)).trans ((et3.2.2.1 123 (by decide) (by decide)).trans ((eh2.2.1 123 (by decide)).trans ((eh1.2.1 123 (by decide)).trans (F 123 _ hl_123))))) rfl (xi_in (by omega) (by rw [lq11]; omega)) hx10 (fun hh5 eh5 => ?_)
              refine xi_aload_n (pc' := 123) (x := 115) kc_17_122 rfl rfl ?_
              refine xi_getfield (pc' := 126) (v := .ref 124) kc_17_123 rfl rfl rfl ((eh5.2.1 115 (by decide)).trans eh4.1) rfl ?_
              refine xi_iload_n (pc' := 127) (x := a1) kc_17_126 rfl rfl ?_
              refine xi_iload_n (pc' := 128) (x := a2) kc_17_127 rfl rfl ?_
              refine xi_iconst (pc' := 129) (v := 1) kc_17_128 rfl rfl ?_
              refine xi_cmt (pc' := 136) kc_17_129 rfl (xc_ne_t (X := a2.toInt) (Y := 1) rfl (by decide) (by omega)) ?_
              refine xi_aload_n (pc' := 137) (x := 115) kc_17_136 rfl rfl ?_
              refine xi_getfield (pc' := 140) (v := .ref 124) kc_17_137 rfl rfl rfl ((eh5.2.1 115 (by decide)).trans eh4.1) rfl ?_
              refine xi_iload_n (pc' := 141) (x := a1) kc_17_140 rfl rfl ?_
              refine xi_iaload (pc' := 142) (v := 99) kc_17_141 rfl ((eh5.2.1 124 (by decide)).trans ((eh4.2.1 124 (by decide)).trans ((et3.2.2.1 124 (by decide) (by decide)).trans ((eh2.2.1 124 (by decide)).trans ((eh1.2.1 124 (by decide)).trans (F 124 _ hl_124)))))) (by decide) rfl (xi_in (by omega) (by simp only [List.length_replicate]; omega)) (xa_rep (by omega) (by omega)) ?_
              have lq13 : (List.replicate 600 99 : List Int32).length = 600 := by simp only [List.length_replicate, List.length_cons, List.length_nil, List.length_set]
              obtain ⟨x12, hx12⟩ : ∃ q, (List.replicate 600 99 : List Int32).set (Int32.toNatClampNeg a1) (99) = q := ⟨_, rfl⟩
              have lx12 : x12.length = 600 := by rw [← hx12, List.length_set]; exact lq13
              refine xi_iastore (pc' := 143) (x' := x12) kc_17_142 rfl ((eh5.2.1 124 (by decide)).trans ((eh4.2.1 124 (by decide)).trans ((et3.2.2.1 124 (by decide) (by decide)).trans ((eh2.2.1 124 (by decide)).trans ((eh1.2.1 124 (by decide)).trans (F 124 _ hl_124)))))) rfl (xi_in (by omega) (by rw [lq13]; omega)) hx12 (fun hh6 eh6 => ?_)
              refine xi_aload_n (pc' := 144) (x := 115) kc_17_143 rfl rfl ?_
              refine xi_iconst (pc' := 145) (v := 0) kc_17_144 rfl rfl ?_
              refine xi_putfield (pc' := 148) (fs' := [.int 0, .int 0, .ref 116, .ref 117, .ref 118, .ref 119, .ref 120, .ref 121, .ref 122, .ref 123, .ref 124, .ref 125, .ref 126, .ref 127, .ref 128, .ref 129, .int 4, .ref 130, .int 0, .ref 131, .ref 132, .ref 133, .ref 134, .int 0, .ref 135, .ref 136, .ref 137, .ref 138, .ref 139, .ref 140, .ref 141, .ref 142, .int 0, .int 0, .int 0, .ref 143, .ref 144, .ref 145, .ref 146, .ref 147, .ref 148, .int 0, .ref 149, .ref 150, .ref 151, .int 0, .ref 152, .ref 153, .ref 154, .ref 155, .ref 156, .ref 157, .ref 158, .ref 159, .int 0, .ref 160, .int 0, .ref 161, .ref 162, .ref 163, .ref 164, .int 0, .ref 165, .ref 166]) kc_17_145 rfl rfl rfl ((eh6.2.1 115 (by decide)).trans ((eh5.2.1 115 (by decide)).trans eh4.1)) rfl rfl rfl (Nat.le_of_ble_eq_true rfl) rfl (fun hh7 eh7 => ?_)
              refine xi_iload (pc' := 150) (x := 99) kc_17_148 rfl rfl ?_
              refine xi_ireturn kc_17_150 mr_17 rfl ?_
              show xw J ov 100 196 (334, [(4, .int 0), (3, .ref 167), (2, .ref 115), (1, .ref 0), (0, .ref 1000000)], [.int 99, .int 99], hh7) _
              refine xi_cmt (pc' := 1528) kc_196_334 rfl rfl ?_
              refine xi_iinc (pc' := 1531) (x := 0) (v := 6) (lv' := [(4, .int 6), (3, .ref 167), (2, .ref 115), (1, .ref 0), (0, .ref 1000000)]) kc_196_1528 rfl rfl rfl rfl (xm_lt ml_196 rfl) ?_
              refine xi_goto (pc' := 23) kc_196_1531 rfl ?_
              refine xi_iload (pc' := 25) (x := 6) kc_196_23 rfl rfl ?_
              refine xi_aload_n (pc' := 26) (x := 1000000) kc_196_25 rfl rfl ?_
              refine xi_arraylength (pc' := 27) (n := 6) (v := 6) kc_196_26 rfl (xl_lenO (by decide) hov0 rfl) rfl ?_
              refine xi_bipush (pc' := 29) (v := 6) kc_196_27 rfl rfl ?_
              refine xi_isub (pc' := 30) (v := 0) kc_196_29 rfl rfl ?_
              refine xi_cmt (pc' := 1534) kc_196_30 rfl rfl ?_
              refine xi_iconst (pc' := 1535) (v := 1) kc_196_1534 rfl rfl ?_
              refine xi_ireturn kc_196_1535 mr_196 rfl ?_
              refine ⟨rfl, ?_, ?_⟩
              · rw [eh7.2.2.1, eh6.2.2.1, eh5.2.2.1, eh4.2.2.1, et3.2.2.2.1, eh2.2.2.1, eh1.2.2.1]; exact hn0
              · rw [eh7.2.2.2, eh6.2.2.2, eh5.2.2.2, eh4.2.2.2, et3.2.2.2.2, eh2.2.2.2, eh1.2.2.2]; exact hz0
            · refine xi_iff (pc' := 4) kc_100_1 rfl (xc_lt_f (X := (a1.toInt + (-1))) (Y := 0) zv8 (by decide) (by omega)) ?_
              refine xi_iload_n (pc' := 5) (x := v8) kc_100_4 rfl rfl ?_
              refine xi_aload_n (pc' := 6) (x := 5) kc_100_5 rfl rfl ?_
              refine xi_getfield (pc' := 9) (v := .ref 7) kc_100_6 rfl rfl rfl ((eh2.2.1 5 (by decide)).trans ((eh1.2.1 5 (by decide)).trans (F 5 _ hl_5))) rfl ?_
              refine xi_arraylength (pc' := 10) (n := 601) (v := 601) kc_100_9 rfl (xl_lenI (by decide) (by decide) ((eh2.2.1 7 (by decide)).trans ((eh1.2.1 7 (by decide)).trans (F 7 _ hl_7))) (by simp only [List.length_replicate, List.length_cons, List.length_nil])) rfl ?_
              refine xi_cmt (pc' := 20) kc_100_10 rfl (xc_lt_t (X := (a1.toInt + (-1))) (Y := 601) zv8 (by decide) (by omega)) ?_
              refine xi_aload_n (pc' := 21) (x := 5) kc_100_20 rfl rfl ?_
              refine xi_getfield (pc' := 24) (v := .ref 7) kc_100_21 rfl rfl rfl ((eh2.2.1 5 (by decide)).trans ((eh1.2.1 5 (by decide)).trans (F 5 _ hl_5))) rfl ?_
              refine xi_iload_n (pc' := 25) (x := v8) kc_100_24 rfl rfl ?_
              refine xi_iaload (pc' := 26) (v := 5) kc_100_25 rfl ((eh2.2.1 7 (by decide)).trans ((eh1.2.1 7 (by decide)).trans (F 7 _ hl_7))) (by decide) rfl (xi_in (by rw [zv8]; omega) (by rw [zv8]; simp only [List.length_replicate]; omega)) (xa_rep (by rw [zv8]; omega) (by rw [zv8]; omega)) ?_
              refine xi_ireturn kc_100_26 mr_100 rfl ?_
              show xw J ov 98 99 (37, [(3, .int 99), (0, .ref 5), (1, .int a1), (2, .int a3)], [.int 5], hh2) _
              refine xi_istore (pc' := 39) (lv' := [(4, .int 5), (3, .int 99), (0, .ref 5), (1, .int a1), (2, .int a3)]) kc_99_37 rfl rfl (xm_lt ml_99 rfl) ?_
              refine xi_iload_n (pc' := 40) (x := a1) kc_99_39 rfl rfl ?_
              refine xi_istore (pc' := 42) (lv' := [(5, .int a1), (4, .int 5), (3, .int 99), (0, .ref 5), (1, .int a1), (2, .int a3)]) kc_99_40 rfl rfl (xm_lt ml_99 rfl) ?_
              refine lp_tell_cold (hr := a1) (v := a3) hJ ((eh2.2.1 5 (by decide)).trans ((eh1.2.1 5 (by decide)).trans (F 5 _ hl_5))) (fun y3 z3 hh3 ly3 lz3 et3 => ?_) 601 a1 5 x6 (List.replicate 601 5) hh2 (by omega) (by omega) (by omega) lx6 (by simp only [List.length_replicate]) ⟨eh2.1, ((eh2.2.1 7 (by decide)).trans ((eh1.2.1 7 (by decide)).trans (F 7 _ hl_7))), fun _ _ _ => rfl, rfl, rfl⟩
              show xw J ov 99 96 (104, [(5, .int 30), (4, .int (-20)), (0, .ref 0), (1, .int a1), (2, .int a2), (3, .int a3)], [.int 99], hh3) _
              refine xi_ireturn kc_96_104 mr_96 rfl ?_
              show xw J ov 100 196 (312, [(4, .int 0), (3, .ref 167), (2, .ref 115), (1, .ref 0), (0, .ref 1000000)], [.int 99], hh3) _
              refine xi_aload_n (pc' := 313) (x := 115) kc_196_312 rfl rfl ?_
              refine xi_aload_n (pc' := 314) (x := 1000000) kc_196_313 rfl rfl ?_
              refine xi_iload (pc' := 316) (x := 0) kc_196_314 rfl rfl ?_
              refine xi_iconst (pc' := 317) (v := 1) kc_196_316 rfl rfl ?_
              refine xi_iadd (pc' := 318) (v := 1) kc_196_317 rfl rfl ?_
              refine xi_ialoadO (pc' := 319) (v := a1) kc_196_318 rfl (by decide) hov0 (xi_in (n := 6) (by decide) (by decide)) rfl ?_
              refine xi_aload_n (pc' := 320) (x := 1000000) kc_196_319 rfl rfl ?_
              refine xi_iload (pc' := 322) (x := 0) kc_196_320 rfl rfl ?_
              refine xi_iconst (pc' := 323) (v := 2) kc_196_322 rfl rfl ?_
              refine xi_iadd (pc' := 324) (v := 2) kc_196_323 rfl rfl ?_
              refine xi_ialoadO (pc' := 325) (v := a2) kc_196_324 rfl (by decide) hov0 (xi_in (n := 6) (by decide) (by decide)) rfl ?_
              refine xi_aload_n (pc' := 326) (x := 1000000) kc_196_325 rfl rfl ?_
              refine xi_iload (pc' := 328) (x := 0) kc_196_326 rfl rfl ?_
              refine xi_iconst (pc' := 329) (v := 3) kc_196_328 rfl rfl ?_
              refine xi_iadd (pc' := 330) (v := 3) kc_196_329 rfl rfl ?_
              refine xi_ialoadO (pc' := 331) (v := a3) kc_196_330 rfl (by decide) hov0 (xi_in (n := 6) (by decide) (by decide)) rfl ?_
              refine xi_virtual (mj := 17) (as := [.int a1, .int a2, .int a3]) (st1 := [.int 99]) (lv0 := [(0, .ref 115), (1, .int a1), (2, .int a2), (3, .int a3)]) kc_196_331 rfl rfl rfl rfl rfl ((et3.2.2.1 115 (by decide) (by decide)).trans ((eh2.2.1 115 (by decide)).trans ((eh1.2.1 115 (by decide)).trans (F 115 _ hl_115)))) (Nat.le_of_ble_eq_true rfl) (hJ _ _ _ _ (by decide)) (xm_le ml_17 rfl) rfl ?_
              refine xi_aload_n (pc' := 1) (x := 115) kc_17_0 rfl rfl ?_
              refine xi_iconst (pc' := 2) (v := 0) kc_17_1 rfl rfl ?_
              refine xi_putfield (pc' := 5) (fs' := [.int 0, .int 0, .ref 116, .ref 117, .ref 118, .ref 119, .ref 120, .ref 121, .ref 122, .ref 123, .ref 124, .ref 125, .ref 126, .ref 127, .ref 128, .ref 129, .int 4, .ref 130, .int 0, .ref 131, .ref 132, .ref 133, .ref 134, .int 0, .ref 135, .ref 136, .ref 137, .ref 138, .ref 139, .ref 140, .ref 141, .ref 142, .int 0, .int 0, .int 0, .ref 143, .ref 144, .ref 145, .ref 146, .ref 147, .ref 148, .int 0, .ref 149, .ref 150, .ref 151, .int 0, .ref 152, .ref 153, .ref 154, .ref 155, .ref 156, .ref 157, .ref 158, .ref 159, .int 0, .ref 160, .int 0, .ref 161, .ref 162, .ref 163, .ref 164, .int 0, .ref 165, .ref 166]) kc_17_2 rfl rfl rfl ((et3.2.2.1 115 (by decide) (by decide)).trans ((eh2.2.1 115 (by decide)).trans ((eh1.2.1 115 (by decide)).trans (F 115 _ hl_115)))) rfl rfl rfl (Nat.le_of_ble_eq_true rfl) rfl (fun hh4 eh4 => ?_)
              refine xi_iload_n (pc' := 6) (x := a2) kc_17_5 rfl rfl ?_
              refine xi_iconst (pc' := 7) (v := 0) kc_17_6 rfl rfl ?_
              refine xi_iconst (pc' := 8) (v := 1) kc_17_7 rfl rfl ?_
              refine xi_static (mj := 12) (as := [.int a2, .int 0, .int 1]) (st1 := []) (lv0 := [(0, .int a2), (1, .int 0), (2, .int 1)]) kc_17_8 rfl rfl (Nat.le_of_ble_eq_true rfl) rfl rfl (Nat.le_of_ble_eq_true rfl) (hJ _ _ _ _ (by decide)) (xm_le ml_12 rfl) rfl ?_
              refine xi_iload_n (pc' := 1) (x := a2) kc_12_0 rfl rfl ?_
              refine xi_iload_n (pc' := 2) (x := 0) kc_12_1 rfl rfl ?_
              refine xi_cmf (pc' := 5) kc_12_2 rfl (xc_lt_f (X := a2.toInt) (Y := 0) rfl (by decide) (by omega)) ?_
              refine xi_iload_n (pc' := 6) (x := a2) kc_12_5 rfl rfl ?_
              refine xi_iload_n (pc' := 7) (x := 1) kc_12_6 rfl rfl ?_
              refine xi_cmf (pc' := 10) kc_12_7 rfl (xc_gt_f (X := a2.toInt) (Y := 1) rfl (by decide) (by omega)) ?_
              refine xi_iconst (pc' := 11) (v := 1) kc_12_10 rfl rfl ?_
              refine xi_goto (pc' := 15) kc_12_11 rfl ?_
              refine xi_ireturn kc_12_15 mr_12 rfl ?_
              show xw J ov 99 17 (11, [(0, .ref 115), (1, .int a1), (2, .int a2), (3, .int a3)], [.int 1], hh4) _
              refine xi_ift (pc' := 21) kc_17_11 rfl rfl ?_
              refine xi_iload_n (pc' := 22) (x := a1) kc_17_21 rfl rfl ?_
              refine xi_iff (pc' := 25) kc_17_22 rfl (xc_lt_f (X := a1.toInt) (Y := 0) rfl (by decide) (by omega)) ?_
              refine xi_iload_n (pc' := 26) (x := a3) kc_17_25 rfl rfl ?_
              refine xi_iload_n (pc' := 27) (x := a2) kc_17_26 rfl rfl ?_
              refine xi_iff (pc' := 30) kc_17_27 rfl (xc_ne_f (X := a2.toInt) (Y := 0) rfl (by decide) (by omega)) ?_
              refine xi_bipush (pc' := 32) (v := (-20)) kc_17_30 rfl rfl ?_
              refine xi_goto (pc' := 36) kc_17_32 rfl ?_
              refine xi_cmt (pc' := 46) kc_17_36 rfl (xc_ge_t (X := a3.toInt) (Y := (-20)) rfl (by decide) (by omega)) ?_
              refine xi_iload_n (pc' := 47) (x := a1) kc_17_46 rfl rfl ?_
              refine xi_sipush (pc' := 50) (v := 599) kc_17_47 rfl rfl ?_
              refine xi_cmf (pc' := 53) kc_17_50 rfl (xc_gt_f (X := a1.toInt) (Y := 599) rfl (by decide) (by omega)) ?_
              refine xi_iload_n (pc' := 54) (x := a3) kc_17_53 rfl rfl ?_
              refine xi_iload_n (pc' := 55) (x := a2) kc_17_54 rfl rfl ?_
              refine xi_iff (pc' := 58) kc_17_55 rfl (xc_ne_f (X := a2.toInt) (Y := 0) rfl (by decide) (by omega)) ?_
              refine xi_bipush (pc' := 60) (v := 30) kc_17_58 rfl rfl ?_
              refine xi_goto (pc' := 65) kc_17_60 rfl ?_
              refine xi_cmt (pc' := 81) kc_17_65 rfl (xc_le_t (X := a3.toInt) (Y := 30) rfl (by decide) (by omega)) ?_
              refine xi_iload_n (pc' := 82) (x := a2) kc_17_81 rfl rfl ?_
              refine xi_iff (pc' := 85) kc_17_82 rfl (xc_ne_f (X := a2.toInt) (Y := 0) rfl (by decide) (by omega)) ?_
              refine xi_aload_n (pc' := 86) (x := 115) kc_17_85 rfl rfl ?_
              refine xi_getfield (pc' := 89) (v := .ref 123) kc_17_86 rfl rfl rfl eh4.1 rfl ?_
              refine xi_iload_n (pc' := 90) (x := a1) kc_17_89 rfl rfl ?_
              refine xi_iaload (pc' := 91) (v := 99) kc_17_90 rfl ((eh4.2.1 123 (by decide)).trans ((et3.2.2.1 123 (by decide) (by decide)).trans ((eh2.2.1 123 (by decide)).trans ((eh1.2.1 123 (by decide)).trans (F 123 _ hl_123))))) (by decide) rfl (xi_in (by omega) (by simp only [List.length_replicate]; omega)) (xa_rep (by omega) (by omega)) ?_
              refine xi_goto (pc' := 100) kc_17_91 rfl ?_
              refine xi_istore (pc' := 102) (lv' := [(4, .int 99), (0, .ref 115), (1, .int a1), (2, .int a2), (3, .int a3)]) kc_17_100 rfl rfl (xm_lt ml_17 rfl) ?_
              refine xi_aload_n (pc' := 103) (x := 115) kc_17_102 rfl rfl ?_
              refine xi_getfield (pc' := 106) (v := .ref 123) kc_17_103 rfl rfl rfl eh4.1 rfl ?_
              refine xi_iload_n (pc' := 107) (x := a1) kc_17_106 rfl rfl ?_
              refine xi_iload_n (pc' := 108) (x := a2) kc_17_107 rfl rfl ?_
              refine xi_iff (pc' := 111) kc_17_108 rfl (xc_ne_f (X := a2.toInt) (Y := 0) rfl (by decide) (by omega)) ?_
              refine xi_iload_n (pc' := 112) (x := a3) kc_17_111 rfl rfl ?_
              refine xi_goto (pc' := 121) kc_17_112 rfl ?_
              have lq15 : (List.replicate 600 99 : List Int32).length = 600 := by simp only [List.length_replicate, List.length_cons, List.length_nil, List.length_set]
              obtain ⟨x14, hx14⟩ : ∃ q, (List.replicate 600 99 : List Int32).set (Int32.toNatClampNeg a1) (a3) = q := ⟨_, rfl⟩
              have lx14 : x14.length = 600 := by rw [← hx14, List.length_set]; exact lq15
              refine xi_iastore (pc' := 122) (x' := x14) kc_17_121 rfl ((eh4.2.1 123 (by decide)).trans ((et3.2.2.1 123 (by decide) (by decide)).trans ((eh2.2.1 123 (by decide)).trans ((eh1.2.1 123 (by decide)).trans (F 123 _ hl_123))))) rfl (xi_in (by omega) (by rw [lq15]; omega)) hx14 (fun hh5 eh5 => ?_)
              refine xi_aload_n (pc' := 123) (x := 115) kc_17_122 rfl rfl ?_
              refine xi_getfield (pc' := 126) (v := .ref 124) kc_17_123 rfl rfl rfl ((eh5.2.1 115 (by decide)).trans eh4.1) rfl ?_
              refine xi_iload_n (pc' := 127) (x := a1) kc_17_126 rfl rfl ?_
              refine xi_iload_n (pc' := 128) (x := a2) kc_17_127 rfl rfl ?_
              refine xi_iconst (pc' := 129) (v := 1) kc_17_128 rfl rfl ?_
              refine xi_cmt (pc' := 136) kc_17_129 rfl (xc_ne_t (X := a2.toInt) (Y := 1) rfl (by decide) (by omega)) ?_
              refine xi_aload_n (pc' := 137) (x := 115) kc_17_136 rfl rfl ?_
              refine xi_getfield (pc' := 140) (v := .ref 124) kc_17_137 rfl rfl rfl ((eh5.2.1 115 (by decide)).trans eh4.1) rfl ?_
              refine xi_iload_n (pc' := 141) (x := a1) kc_17_140 rfl rfl ?_
              refine xi_iaload (pc' := 142) (v := 99) kc_17_141 rfl ((eh5.2.1 124 (by decide)).trans ((eh4.2.1 124 (by decide)).trans ((et3.2.2.1 124 (by decide) (by decide)).trans ((eh2.2.1 124 (by decide)).trans ((eh1.2.1 124 (by decide)).trans (F 124 _ hl_124)))))) (by decide) rfl (xi_in (by omega) (by simp only [List.length_replicate]; omega)) (xa_rep (by omega) (by omega)) ?_
              have lq17 : (List.replicate 600 99 : List Int32).length = 600 := by simp only [List.length_replicate, List.length_cons, List.length_nil, List.length_set]
              obtain ⟨x16, hx16⟩ : ∃ q, (List.replicate 600 99 : List Int32).set (Int32.toNatClampNeg a1) (99) = q := ⟨_, rfl⟩
              have lx16 : x16.length = 600 := by rw [← hx16, List.length_set]; exact lq17
              refine xi_iastore (pc' := 143) (x' := x16) kc_17_142 rfl ((eh5.2.1 124 (by decide)).trans ((eh4.2.1 124 (by decide)).trans ((et3.2.2.1 124 (by decide) (by decide)).trans ((eh2.2.1 124 (by decide)).trans ((eh1.2.1 124 (by decide)).trans (F 124 _ hl_124)))))) rfl (xi_in (by omega) (by rw [lq17]; omega)) hx16 (fun hh6 eh6 => ?_)
              refine xi_aload_n (pc' := 144) (x := 115) kc_17_143 rfl rfl ?_
              refine xi_iconst (pc' := 145) (v := 0) kc_17_144 rfl rfl ?_
              refine xi_putfield (pc' := 148) (fs' := [.int 0, .int 0, .ref 116, .ref 117, .ref 118, .ref 119, .ref 120, .ref 121, .ref 122, .ref 123, .ref 124, .ref 125, .ref 126, .ref 127, .ref 128, .ref 129, .int 4, .ref 130, .int 0, .ref 131, .ref 132, .ref 133, .ref 134, .int 0, .ref 135, .ref 136, .ref 137, .ref 138, .ref 139, .ref 140, .ref 141, .ref 142, .int 0, .int 0, .int 0, .ref 143, .ref 144, .ref 145, .ref 146, .ref 147, .ref 148, .int 0, .ref 149, .ref 150, .ref 151, .int 0, .ref 152, .ref 153, .ref 154, .ref 155, .ref 156, .ref 157, .ref 158, .ref 159, .int 0, .ref 160, .int 0, .ref 161, .ref 162, .ref 163, .ref 164, .int 0, .ref 165, .ref 166]) kc_17_145 rfl rfl rfl ((eh6.2.1 115 (by decide)).trans ((eh5.2.1 115 (by decide)).trans eh4.1)) rfl rfl rfl (Nat.le_of_ble_eq_true rfl) rfl (fun hh7 eh7 => ?_)
              refine xi_iload (pc' := 150) (x := 99) kc_17_148 rfl rfl ?_
              refine xi_ireturn kc_17_150 mr_17 rfl ?_
              show xw J ov 100 196 (334, [(4, .int 0), (3, .ref 167), (2, .ref 115), (1, .ref 0), (0, .ref 1000000)], [.int 99, .int 99], hh7) _
              refine xi_cmt (pc' := 1528) kc_196_334 rfl rfl ?_
              refine xi_iinc (pc' := 1531) (x := 0) (v := 6) (lv' := [(4, .int 6), (3, .ref 167), (2, .ref 115), (1, .ref 0), (0, .ref 1000000)]) kc_196_1528 rfl rfl rfl rfl (xm_lt ml_196 rfl) ?_
              refine xi_goto (pc' := 23) kc_196_1531 rfl ?_
              refine xi_iload (pc' := 25) (x := 6) kc_196_23 rfl rfl ?_
              refine xi_aload_n (pc' := 26) (x := 1000000) kc_196_25 rfl rfl ?_
              refine xi_arraylength (pc' := 27) (n := 6) (v := 6) kc_196_26 rfl (xl_lenO (by decide) hov0 rfl) rfl ?_
              refine xi_bipush (pc' := 29) (v := 6) kc_196_27 rfl rfl ?_
              refine xi_isub (pc' := 30) (v := 0) kc_196_29 rfl rfl ?_
              refine xi_cmt (pc' := 1534) kc_196_30 rfl rfl ?_
              refine xi_iconst (pc' := 1535) (v := 1) kc_196_1534 rfl rfl ?_
              refine xi_ireturn kc_196_1535 mr_196 rfl ?_
              refine ⟨rfl, ?_, ?_⟩
              · rw [eh7.2.2.1, eh6.2.2.1, eh5.2.2.1, eh4.2.2.1, et3.2.2.2.1, eh2.2.2.1, eh1.2.2.1]; exact hn0
              · rw [eh7.2.2.2, eh6.2.2.2, eh5.2.2.2, eh4.2.2.2, et3.2.2.2.2, eh2.2.2.2, eh1.2.2.2]; exact hz0
          · refine xi_cmf (pc' := 71) kc_96_68 rfl (xc_le_f (X := a3.toInt) (Y := 30) rfl (by decide) (by omega)) ?_
            refine xi_iload_n (pc' := 72) (x := a3) kc_96_71 rfl rfl ?_
            refine xi_bipush (pc' := 74) (v := 99) kc_96_72 rfl rfl ?_
            by_cases c18 : a3.toInt = 99
            · refine xi_cmt (pc' := 84) kc_96_74 rfl (xc_eq_t (X := a3.toInt) (Y := 99) rfl (by decide) (by omega)) ?_
              refine xi_aload_n (pc' := 85) (x := 0) kc_96_84 rfl rfl ?_
              refine xi_getfield (pc' := 88) (v := .ref 66) kc_96_85 rfl rfl rfl (F 0 _ hl_0) rfl ?_
              refine xi_virtual (mj := 92) (as := []) (st1 := []) (lv0 := [(0, .ref 66)]) kc_96_88 rfl rfl rfl rfl rfl (F 66 _ hl_66) (Nat.le_of_ble_eq_true rfl) (hJ _ _ _ _ (by decide)) (xm_le ml_92 rfl) rfl ?_
              refine xi_aload_n (pc' := 1) (x := 66) kc_92_0 rfl rfl ?_
              refine xi_lconst (pc' := 2) (v := 0) kc_92_1 rfl rfl ?_
              refine xi_putfield (pc' := 5) (fs' := [.ref 1, .ref 67, .ref 70, .ref 71, .ref 72, .ref 73, .ref 74, .long 0, .int 0]) kc_92_2 rfl rfl rfl (F 66 _ hl_66) rfl rfl rfl (Nat.le_of_ble_eq_true rfl) rfl (fun hh1 eh1 => ?_)
              refine xi_return kc_92_5 mr_92 ?_
              show xw J ov 99 96 (91, [(5, .int 30), (4, .int (-20)), (0, .ref 0), (1, .int a1), (2, .int a2), (3, .int a3)], [], hh1) _
              refine xi_aload_n (pc' := 92) (x := 0) kc_96_91 rfl rfl ?_
              refine xi_getfield (pc' := 95) (v := .ref 1) kc_96_92 rfl rfl rfl ((eh1.2.1 0 (by decide)).trans (F 0 _ hl_0)) rfl ?_
              refine xi_iload_n (pc' := 96) (x := a2) kc_96_95 rfl rfl ?_
              refine xi_virtual (mj := 98) (as := [.int a2]) (st1 := []) (lv0 := [(0, .ref 1), (1, .int a2)]) kc_96_96 rfl rfl rfl rfl rfl ((eh1.2.1 1 (by decide)).trans (F 1 _ hl_1)) (Nat.le_of_ble_eq_true rfl) (hJ _ _ _ _ (by decide)) (xm_le ml_98 rfl) rfl ?_
              refine xi_iload_n (pc' := 1) (x := a2) kc_98_0 rfl rfl ?_
              refine xi_iff (pc' := 4) kc_98_1 rfl (xc_ne_f (X := a2.toInt) (Y := 0) rfl (by decide) (by omega)) ?_
              refine xi_aload_n (pc' := 5) (x := 1) kc_98_4 rfl rfl ?_
              refine xi_getfield (pc' := 8) (v := .ref 5) kc_98_5 rfl rfl rfl ((eh1.2.1 1 (by decide)).trans (F 1 _ hl_1)) rfl ?_
              refine xi_goto (pc' := 15) kc_98_8 rfl ?_
              refine xi_areturn kc_98_15 (by rw [mr_98]; rfl) ?_
              show xw J ov 99 96 (99, [(5, .int 30), (4, .int (-20)), (0, .ref 0), (1, .int a1), (2, .int a2), (3, .int a3)], [.ref 5], hh1) _
              refine xi_iload_n (pc' := 100) (x := a1) kc_96_99 rfl rfl ?_
              refine xi_iload_n (pc' := 101) (x := a3) kc_96_100 rfl rfl ?_
              refine xi_virtual (mj := 99) (as := [.int a1, .int a3]) (st1 := []) (lv0 := [(0, .ref 5), (1, .int a1), (2, .int a3)]) kc_96_101 rfl rfl rfl rfl rfl ((eh1.2.1 5 (by decide)).trans (F 5 _ hl_5)) (Nat.le_of_ble_eq_true rfl) (hJ _ _ _ _ (by decide)) (xm_le ml_99 rfl) rfl ?_
              refine xi_iload_n (pc' := 1) (x := a1) kc_99_0 rfl rfl ?_
              refine xi_iff (pc' := 4) kc_99_1 rfl (xc_lt_f (X := a1.toInt) (Y := 0) rfl (by decide) (by omega)) ?_
              refine xi_iload_n (pc' := 5) (x := a1) kc_99_4 rfl rfl ?_
              refine xi_aload_n (pc' := 6) (x := 5) kc_99_5 rfl rfl ?_
              refine xi_getfield (pc' := 9) (v := .ref 6) kc_99_6 rfl rfl rfl ((eh1.2.1 5 (by decide)).trans (F 5 _ hl_5)) rfl ?_
              refine xi_arraylength (pc' := 10) (n := 601) (v := 601) kc_99_9 rfl (xl_lenI (by decide) (by decide) ((eh1.2.1 6 (by decide)).trans (F 6 _ hl_6)) (by simp only [List.length_replicate, List.length_cons, List.length_nil])) rfl ?_
              refine xi_cmt (pc' := 16) kc_99_10 rfl (xc_lt_t (X := a1.toInt) (Y := 601) rfl (by decide) (by omega)) ?_
              refine xi_aload_n (pc' := 17) (x := 5) kc_99_16 rfl rfl ?_
              refine xi_getfield (pc' := 20) (v := .ref 6) kc_99_17 rfl rfl rfl ((eh1.2.1 5 (by decide)).trans (F 5 _ hl_5)) rfl ?_
              refine xi_iload_n (pc' := 21) (x := a1) kc_99_20 rfl rfl ?_
              refine xi_iaload (pc' := 22) (v := 99) kc_99_21 rfl ((eh1.2.1 6 (by decide)).trans (F 6 _ hl_6)) (by decide) rfl (xi_in (by omega) (by simp only [List.length_replicate]; omega)) (xa_rep (by omega) (by omega)) ?_
              refine xi_istore_n (pc' := 23) (lv' := [(3, .int 99), (0, .ref 5), (1, .int a1), (2, .int a3)]) kc_99_22 rfl rfl (xm_lt ml_99 rfl) ?_
              refine xi_aload_n (pc' := 24) (x := 5) kc_99_23 rfl rfl ?_
              refine xi_getfield (pc' := 27) (v := .ref 6) kc_99_24 rfl rfl rfl ((eh1.2.1 5 (by decide)).trans (F 5 _ hl_5)) rfl ?_
              refine xi_iload_n (pc' := 28) (x := a1) kc_99_27 rfl rfl ?_
              refine xi_iload_n (pc' := 29) (x := a3) kc_99_28 rfl rfl ?_
              have lq20 : (List.replicate 601 99 : List Int32).length = 601 := by simp only [List.length_replicate, List.length_cons, List.length_nil, List.length_set]
              obtain ⟨x19, hx19⟩ : ∃ q, (List.replicate 601 99 : List Int32).set (Int32.toNatClampNeg a1) (a3) = q := ⟨_, rfl⟩
              have lx19 : x19.length = 601 := by rw [← hx19, List.length_set]; exact lq20
              refine xi_iastore (pc' := 30) (x' := x19) kc_99_29 rfl ((eh1.2.1 6 (by decide)).trans (F 6 _ hl_6)) rfl (xi_in (by omega) (by rw [lq20]; omega)) hx19 (fun hh2 eh2 => ?_)
              refine xi_aload_n (pc' := 31) (x := 5) kc_99_30 rfl rfl ?_
              refine xi_iload_n (pc' := 32) (x := a1) kc_99_31 rfl rfl ?_
              refine xi_iconst (pc' := 33) (v := 1) kc_99_32 rfl rfl ?_
              obtain ⟨v21, ev21⟩ : ∃ q : Int32, a1 - 1 = q := ⟨_, rfl⟩
              have zv21 : v21.toInt = (a1.toInt + (-1)) := by rw [← ev21]; exact (xz_sub (X := a1.toInt) (Y := 1) rfl (by decide) (by omega) (by omega)).trans (by omega)
              refine xi_isub (pc' := 34) (v := v21) kc_99_33 rfl ev21 ?_
              refine xi_virtual (mj := 100) (as := [.int v21]) (st1 := []) (lv0 := [(0, .ref 5), (1, .int v21)]) kc_99_34 rfl rfl rfl rfl rfl ((eh2.2.1 5 (by decide)).trans ((eh1.2.1 5 (by decide)).trans (F 5 _ hl_5))) (Nat.le_of_ble_eq_true rfl) (hJ _ _ _ _ (by decide)) (xm_le ml_100 rfl) rfl ?_
              refine xi_iload_n (pc' := 1) (x := v21) kc_100_0 rfl rfl ?_
              by_cases c22 : (a1.toInt + (-1)) < 0
              · refine xi_ift (pc' := 13) kc_100_1 rfl (xc_lt_t (X := (a1.toInt + (-1))) (Y := 0) zv21 (by decide) (by omega)) ?_
                refine xi_aload_n (pc' := 14) (x := 5) kc_100_13 rfl rfl ?_
                refine xi_getfield (pc' := 17) (v := .int 5) kc_100_14 rfl rfl rfl ((eh2.2.1 5 (by decide)).trans ((eh1.2.1 5 (by decide)).trans (F 5 _ hl_5))) rfl ?_
                refine xi_goto (pc' := 26) kc_100_17 rfl ?_
                refine xi_ireturn kc_100_26 mr_100 rfl ?_
                show xw J ov 98 99 (37, [(3, .int 99), (0, .ref 5), (1, .int a1), (2, .int a3)], [.int 5], hh2) _
                refine xi_istore (pc' := 39) (lv' := [(4, .int 5), (3, .int 99), (0, .ref 5), (1, .int a1), (2, .int a3)]) kc_99_37 rfl rfl (xm_lt ml_99 rfl) ?_
                refine xi_iload_n (pc' := 40) (x := a1) kc_99_39 rfl rfl ?_
                refine xi_istore (pc' := 42) (lv' := [(5, .int a1), (4, .int 5), (3, .int 99), (0, .ref 5), (1, .int a1), (2, .int a3)]) kc_99_40 rfl rfl (xm_lt ml_99 rfl) ?_
                refine lp_tell_cold (hr := a1) (v := a3) hJ ((eh2.2.1 5 (by decide)).trans ((eh1.2.1 5 (by decide)).trans (F 5 _ hl_5))) (fun y3 z3 hh3 ly3 lz3 et3 => ?_) 601 a1 5 x19 (List.replicate 601 5) hh2 (by omega) (by omega) (by omega) lx19 (by simp only [List.length_replicate]) ⟨eh2.1, ((eh2.2.1 7 (by decide)).trans ((eh1.2.1 7 (by decide)).trans (F 7 _ hl_7))), fun _ _ _ => rfl, rfl, rfl⟩
                show xw J ov 99 96 (104, [(5, .int 30), (4, .int (-20)), (0, .ref 0), (1, .int a1), (2, .int a2), (3, .int a3)], [.int 99], hh3) _
                refine xi_ireturn kc_96_104 mr_96 rfl ?_
                show xw J ov 100 196 (312, [(4, .int 0), (3, .ref 167), (2, .ref 115), (1, .ref 0), (0, .ref 1000000)], [.int 99], hh3) _
                refine xi_aload_n (pc' := 313) (x := 115) kc_196_312 rfl rfl ?_
                refine xi_aload_n (pc' := 314) (x := 1000000) kc_196_313 rfl rfl ?_
                refine xi_iload (pc' := 316) (x := 0) kc_196_314 rfl rfl ?_
                refine xi_iconst (pc' := 317) (v := 1) kc_196_316 rfl rfl ?_
                refine xi_iadd (pc' := 318) (v := 1) kc_196_317 rfl rfl ?_
                refine xi_ialoadO (pc' := 319) (v := a1) kc_196_318 rfl (by decide) hov0 (xi_in (n := 6) (by decide) (by decide)) rfl ?_
                refine xi_aload_n (pc' := 320) (x := 1000000) kc_196_319 rfl rfl ?_
                refine xi_iload (pc' := 322) (x := 0) kc_196_320 rfl rfl ?_
                refine xi_iconst (pc' := 323) (v := 2) kc_196_322 rfl rfl ?_
                refine xi_iadd (pc' := 324) (v := 2) kc_196_323 rfl rfl ?_
                refine xi_ialoadO (pc' := 325) (v := a2) kc_196_324 rfl (by decide) hov0 (xi_in (n := 6) (by decide) (by decide)) rfl ?_
                refine xi_aload_n (pc' := 326) (x := 1000000) kc_196_325 rfl rfl ?_
                refine xi_iload (pc' := 328) (x := 0) kc_196_326 rfl rfl ?_
                refine xi_iconst (pc' := 329) (v := 3) kc_196_328 rfl rfl ?_
                refine xi_iadd (pc' := 330) (v := 3) kc_196_329 rfl rfl ?_
                refine xi_ialoadO (pc' := 331) (v := a3) kc_196_330 rfl (by decide) hov0 (xi_in (n := 6) (by decide) (by decide)) rfl ?_
                refine xi_virtual (mj := 17) (as := [.int a1, .int a2, .int a3]) (st1 := [.int 99]) (lv0 := [(0, .ref 115), (1, .int a1), (2, .int a2), (3, .int a3)]) kc_196_331 rfl rfl rfl rfl rfl ((et3.2.2.1 115 (by decide) (by decide)).trans ((eh2.2.1 115 (by decide)).trans ((eh1.2.1 115 (by decide)).trans (F 115 _ hl_115)))) (Nat.le_of_ble_eq_true rfl) (hJ _ _ _ _ (by decide)) (xm_le ml_17 rfl) rfl ?_
                refine xi_aload_n (pc' := 1) (x := 115) kc_17_0 rfl rfl ?_
                refine xi_iconst (pc' := 2) (v := 0) kc_17_1 rfl rfl ?_
                refine xi_putfield (pc' := 5) (fs' := [.int 0, .int 0, .ref 116, .ref 117, .ref 118, .ref 119, .ref 120, .ref 121, .ref 122, .ref 123, .ref 124, .ref 125, .ref 126, .ref 127, .ref 128, .ref 129, .int 4, .ref 130, .int 0, .ref 131, .ref 132, .ref 133, .ref 134, .int 0, .ref 135, .ref 136, .ref 137, .ref 138, .ref 139, .ref 140, .ref 141, .ref 142, .int 0, .int 0, .int 0, .ref 143, .ref 144, .ref 145, .ref 146, .ref 147, .ref 148, .int 0, .ref 149, .ref 150, .ref 151, .int 0, .ref 152, .ref 153, .ref 154, .ref 155, .ref 156, .ref 157, .ref 158, .ref 159, .int 0, .ref 160, .int 0, .ref 161, .ref 162, .ref 163, .ref 164, .int 0, .ref 165, .ref 166]) kc_17_2 rfl rfl rfl ((et3.2.2.1 115 (by decide) (by decide)).trans ((eh2.2.1 115 (by decide)).trans ((eh1.2.1 115 (by decide)).trans (F 115 _ hl_115)))) rfl rfl rfl (Nat.le_of_ble_eq_true rfl) rfl (fun hh4 eh4 => ?_)
                refine xi_iload_n (pc' := 6) (x := a2) kc_17_5 rfl rfl ?_
                refine xi_iconst (pc' := 7) (v := 0) kc_17_6 rfl rfl ?_
                refine xi_iconst (pc' := 8) (v := 1) kc_17_7 rfl rfl ?_
                refine xi_static (mj := 12) (as := [.int a2, .int 0, .int 1]) (st1 := []) (lv0 := [(0, .int a2), (1, .int 0), (2, .int 1)]) kc_17_8 rfl rfl (Nat.le_of_ble_eq_true rfl) rfl rfl (Nat.le_of_ble_eq_true rfl) (hJ _ _ _ _ (by decide)) (xm_le ml_12 rfl) rfl ?_
                refine xi_iload_n (pc' := 1) (x := a2) kc_12_0 rfl rfl ?_
                refine xi_iload_n (pc' := 2) (x := 0) kc_12_1 rfl rfl ?_
                refine xi_cmf (pc' := 5) kc_12_2 rfl (xc_lt_f (X := a2.toInt) (Y := 0) rfl (by decide) (by omega)) ?_
                refine xi_iload_n (pc' := 6) (x := a2) kc_12_5 rfl rfl ?_
                refine xi_iload_n (pc' := 7) (x := 1) kc_12_6 rfl rfl ?_
                refine xi_cmf (pc' := 10) kc_12_7 rfl (xc_gt_f (X := a2.toInt) (Y := 1) rfl (by decide) (by omega)) ?_
                refine xi_iconst (pc' := 11) (v := 1) kc_12_10 rfl rfl ?_
                refine xi_goto (pc' := 15) kc_12_11 rfl ?_
                refine xi_ireturn kc_12_15 mr_12 rfl ?_
                show xw J ov 99 17 (11, [(0, .ref 115), (1, .int a1), (2, .int a2), (3, .int a3)], [.int 1], hh4) _
                refine xi_ift (pc' := 21) kc_17_11 rfl rfl ?_
                refine xi_iload_n (pc' := 22) (x := a1) kc_17_21 rfl rfl ?_
                refine xi_iff (pc' := 25) kc_17_22 rfl (xc_lt_f (X := a1.toInt) (Y := 0) rfl (by decide) (by omega)) ?_
                refine xi_iload_n (pc' := 26) (x := a3) kc_17_25 rfl rfl ?_
                refine xi_iload_n (pc' := 27) (x := a2) kc_17_26 rfl rfl ?_
                refine xi_iff (pc' := 30) kc_17_27 rfl (xc_ne_f (X := a2.toInt) (Y := 0) rfl (by decide) (by omega)) ?_
                refine xi_bipush (pc' := 32) (v := (-20)) kc_17_30 rfl rfl ?_
                refine xi_goto (pc' := 36) kc_17_32 rfl ?_
                refine xi_cmt (pc' := 46) kc_17_36 rfl (xc_ge_t (X := a3.toInt) (Y := (-20)) rfl (by decide) (by omega)) ?_
                refine xi_iload_n (pc' := 47) (x := a1) kc_17_46 rfl rfl ?_
                refine xi_sipush (pc' := 50) (v := 599) kc_17_47 rfl rfl ?_
                refine xi_cmf (pc' := 53) kc_17_50 rfl (xc_gt_f (X := a1.toInt) (Y := 599) rfl (by decide) (by omega)) ?_
                refine xi_iload_n (pc' := 54) (x := a3) kc_17_53 rfl rfl ?_
                refine xi_iload_n (pc' := 55) (x := a2) kc_17_54 rfl rfl ?_
                refine xi_iff (pc' := 58) kc_17_55 rfl (xc_ne_f (X := a2.toInt) (Y := 0) rfl (by decide) (by omega)) ?_
                refine xi_bipush (pc' := 60) (v := 30) kc_17_58 rfl rfl ?_
                refine xi_goto (pc' := 65) kc_17_60 rfl ?_
                refine xi_cmf (pc' := 68) kc_17_65 rfl (xc_le_f (X := a3.toInt) (Y := 30) rfl (by decide) (by omega)) ?_
                refine xi_iload_n (pc' := 69) (x := a3) kc_17_68 rfl rfl ?_
                refine xi_bipush (pc' := 71) (v := 99) kc_17_69 rfl rfl ?_
                refine xi_cmt (pc' := 81) kc_17_71 rfl (xc_eq_t (X := a3.toInt) (Y := 99) rfl (by decide) (by omega)) ?_
                refine xi_iload_n (pc' := 82) (x := a2) kc_17_81 rfl rfl ?_
                refine xi_iff (pc' := 85) kc_17_82 rfl (xc_ne_f (X := a2.toInt) (Y := 0) rfl (by decide) (by omega)) ?_
                refine xi_aload_n (pc' := 86) (x := 115) kc_17_85 rfl rfl ?_
                refine xi_getfield (pc' := 89) (v := .ref 123) kc_17_86 rfl rfl rfl eh4.1 rfl ?_
                refine xi_iload_n (pc' := 90) (x := a1) kc_17_89 rfl rfl ?_
                refine xi_iaload (pc' := 91) (v := 99) kc_17_90 rfl ((eh4.2.1 123 (by decide)).trans ((et3.2.2.1 123 (by decide) (by decide)).trans ((eh2.2.1 123 (by decide)).trans ((eh1.2.1 123 (by decide)).trans (F 123 _ hl_123))))) (by decide) rfl (xi_in (by omega) (by simp only [List.length_replicate]; omega)) (xa_rep (by omega) (by omega)) ?_
                refine xi_goto (pc' := 100) kc_17_91 rfl ?_
                refine xi_istore (pc' := 102) (lv' := [(4, .int 99), (0, .ref 115), (1, .int a1), (2, .int a2), (3, .int a3)]) kc_17_100 rfl rfl (xm_lt ml_17 rfl) ?_
                refine xi_aload_n (pc' := 103) (x := 115) kc_17_102 rfl rfl ?_
                refine xi_getfield (pc' := 106) (v := .ref 123) kc_17_103 rfl rfl rfl eh4.1 rfl ?_
                refine xi_iload_n (pc' := 107) (x := a1) kc_17_106 rfl rfl ?_
                refine xi_iload_n (pc' := 108) (x := a2) kc_17_107 rfl rfl ?_
                refine xi_iff (pc' := 111) kc_17_108 rfl (xc_ne_f (X := a2.toInt) (Y := 0) rfl (by decide) (by omega)) ?_
                refine xi_iload_n (pc' := 112) (x := a3) kc_17_111 rfl rfl ?_
                refine xi_goto (pc' := 121) kc_17_112 rfl ?_
                have lq24 : (List.replicate 600 99 : List Int32).length = 600 := by simp only [List.length_replicate, List.length_cons, List.length_nil, List.length_set]
                obtain ⟨x23, hx23⟩ : ∃ q, (List.replicate 600 99 : List Int32).set (Int32.toNatClampNeg a1) (a3) = q := ⟨_, rfl⟩
                have lx23 : x23.length = 600 := by rw [← hx23, List.length_set]; exact lq24
                refine xi_iastore (pc' := 122) (x' := x23) kc_17_121 rfl ((eh4.2.1 123 (by decide)).trans ((et3.2.2.1 123 (by decide) (by decide)).trans ((eh2.2.1 123 (by decide)).trans ((eh1.2.1 123 (by decide)).trans (F 123 _ hl_123))))) rfl (xi_in (by omega) (by rw [lq24]; omega)) hx23 (fun hh5 eh5 => ?_)
                refine xi_aload_n (pc' := 123) (x := 115) kc_17_122 rfl rfl ?_
                refine xi_getfield (pc' := 126) (v := .ref 124) kc_17_123 rfl rfl rfl ((eh5.2.1 115 (by decide)).trans eh4.1) rfl ?_
                refine xi_iload_n (pc' := 127) (x := a1) kc_17_126 rfl rfl ?_
                refine xi_iload_n (pc' := 128) (x := a2) kc_17_127 rfl rfl ?_
                refine xi_iconst (pc' := 129) (v := 1) kc_17_128 rfl rfl ?_
                refine xi_cmt (pc' := 136) kc_17_129 rfl (xc_ne_t (X := a2.toInt) (Y := 1) rfl (by decide) (by omega)) ?_
                refine xi_aload_n (pc' := 137) (x := 115) kc_17_136 rfl rfl ?_
                refine xi_getfield (pc' := 140) (v := .ref 124) kc_17_137 rfl rfl rfl ((eh5.2.1 115 (by decide)).trans eh4.1) rfl ?_
                refine xi_iload_n (pc' := 141) (x := a1) kc_17_140 rfl rfl ?_
                refine xi_iaload (pc' := 142) (v := 99) kc_17_141 rfl ((eh5.2.1 124 (by decide)).trans ((eh4.2.1 124 (by decide)).trans ((et3.2.2.1 124 (by decide) (by decide)).trans ((eh2.2.1 124 (by decide)).trans ((eh1.2.1 124 (by decide)).trans (F 124 _ hl_124)))))) (by decide) rfl (xi_in (by omega) (by simp only [List.length_replicate]; omega)) (xa_rep (by omega) (by omega)) ?_
                have lq26 : (List.replicate 600 99 : List Int32).length = 600 := by simp only [List.length_replicate, List.length_cons, List.length_nil, List.length_set]
                obtain ⟨x25, hx25⟩ : ∃ q, (List.replicate 600 99 : List Int32).set (Int32.toNatClampNeg a1) (99) = q := ⟨_, rfl⟩
                have lx25 : x25.length = 600 := by rw [← hx25, List.length_set]; exact lq26
                refine xi_iastore (pc' := 143) (x' := x25) kc_17_142 rfl ((eh5.2.1 124 (by decide)).trans ((eh4.2.1 124 (by decide)).trans ((et3.2.2.1 124 (by decide) (by decide)).trans ((eh2.2.1 124 (by decide)).trans ((eh1.2.1 124 (by decide)).trans (F 124 _ hl_124)))))) rfl (xi_in (by omega) (by rw [lq26]; omega)) hx25 (fun hh6 eh6 => ?_)
                refine xi_aload_n (pc' := 144) (x := 115) kc_17_143 rfl rfl ?_
                refine xi_iconst (pc' := 145) (v := 0) kc_17_144 rfl rfl ?_
                refine xi_putfield (pc' := 148) (fs' := [.int 0, .int 0, .ref 116, .ref 117, .ref 118, .ref 119, .ref 120, .ref 121, .ref 122, .ref 123, .ref 124, .ref 125, .ref 126, .ref 127, .ref 128, .ref 129, .int 4, .ref 130, .int 0, .ref 131, .ref 132, .ref 133, .ref 134, .int 0, .ref 135, .ref 136, .ref 137, .ref 138, .ref 139, .ref 140, .ref 141, .ref 142, .int 0, .int 0, .int 0, .ref 143, .ref 144, .ref 145, .ref 146, .ref 147, .ref 148, .int 0, .ref 149, .ref 150, .ref 151, .int 0, .ref 152, .ref 153, .ref 154, .ref 155, .ref 156, .ref 157, .ref 158, .ref 159, .int 0, .ref 160, .int 0, .ref 161, .ref 162, .ref 163, .ref 164, .int 0, .ref 165, .ref 166]) kc_17_145 rfl rfl rfl ((eh6.2.1 115 (by decide)).trans ((eh5.2.1 115 (by decide)).trans eh4.1)) rfl rfl rfl (Nat.le_of_ble_eq_true rfl) rfl (fun hh7 eh7 => ?_)
                refine xi_iload (pc' := 150) (x := 99) kc_17_148 rfl rfl ?_
                refine xi_ireturn kc_17_150 mr_17 rfl ?_
                show xw J ov 100 196 (334, [(4, .int 0), (3, .ref 167), (2, .ref 115), (1, .ref 0), (0, .ref 1000000)], [.int 99, .int 99], hh7) _
                refine xi_cmt (pc' := 1528) kc_196_334 rfl rfl ?_
                refine xi_iinc (pc' := 1531) (x := 0) (v := 6) (lv' := [(4, .int 6), (3, .ref 167), (2, .ref 115), (1, .ref 0), (0, .ref 1000000)]) kc_196_1528 rfl rfl rfl rfl (xm_lt ml_196 rfl) ?_
                refine xi_goto (pc' := 23) kc_196_1531 rfl ?_
                refine xi_iload (pc' := 25) (x := 6) kc_196_23 rfl rfl ?_
                refine xi_aload_n (pc' := 26) (x := 1000000) kc_196_25 rfl rfl ?_
                refine xi_arraylength (pc' := 27) (n := 6) (v := 6) kc_196_26 rfl (xl_lenO (by decide) hov0 rfl) rfl ?_
                refine xi_bipush (pc' := 29) (v := 6) kc_196_27 rfl rfl ?_
                refine xi_isub (pc' := 30) (v := 0) kc_196_29 rfl rfl ?_
                refine xi_cmt (pc' := 1534) kc_196_30 rfl rfl ?_
                refine xi_iconst (pc' := 1535) (v := 1) kc_196_1534 rfl rfl ?_
                refine xi_ireturn kc_196_1535 mr_196 rfl ?_
                refine ⟨rfl, ?_, ?_⟩
                · rw [eh7.2.2.1, eh6.2.2.1, eh5.2.2.1, eh4.2.2.1, et3.2.2.2.1, eh2.2.2.1, eh1.2.2.1]; exact hn0
                · rw [eh7.2.2.2, eh6.2.2.2, eh5.2.2.2, eh4.2.2.2, et3.2.2.2.2, eh2.2.2.2, eh1.2.2.2]; exact hz0
              · refine xi_iff (pc' := 4) kc_100_1 rfl (xc_lt_f (X := (a1.toInt + (-1))) (Y := 0) zv21 (by decide) (by omega)) ?_
                refine xi_iload_n (pc' := 5) (x := v21) kc_100_4 rfl rfl ?_
                refine xi_aload_n (pc' := 6) (x := 5) kc_100_5 rfl rfl ?_
                refine xi_getfield (pc' := 9) (v := .ref 7) kc_100_6 rfl rfl rfl ((eh2.2.1 5 (by decide)).trans ((eh1.2.1 5 (by decide)).trans (F 5 _ hl_5))) rfl ?_
                refine xi_arraylength (pc' := 10) (n := 601) (v := 601) kc_100_9 rfl (xl_lenI (by decide) (by decide) ((eh2.2.1 7 (by decide)).trans ((eh1.2.1 7 (by decide)).trans (F 7 _ hl_7))) (by simp only [List.length_replicate, List.length_cons, List.length_nil])) rfl ?_
                refine xi_cmt (pc' := 20) kc_100_10 rfl (xc_lt_t (X := (a1.toInt + (-1))) (Y := 601) zv21 (by decide) (by omega)) ?_
                refine xi_aload_n (pc' := 21) (x := 5) kc_100_20 rfl rfl ?_
                refine xi_getfield (pc' := 24) (v := .ref 7) kc_100_21 rfl rfl rfl ((eh2.2.1 5 (by decide)).trans ((eh1.2.1 5 (by decide)).trans (F 5 _ hl_5))) rfl ?_
                refine xi_iload_n (pc' := 25) (x := v21) kc_100_24 rfl rfl ?_
                refine xi_iaload (pc' := 26) (v := 5) kc_100_25 rfl ((eh2.2.1 7 (by decide)).trans ((eh1.2.1 7 (by decide)).trans (F 7 _ hl_7))) (by decide) rfl (xi_in (by rw [zv21]; omega) (by rw [zv21]; simp only [List.length_replicate]; omega)) (xa_rep (by rw [zv21]; omega) (by rw [zv21]; omega)) ?_
                refine xi_ireturn kc_100_26 mr_100 rfl ?_
                show xw J ov 98 99 (37, [(3, .int 99), (0, .ref 5), (1, .int a1), (2, .int a3)], [.int 5], hh2) _
                refine xi_istore (pc' := 39) (lv' := [(4, .int 5), (3, .int 99), (0, .ref 5), (1, .int a1), (2, .int a3)]) kc_99_37 rfl rfl (xm_lt ml_99 rfl) ?_
                refine xi_iload_n (pc' := 40) (x := a1) kc_99_39 rfl rfl ?_
                refine xi_istore (pc' := 42) (lv' := [(5, .int a1), (4, .int 5), (3, .int 99), (0, .ref 5), (1, .int a1), (2, .int a3)]) kc_99_40 rfl rfl (xm_lt ml_99 rfl) ?_
                refine lp_tell_cold (hr := a1) (v := a3) hJ ((eh2.2.1 5 (by decide)).trans ((eh1.2.1 5 (by decide)).trans (F 5 _ hl_5))) (fun y3 z3 hh3 ly3 lz3 et3 => ?_) 601 a1 5 x19 (List.replicate 601 5) hh2 (by omega) (by omega) (by omega) lx19 (by simp only [List.length_replicate]) ⟨eh2.1, ((eh2.2.1 7 (by decide)).trans ((eh1.2.1 7 (by decide)).trans (F 7 _ hl_7))), fun _ _ _ => rfl, rfl, rfl⟩
                show xw J ov 99 96 (104, [(5, .int 30), (4, .int (-20)), (0, .ref 0), (1, .int a1), (2, .int a2), (3, .int a3)], [.int 99], hh3) _
                refine xi_ireturn kc_96_104 mr_96 rfl ?_
                show xw J ov 100 196 (312, [(4, .int 0), (3, .ref 167), (2, .ref 115), (1, .ref 0), (0, .ref 1000000)], [.int 99], hh3) _
                refine xi_aload_n (pc' := 313) (x := 115) kc_196_312 rfl rfl ?_
                refine xi_aload_n (pc' := 314) (x := 1000000) kc_196_313 rfl rfl ?_
                refine xi_iload (pc' := 316) (x := 0) kc_196_314 rfl rfl ?_
                refine xi_iconst (pc' := 317) (v := 1) kc_196_316 rfl rfl ?_
                refine xi_iadd (pc' := 318) (v := 1) kc_196_317 rfl rfl ?_
                refine xi_ialoadO (pc' := 319) (v := a1) kc_196_318 rfl (by decide) hov0 (xi_in (n := 6) (by decide) (by decide)) rfl ?_
                refine xi_aload_n (pc' := 320) (x := 1000000) kc_196_319 rfl rfl ?_
                refine xi_iload (pc' := 322) (x := 0) kc_196_320 rfl rfl ?_
                refine xi_iconst (pc' := 323) (v := 2) kc_196_322 rfl rfl ?_
                refine xi_iadd (pc' := 324) (v := 2) kc_196_323 rfl rfl ?_
                refine xi_ialoadO (pc' := 325) (v := a2) kc_196_324 rfl (by decide) hov0 (xi_in (n := 6) (by decide) (by decide)) rfl ?_
                refine xi_aload_n (pc' := 326) (x := 1000000) kc_196_325 rfl rfl ?_
                refine xi_iload (pc' := 328) (x := 0) kc_196_326 rfl rfl ?_
                refine xi_iconst (pc' := 329) (v := 3) kc_196_328 rfl rfl ?_
                refine xi_iadd (pc' := 330) (v := 3) kc_196_329 rfl rfl ?_
                refine xi_ialoadO (pc' := 331) (v := a3) kc_196_330 rfl (by decide) hov0 (xi_in (n := 6) (by decide) (by decide)) rfl ?_
                refine xi_virtual (mj := 17) (as := [.int a1, .int a2, .int a3]) (st1 := [.int 99]) (lv0 := [(0, .ref 115), (1, .int a1), (2, .int a2), (3, .int a3)]) kc_196_331 rfl rfl rfl rfl rfl ((et3.2.2.1 115 (by decide) (by decide)).trans ((eh2.2.1 115 (by decide)).trans ((eh1.2.1 115 (by decide)).trans (F 115 _ hl_115)))) (Nat.le_of_ble_eq_true rfl) (hJ _ _ _ _ (by decide)) (xm_le ml_17 rfl) rfl ?_
                refine xi_aload_n (pc' := 1) (x := 115) kc_17_0 rfl rfl ?_
                refine xi_iconst (pc' := 2) (v := 0) kc_17_1 rfl rfl ?_
                refine xi_putfield (pc' := 5) (fs' := [.int 0, .int 0, .ref 116, .ref 117, .ref 118, .ref 119, .ref 120, .ref 121, .ref 122, .ref 123, .ref 124, .ref 125, .ref 126, .ref 127, .ref 128, .ref 129, .int 4, .ref 130, .int 0, .ref 131, .ref 132, .ref 133, .ref 134, .int 0, .ref 135, .ref 136, .ref 137, .ref 138, .ref 139, .ref 140, .ref 141, .ref 142, .int 0, .int 0, .int 0, .ref 143, .ref 144, .ref 145, .ref 146, .ref 147, .ref 148, .int 0, .ref 149, .ref 150, .ref 151, .int 0, .ref 152, .ref 153, .ref 154, .ref 155, .ref 156, .ref 157, .ref 158, .ref 159, .int 0, .ref 160, .int 0, .ref 161, .ref 162, .ref 163, .ref 164, .int 0, .ref 165, .ref 166]) kc_17_2 rfl rfl rfl ((et3.2.2.1 115 (by decide) (by decide)).trans ((eh2.2.1 115 (by decide)).trans ((eh1.2.1 115 (by decide)).trans (F 115 _ hl_115)))) rfl rfl rfl (Nat.le_of_ble_eq_true rfl) rfl (fun hh4 eh4 => ?_)
                refine xi_iload_n (pc' := 6) (x := a2) kc_17_5 rfl rfl ?_
                refine xi_iconst (pc' := 7) (v := 0) kc_17_6 rfl rfl ?_
                refine xi_iconst (pc' := 8) (v := 1) kc_17_7 rfl rfl ?_
                refine xi_static (mj := 12) (as := [.int a2, .int 0, .int 1]) (st1 := []) (lv0 := [(0, .int a2), (1, .int 0), (2, .int 1)]) kc_17_8 rfl rfl (Nat.le_of_ble_eq_true rfl) rfl rfl (Nat.le_of_ble_eq_true rfl) (hJ _ _ _ _ (by decide)) (xm_le ml_12 rfl) rfl ?_
                refine xi_iload_n (pc' := 1) (x := a2) kc_12_0 rfl rfl ?_
                refine xi_iload_n (pc' := 2) (x := 0) kc_12_1 rfl rfl ?_
                refine xi_cmf (pc' := 5) kc_12_2 rfl (xc_lt_f (X := a2.toInt) (Y := 0) rfl (by decide) (by omega)) ?_
                refine xi_iload_n (pc' := 6) (x := a2) kc_12_5 rfl rfl ?_
                refine xi_iload_n (pc' := 7) (x := 1) kc_12_6 rfl rfl ?_
                refine xi_cmf (pc' := 10) kc_12_7 rfl (xc_gt_f (X := a2.toInt) (Y := 1) rfl (by decide) (by omega)) ?_
                refine xi_iconst (pc' := 11) (v := 1) kc_12_10 rfl rfl ?_
                refine xi_goto (pc' := 15) kc_12_11 rfl ?_
                refine xi_ireturn kc_12_15 mr_12 rfl ?_
                show xw J ov 99 17 (11, [(0, .ref 115), (1, .int a1), (2, .int a2), (3, .int a3)], [.int 1], hh4) _
                refine xi_ift (pc' := 21) kc_17_11 rfl rfl ?_
                refine xi_iload_n (pc' := 22) (x := a1) kc_17_21 rfl rfl ?_
                refine xi_iff (pc' := 25) kc_17_22 rfl (xc_lt_f (X := a1.toInt) (Y := 0) rfl (by decide) (by omega)) ?_
                refine xi_iload_n (pc' := 26) (x := a3) kc_17_25 rfl rfl ?_
                refine xi_iload_n (pc' := 27) (x := a2) kc_17_26 rfl rfl ?_
                refine xi_iff (pc' := 30) kc_17_27 rfl (xc_ne_f (X := a2.toInt) (Y := 0) rfl (by decide) (by omega)) ?_
                refine xi_bipush (pc' := 32) (v := (-20)) kc_17_30 rfl rfl ?_
                refine xi_goto (pc' := 36) kc_17_32 rfl ?_
                refine xi_cmt (pc' := 46) kc_17_36 rfl (xc_ge_t (X := a3.toInt) (Y := (-20)) rfl (by decide) (by omega)) ?_
                refine xi_iload_n (pc' := 47) (x := a1) kc_17_46 rfl rfl ?_
                refine xi_sipush (pc' := 50) (v := 599) kc_17_47 rfl rfl ?_
                refine xi_cmf (pc' := 53) kc_17_50 rfl (xc_gt_f (X := a1.toInt) (Y := 599) rfl (by decide) (by omega)) ?_
                refine xi_iload_n (pc' := 54) (x := a3) kc_17_53 rfl rfl ?_
                refine xi_iload_n (pc' := 55) (x := a2) kc_17_54 rfl rfl ?_
                refine xi_iff (pc' := 58) kc_17_55 rfl (xc_ne_f (X := a2.toInt) (Y := 0) rfl (by decide) (by omega)) ?_
                refine xi_bipush (pc' := 60) (v := 30) kc_17_58 rfl rfl ?_
                refine xi_goto (pc' := 65) kc_17_60 rfl ?_
                refine xi_cmf (pc' := 68) kc_17_65 rfl (xc_le_f (X := a3.toInt) (Y := 30) rfl (by decide) (by omega)) ?_
                refine xi_iload_n (pc' := 69) (x := a3) kc_17_68 rfl rfl ?_
                refine xi_bipush (pc' := 71) (v := 99) kc_17_69 rfl rfl ?_
                refine xi_cmt (pc' := 81) kc_17_71 rfl (xc_eq_t (X := a3.toInt) (Y := 99) rfl (by decide) (by omega)) ?_
                refine xi_iload_n (pc' := 82) (x := a2) kc_17_81 rfl rfl ?_
                refine xi_iff (pc' := 85) kc_17_82 rfl (xc_ne_f (X := a2.toInt) (Y := 0) rfl (by decide) (by omega)) ?_
                refine xi_aload_n (pc' := 86) (x := 115) kc_17_85 rfl rfl ?_
                refine xi_getfield (pc' := 89) (v := .ref 123) kc_17_86 rfl rfl rfl eh4.1 rfl ?_
                refine xi_iload_n (pc' := 90) (x := a1) kc_17_89 rfl rfl ?_
                refine xi_iaload (pc' := 91) (v := 99) kc_17_90 rfl ((eh4.2.1 123 (by decide)).trans ((et3.2.2.1 123 (by decide) (by decide)).trans ((eh2.2.1 123 (by decide)).trans ((eh1.2.1 123 (by decide)).trans (F 123 _ hl_123))))) (by decide) rfl (xi_in (by omega) (by simp only [List.length_replicate]; omega)) (xa_rep (by omega) (by omega)) ?_
                refine xi_goto (pc' := 100) kc_17_91 rfl ?_
                refine xi_istore (pc' := 102) (lv' := [(4, .int 99), (0, .ref 115), (1, .int a1), (2, .int a2), (3, .int a3)]) kc_17_100 rfl rfl (xm_lt ml_17 rfl) ?_
                refine xi_aload_n (pc' := 103) (x := 115) kc_17_102 rfl rfl ?_
                refine xi_getfield (pc' := 106) (v := .ref 123) kc_17_103 rfl rfl rfl eh4.1 rfl ?_
                refine xi_iload_n (pc' := 107) (x := a1) kc_17_106 rfl rfl ?_
                refine xi_iload_n (pc' := 108) (x := a2) kc_17_107 rfl rfl ?_
                refine xi_iff (pc' := 111) kc_17_108 rfl (xc_ne_f (X := a2.toInt) (Y := 0) rfl (by decide) (by omega)) ?_
                refine xi_iload_n (pc' := 112) (x := a3) kc_17_111 rfl rfl ?_
                refine xi_goto (pc' := 121) kc_17_112 rfl ?_
                have lq28 : (List.replicate 600 99 : List Int32).length = 600 := by simp only [List.length_replicate, List.length_cons, List.length_nil, List.length_set]
                obtain ⟨x27, hx27⟩ : ∃ q, (List.replicate 600 99 : List Int32).set (Int32.toNatClampNeg a1) (a3) = q := ⟨_, rfl⟩
                have lx27 : x27.length = 600 := by rw [← hx27, List.length_set]; exact lq28
                refine xi_iastore (pc' := 122) (x' := x27) kc_17_121 rfl ((eh4.2.1 123 (by decide)).trans ((et3.2.2.1 123 (by decide) (by decide)).trans ((eh2.2.1 123 (by decide)).trans ((eh1.2.1 123 (by decide)).trans (F 123 _ hl_123))))) rfl (xi_in (by omega) (by rw [lq28]; omega)) hx27 (fun hh5 eh5 => ?_)
                refine xi_aload_n (pc' := 123) (x := 115) kc_17_122 rfl rfl ?_
                refine xi_getfield (pc' := 126) (v := .ref 124) kc_17_123 rfl rfl rfl ((eh5.2.1 115 (by decide)).trans eh4.1) rfl ?_
                refine xi_iload_n (pc' := 127) (x := a1) kc_17_126 rfl rfl ?_
                refine xi_iload_n (pc' := 128) (x := a2) kc_17_127 rfl rfl ?_
                refine xi_iconst (pc' := 129) (v := 1) kc_17_128 rfl rfl ?_
                refine xi_cmt (pc' := 136) kc_17_129 rfl (xc_ne_t (X := a2.toInt) (Y := 1) rfl (by decide) (by omega)) ?_
                refine xi_aload_n (pc' := 137) (x := 115) kc_17_136 rfl rfl ?_
                refine xi_getfield (pc' := 140) (v := .ref 124) kc_17_137 rfl rfl rfl ((eh5.2.1 115 (by decide)).trans eh4.1) rfl ?_
                refine xi_iload_n (pc' := 141) (x := a1) kc_17_140 rfl rfl ?_
                refine xi_iaload (pc' := 142) (v := 99) kc_17_141 rfl ((eh5.2.1 124 (by decide)).trans ((eh4.2.1 124 (by decide)).trans ((et3.2.2.1 124 (by decide) (by decide)).trans ((eh2.2.1 124 (by decide)).trans ((eh1.2.1 124 (by decide)).trans (F 124 _ hl_124)))))) (by decide) rfl (xi_in (by omega) (by simp only [List.length_replicate]; omega)) (xa_rep (by omega) (by omega)) ?_
                have lq30 : (List.replicate 600 99 : List Int32).length = 600 := by simp only [List.length_replicate, List.length_cons, List.length_nil, List.length_set]
                obtain ⟨x29, hx29⟩ : ∃ q, (List.replicate 600 99 : List Int32).set (Int32.toNatClampNeg a1) (99) = q := ⟨_, rfl⟩
                have lx29 : x29.length = 600 := by rw [← hx29, List.length_set]; exact lq30
                refine xi_iastore (pc' := 143) (x' := x29) kc_17_142 rfl ((eh5.2.1 124 (by decide)).trans ((eh4.2.1 124 (by decide)).trans ((et3.2.2.1 124 (by decide) (by decide)).trans ((eh2.2.1 124 (by decide)).trans ((eh1.2.1 124 (by decide)).trans (F 124 _ hl_124)))))) rfl (xi_in (by omega) (by rw [lq30]; omega)) hx29 (fun hh6 eh6 => ?_)
                refine xi_aload_n (pc' := 144) (x := 115) kc_17_143 rfl rfl ?_
                refine xi_iconst (pc' := 145) (v := 0) kc_17_144 rfl rfl ?_
                refine xi_putfield (pc' := 148) (fs' := [.int 0, .int 0, .ref 116, .ref 117, .ref 118, .ref 119, .ref 120, .ref 121, .ref 122, .ref 123, .ref 124, .ref 125, .ref 126, .ref 127, .ref 128, .ref 129, .int 4, .ref 130, .int 0, .ref 131, .ref 132, .ref 133, .ref 134, .int 0, .ref 135, .ref 136, .ref 137, .ref 138, .ref 139, .ref 140, .ref 141, .ref 142, .int 0, .int 0, .int 0, .ref 143, .ref 144, .ref 145, .ref 146, .ref 147, .ref 148, .int 0, .ref 149, .ref 150, .ref 151, .int 0, .ref 152, .ref 153, .ref 154, .ref 155, .ref 156, .ref 157, .ref 158, .ref 159, .int 0, .ref 160, .int 0, .ref 161, .ref 162, .ref 163, .ref 164, .int 0, .ref 165, .ref 166]) kc_17_145 rfl rfl rfl ((eh6.2.1 115 (by decide)).trans ((eh5.2.1 115 (by decide)).trans eh4.1)) rfl rfl rfl (Nat.le_of_ble_eq_true rfl) rfl (fun hh7 eh7 => ?_)
                refine xi_iload (pc' := 150) (x := 99) kc_17_148 rfl rfl ?_
                refine xi_ireturn kc_17_150 mr_17 rfl ?_
                show xw J ov 100 196 (334, [(4, .int 0), (3, .ref 167), (2, .ref 115), (1, .ref 0), (0, .ref 1000000)], [.int 99, .int 99], hh7) _
                refine xi_cmt (pc' := 1528) kc_196_334 rfl rfl ?_
                refine xi_iinc (pc' := 1531) (x := 0) (v := 6) (lv' := [(4, .int 6), (3, .ref 167), (2, .ref 115), (1, .ref 0), (0, .ref 1000000)]) kc_196_1528 rfl rfl rfl rfl (xm_lt ml_196 rfl) ?_
                refine xi_goto (pc' := 23) kc_196_1531 rfl ?_
                refine xi_iload (pc' := 25) (x := 6) kc_196_23 rfl rfl ?_
                refine xi_aload_n (pc' := 26) (x := 1000000) kc_196_25 rfl rfl ?_
                refine xi_arraylength (pc' := 27) (n := 6) (v := 6) kc_196_26 rfl (xl_lenO (by decide) hov0 rfl) rfl ?_
                refine xi_bipush (pc' := 29) (v := 6) kc_196_27 rfl rfl ?_
                refine xi_isub (pc' := 30) (v := 0) kc_196_29 rfl rfl ?_
                refine xi_cmt (pc' := 1534) kc_196_30 rfl rfl ?_
                refine xi_iconst (pc' := 1535) (v := 1) kc_196_1534 rfl rfl ?_
                refine xi_ireturn kc_196_1535 mr_196 rfl ?_
                refine ⟨rfl, ?_, ?_⟩
                · rw [eh7.2.2.1, eh6.2.2.1, eh5.2.2.1, eh4.2.2.1, et3.2.2.2.1, eh2.2.2.1, eh1.2.2.1]; exact hn0
                · rw [eh7.2.2.2, eh6.2.2.2, eh5.2.2.2, eh4.2.2.2, et3.2.2.2.2, eh2.2.2.2, eh1.2.2.2]; exact hz0
            · refine xi_cmf (pc' := 77) kc_96_74 rfl (xc_eq_f (X := a3.toInt) (Y := 99) rfl (by decide) (by omega)) ?_
              refine xi_aload_n (pc' := 78) (x := 0) kc_96_77 rfl rfl ?_
              refine xi_bipush (pc' := 80) (v := (-6)) kc_96_78 rfl rfl ?_
              refine xi_virtual (mj := 97) (as := [.int (-6)]) (st1 := []) (lv0 := [(0, .ref 0), (1, .int (-6))]) kc_96_80 rfl rfl rfl rfl rfl (F 0 _ hl_0) (Nat.le_of_ble_eq_true rfl) (hJ _ _ _ _ (by decide)) (xm_le ml_97 rfl) rfl ?_
              refine xi_ldc_w (pc' := 3) (v := 1000000000) kc_97_0 rfl rfl ?_
              refine xi_aload_n (pc' := 4) (x := 0) kc_97_3 rfl rfl ?_
              refine xi_iload_n (pc' := 5) (x := (-6)) kc_97_4 rfl rfl ?_
              refine xi_virtual (mj := 91) (as := [.int (-6)]) (st1 := [.int 1000000000]) (lv0 := [(0, .ref 0), (1, .int (-6))]) kc_97_5 rfl rfl rfl rfl rfl (F 0 _ hl_0) (Nat.le_of_ble_eq_true rfl) (hJ _ _ _ _ (by decide)) (xm_le ml_91 rfl) rfl ?_
              refine xi_iload_n (pc' := 1) (x := (-6)) kc_91_0 rfl rfl ?_
              refine xi_ineg (pc' := 2) (v := 6) kc_91_1 rfl rfl ?_
              refine xi_istore_n (pc' := 3) (lv' := [(2, .int 6), (0, .ref 0), (1, .int (-6))]) kc_91_2 rfl rfl (xm_lt ml_91 rfl) ?_
              refine xi_iload_n (pc' := 4) (x := 6) kc_91_3 rfl rfl ?_
              refine xi_iff (pc' := 7) kc_91_4 rfl rfl ?_
              refine xi_iload_n (pc' := 8) (x := 6) kc_91_7 rfl rfl ?_
              refine xi_aload_n (pc' := 9) (x := 0) kc_91_8 rfl rfl ?_
              refine xi_getfield (pc' := 12) (v := .ref 94) kc_91_9 rfl rfl rfl (F 0 _ hl_0) rfl ?_
              refine xi_arraylength (pc' := 13) (n := 7) (v := 7) kc_91_12 rfl (xl_lenI (by decide) (by decide) (F 94 _ hl_94) (by simp only [List.length_replicate, List.length_cons, List.length_nil])) rfl ?_
              refine xi_cmf (pc' := 16) kc_91_13 rfl rfl ?_
              refine xi_aload_n (pc' := 17) (x := 0) kc_91_16 rfl rfl ?_
              refine xi_getfield (pc' := 20) (v := .ref 94) kc_91_17 rfl rfl rfl (F 0 _ hl_0) rfl ?_
              refine xi_iload_n (pc' := 21) (x := 6) kc_91_20 rfl rfl ?_
              refine xi_dup2 (pc' := 22) kc_91_21 rfl ⟨rfl, rfl⟩ ?_
              refine xi_iaload (pc' := 23) (v := 0) kc_91_22 rfl (F 94 _ hl_94) (by decide) rfl (xi_in (n := 7) (by decide) (by decide)) rfl ?_
              refine xi_iconst (pc' := 24) (v := 1) kc_91_23 rfl rfl ?_
              refine xi_iadd (pc' := 25) (v := 1) kc_91_24 rfl rfl ?_
              refine xi_iastore (pc' := 26) (x' := [0, 0, 0, 0, 0, 0, 1]) kc_91_25 rfl (F 94 _ hl_94) rfl (xi_in (n := 7) (by decide) (by decide)) rfl (fun hh1 eh1 => ?_)
              refine xi_iload_n (pc' := 27) (x := (-6)) kc_91_26 rfl rfl ?_
              refine xi_ireturn kc_91_27 mr_91 rfl ?_
              show xw J ov 98 97 (8, [(0, .ref 0), (1, .int (-6))], [.int (-6), .int 1000000000], hh1) _
              refine xi_isub (pc' := 9) (v := 1000000006) kc_97_8 rfl rfl ?_
              refine xi_ireturn kc_97_9 mr_97 rfl ?_
              show xw J ov 99 96 (83, [(5, .int 30), (4, .int (-20)), (0, .ref 0), (1, .int a1), (2, .int a2), (3, .int a3)], [.int 1000000006], hh1) _
              refine xi_ireturn kc_96_83 mr_96 rfl ?_
              show xw J ov 100 196 (312, [(4, .int 0), (3, .ref 167), (2, .ref 115), (1, .ref 0), (0, .ref 1000000)], [.int 1000000006], hh1) _
              refine xi_aload_n (pc' := 313) (x := 115) kc_196_312 rfl rfl ?_
              refine xi_aload_n (pc' := 314) (x := 1000000) kc_196_313 rfl rfl ?_
              refine xi_iload (pc' := 316) (x := 0) kc_196_314 rfl rfl ?_
              refine xi_iconst (pc' := 317) (v := 1) kc_196_316 rfl rfl ?_
              refine xi_iadd (pc' := 318) (v := 1) kc_196_317 rfl rfl ?_
              refine xi_ialoadO (pc' := 319) (v := a1) kc_196_318 rfl (by decide) hov0 (xi_in (n := 6) (by decide) (by decide)) rfl ?_
              refine xi_aload_n (pc' := 320) (x := 1000000) kc_196_319 rfl rfl ?_
              refine xi_iload (pc' := 322) (x := 0) kc_196_320 rfl rfl ?_
              refine xi_iconst (pc' := 323) (v := 2) kc_196_322 rfl rfl ?_
              refine xi_iadd (pc' := 324) (v := 2) kc_196_323 rfl rfl ?_
              refine xi_ialoadO (pc' := 325) (v := a2) kc_196_324 rfl (by decide) hov0 (xi_in (n := 6) (by decide) (by decide)) rfl ?_
              refine xi_aload_n (pc' := 326) (x := 1000000) kc_196_325 rfl rfl ?_
              refine xi_iload (pc' := 328) (x := 0) kc_196_326 rfl rfl ?_
              refine xi_iconst (pc' := 329) (v := 3) kc_196_328 rfl rfl ?_
              refine xi_iadd (pc' := 330) (v := 3) kc_196_329 rfl rfl ?_
              refine xi_ialoadO (pc' := 331) (v := a3) kc_196_330 rfl (by decide) hov0 (xi_in (n := 6) (by decide) (by decide)) rfl ?_
              refine xi_virtual (mj := 17) (as := [.int a1, .int a2, .int a3]) (st1 := [.int 1000000006]) (lv0 := [(0, .ref 115), (1, .int a1), (2, .int a2), (3, .int a3)]) kc_196_331 rfl rfl rfl rfl rfl ((eh1.2.1 115 (by decide)).trans (F 115 _ hl_115)) (Nat.le_of_ble_eq_true rfl) (hJ _ _ _ _ (by decide)) (xm_le ml_17 rfl) rfl ?_
              refine xi_aload_n (pc' := 1) (x := 115) kc_17_0 rfl rfl ?_
              refine xi_iconst (pc' := 2) (v := 0) kc_17_1 rfl rfl ?_
              refine xi_putfield (pc' := 5) (fs' := [.int 0, .int 0, .ref 116, .ref 117, .ref 118, .ref 119, .ref 120, .ref 121, .ref 122, .ref 123, .ref 124, .ref 125, .ref 126, .ref 127, .ref 128, .ref 129, .int 4, .ref 130, .int 0, .ref 131, .ref 132, .ref 133, .ref 134, .int 0, .ref 135, .ref 136, .ref 137, .ref 138, .ref 139, .ref 140, .ref 141, .ref 142, .int 0, .int 0, .int 0, .ref 143, .ref 144, .ref 145, .ref 146, .ref 147, .ref 148, .int 0, .ref 149, .ref 150, .ref 151, .int 0, .ref 152, .ref 153, .ref 154, .ref 155, .ref 156, .ref 157, .ref 158, .ref 159, .int 0, .ref 160, .int 0, .ref 161, .ref 162, .ref 163, .ref 164, .int 0, .ref 165, .ref 166]) kc_17_2 rfl rfl rfl ((eh1.2.1 115 (by decide)).trans (F 115 _ hl_115)) rfl rfl rfl (Nat.le_of_ble_eq_true rfl) rfl (fun hh2 eh2 => ?_)
              refine xi_iload_n (pc' := 6) (x := a2) kc_17_5 rfl rfl ?_
              refine xi_iconst (pc' := 7) (v := 0) kc_17_6 rfl rfl ?_
              refine xi_iconst (pc' := 8) (v := 1) kc_17_7 rfl rfl ?_
              refine xi_static (mj := 12) (as := [.int a2, .int 0, .int 1]) (st1 := []) (lv0 := [(0, .int a2), (1, .int 0), (2, .int 1)]) kc_17_8 rfl rfl (Nat.le_of_ble_eq_true rfl) rfl rfl (Nat.le_of_ble_eq_true rfl) (hJ _ _ _ _ (by decide)) (xm_le ml_12 rfl) rfl ?_
              refine xi_iload_n (pc' := 1) (x := a2) kc_12_0 rfl rfl ?_
              refine xi_iload_n (pc' := 2) (x := 0) kc_12_1 rfl rfl ?_
              refine xi_cmf (pc' := 5) kc_12_2 rfl (xc_lt_f (X := a2.toInt) (Y := 0) rfl (by decide) (by omega)) ?_
              refine xi_iload_n (pc' := 6) (x := a2) kc_12_5 rfl rfl ?_
              refine xi_iload_n (pc' := 7) (x := 1) kc_12_6 rfl rfl ?_
              refine xi_cmf (pc' := 10) kc_12_7 rfl (xc_gt_f (X := a2.toInt) (Y := 1) rfl (by decide) (by omega)) ?_
              refine xi_iconst (pc' := 11) (v := 1) kc_12_10 rfl rfl ?_
              refine xi_goto (pc' := 15) kc_12_11 rfl ?_
              refine xi_ireturn kc_12_15 mr_12 rfl ?_
              show xw J ov 99 17 (11, [(0, .ref 115), (1, .int a1), (2, .int a2), (3, .int a3)], [.int 1], hh2) _
              refine xi_ift (pc' := 21) kc_17_11 rfl rfl ?_
              refine xi_iload_n (pc' := 22) (x := a1) kc_17_21 rfl rfl ?_
              refine xi_iff (pc' := 25) kc_17_22 rfl (xc_lt_f (X := a1.toInt) (Y := 0) rfl (by decide) (by omega)) ?_
              refine xi_iload_n (pc' := 26) (x := a3) kc_17_25 rfl rfl ?_
              refine xi_iload_n (pc' := 27) (x := a2) kc_17_26 rfl rfl ?_
              refine xi_iff (pc' := 30) kc_17_27 rfl (xc_ne_f (X := a2.toInt) (Y := 0) rfl (by decide) (by omega)) ?_
              refine xi_bipush (pc' := 32) (v := (-20)) kc_17_30 rfl rfl ?_
              refine xi_goto (pc' := 36) kc_17_32 rfl ?_
              refine xi_cmt (pc' := 46) kc_17_36 rfl (xc_ge_t (X := a3.toInt) (Y := (-20)) rfl (by decide) (by omega)) ?_
              refine xi_iload_n (pc' := 47) (x := a1) kc_17_46 rfl rfl ?_
              refine xi_sipush (pc' := 50) (v := 599) kc_17_47 rfl rfl ?_
              refine xi_cmf (pc' := 53) kc_17_50 rfl (xc_gt_f (X := a1.toInt) (Y := 599) rfl (by decide) (by omega)) ?_
              refine xi_iload_n (pc' := 54) (x := a3) kc_17_53 rfl rfl ?_
              refine xi_iload_n (pc' := 55) (x := a2) kc_17_54 rfl rfl ?_
              refine xi_iff (pc' := 58) kc_17_55 rfl (xc_ne_f (X := a2.toInt) (Y := 0) rfl (by decide) (by omega)) ?_
              refine xi_bipush (pc' := 60) (v := 30) kc_17_58 rfl rfl ?_
              refine xi_goto (pc' := 65) kc_17_60 rfl ?_
              refine xi_cmf (pc' := 68) kc_17_65 rfl (xc_le_f (X := a3.toInt) (Y := 30) rfl (by decide) (by omega)) ?_
              refine xi_iload_n (pc' := 69) (x := a3) kc_17_68 rfl rfl ?_
              refine xi_bipush (pc' := 71) (v := 99) kc_17_69 rfl rfl ?_
              refine xi_cmf (pc' := 74) kc_17_71 rfl (xc_eq_f (X := a3.toInt) (Y := 99) rfl (by decide) (by omega)) ?_
              refine xi_aload_n (pc' := 75) (x := 115) kc_17_74 rfl rfl ?_
              refine xi_bipush (pc' := 77) (v := (-6)) kc_17_75 rfl rfl ?_
              refine xi_virtual (mj := 18) (as := [.int (-6)]) (st1 := []) (lv0 := [(0, .ref 115), (1, .int (-6))]) kc_17_77 rfl rfl rfl rfl rfl eh2.1 (Nat.le_of_ble_eq_true rfl) (hJ _ _ _ _ (by decide)) (xm_le ml_18 rfl) rfl ?_
              refine xi_aload_n (pc' := 1) (x := 115) kc_18_0 rfl rfl ?_
              refine xi_getfield (pc' := 4) (v := .ref 140) kc_18_1 rfl rfl rfl eh2.1 rfl ?_
              refine xi_iload_n (pc' := 5) (x := (-6)) kc_18_4 rfl rfl ?_
              refine xi_ineg (pc' := 6) (v := 6) kc_18_5 rfl rfl ?_
              refine xi_dup2 (pc' := 7) kc_18_6 rfl ⟨rfl, rfl⟩ ?_
              refine xi_iaload (pc' := 8) (v := 0) kc_18_7 rfl ((eh2.2.1 140 (by decide)).trans ((eh1.2.1 140 (by decide)).trans (F 140 _ hl_140))) (by decide) rfl (xi_in (n := 7) (by decide) (by decide)) rfl ?_
              refine xi_iconst (pc' := 9) (v := 1) kc_18_8 rfl rfl ?_
              refine xi_iadd (pc' := 10) (v := 1) kc_18_9 rfl rfl ?_
              refine xi_iastore (pc' := 11) (x' := [0, 0, 0, 0, 0, 0, 1]) kc_18_10 rfl ((eh2.2.1 140 (by decide)).trans ((eh1.2.1 140 (by decide)).trans (F 140 _ hl_140))) rfl (xi_in (n := 7) (by decide) (by decide)) rfl (fun hh3 eh3 => ?_)
              refine xi_ldc (pc' := 13) (v := 1000000000) kc_18_11 rfl rfl ?_
              refine xi_iload_n (pc' := 14) (x := (-6)) kc_18_13 rfl rfl ?_
              refine xi_isub (pc' := 15) (v := 1000000006) kc_18_14 rfl rfl ?_
              refine xi_ireturn kc_18_15 mr_18 rfl ?_
              show xw J ov 99 17 (80, [(0, .ref 115), (1, .int a1), (2, .int a2), (3, .int a3)], [.int 1000000006], hh3) _
              refine xi_ireturn kc_17_80 mr_17 rfl ?_
              show xw J ov 100 196 (334, [(4, .int 0), (3, .ref 167), (2, .ref 115), (1, .ref 0), (0, .ref 1000000)], [.int 1000000006, .int 1000000006], hh3) _
              refine xi_cmt (pc' := 1528) kc_196_334 rfl rfl ?_
              refine xi_iinc (pc' := 1531) (x := 0) (v := 6) (lv' := [(4, .int 6), (3, .ref 167), (2, .ref 115), (1, .ref 0), (0, .ref 1000000)]) kc_196_1528 rfl rfl rfl rfl (xm_lt ml_196 rfl) ?_
              refine xi_goto (pc' := 23) kc_196_1531 rfl ?_
              refine xi_iload (pc' := 25) (x := 6) kc_196_23 rfl rfl ?_
              refine xi_aload_n (pc' := 26) (x := 1000000) kc_196_25 rfl rfl ?_
              refine xi_arraylength (pc' := 27) (n := 6) (v := 6) kc_196_26 rfl (xl_lenO (by decide) hov0 rfl) rfl ?_
              refine xi_bipush (pc' := 29) (v := 6) kc_196_27 rfl rfl ?_
              refine xi_isub (pc' := 30) (v := 0) kc_196_29 rfl rfl ?_
              refine xi_cmt (pc' := 1534) kc_196_30 rfl rfl ?_
              refine xi_iconst (pc' := 1535) (v := 1) kc_196_1534 rfl rfl ?_
              refine xi_ireturn kc_196_1535 mr_196 rfl ?_
              refine ⟨rfl, ?_, ?_⟩
              · rw [eh3.2.2.1, eh2.2.2.1, eh1.2.2.1]; exact hn0
              · rw [eh3.2.2.2, eh2.2.2.2, eh1.2.2.2]; exact hz0
      · refine xi_cmf (pc' := 51) kc_96_48 rfl (xc_ge_f (X := a3.toInt) (Y := (-20)) rfl (by decide) (by omega)) ?_
        refine xi_aload_n (pc' := 52) (x := 0) kc_96_51 rfl rfl ?_
        refine xi_bipush (pc' := 54) (v := (-4)) kc_96_52 rfl rfl ?_
        refine xi_virtual (mj := 97) (as := [.int (-4)]) (st1 := []) (lv0 := [(0, .ref 0), (1, .int (-4))]) kc_96_54 rfl rfl rfl rfl rfl (F 0 _ hl_0) (Nat.le_of_ble_eq_true rfl) (hJ _ _ _ _ (by decide)) (xm_le ml_97 rfl) rfl ?_
        refine xi_ldc_w (pc' := 3) (v := 1000000000) kc_97_0 rfl rfl ?_
        refine xi_aload_n (pc' := 4) (x := 0) kc_97_3 rfl rfl ?_
        refine xi_iload_n (pc' := 5) (x := (-4)) kc_97_4 rfl rfl ?_
        refine xi_virtual (mj := 91) (as := [.int (-4)]) (st1 := [.int 1000000000]) (lv0 := [(0, .ref 0), (1, .int (-4))]) kc_97_5 rfl rfl rfl rfl rfl (F 0 _ hl_0) (Nat.le_of_ble_eq_true rfl) (hJ _ _ _ _ (by decide)) (xm_le ml_91 rfl) rfl ?_
        refine xi_iload_n (pc' := 1) (x := (-4)) kc_91_0 rfl rfl ?_
        refine xi_ineg (pc' := 2) (v := 4) kc_91_1 rfl rfl ?_
        refine xi_istore_n (pc' := 3) (lv' := [(2, .int 4), (0, .ref 0), (1, .int (-4))]) kc_91_2 rfl rfl (xm_lt ml_91 rfl) ?_
        refine xi_iload_n (pc' := 4) (x := 4) kc_91_3 rfl rfl ?_
        refine xi_iff (pc' := 7) kc_91_4 rfl rfl ?_
        refine xi_iload_n (pc' := 8) (x := 4) kc_91_7 rfl rfl ?_
        refine xi_aload_n (pc' := 9) (x := 0) kc_91_8 rfl rfl ?_
        refine xi_getfield (pc' := 12) (v := .ref 94) kc_91_9 rfl rfl rfl (F 0 _ hl_0) rfl ?_
        refine xi_arraylength (pc' := 13) (n := 7) (v := 7) kc_91_12 rfl (xl_lenI (by decide) (by decide) (F 94 _ hl_94) (by simp only [List.length_replicate, List.length_cons, List.length_nil])) rfl ?_
        refine xi_cmf (pc' := 16) kc_91_13 rfl rfl ?_
        refine xi_aload_n (pc' := 17) (x := 0) kc_91_16 rfl rfl ?_
        refine xi_getfield (pc' := 20) (v := .ref 94) kc_91_17 rfl rfl rfl (F 0 _ hl_0) rfl ?_
        refine xi_iload_n (pc' := 21) (x := 4) kc_91_20 rfl rfl ?_
        refine xi_dup2 (pc' := 22) kc_91_21 rfl ⟨rfl, rfl⟩ ?_
        refine xi_iaload (pc' := 23) (v := 0) kc_91_22 rfl (F 94 _ hl_94) (by decide) rfl (xi_in (n := 7) (by decide) (by decide)) rfl ?_
        refine xi_iconst (pc' := 24) (v := 1) kc_91_23 rfl rfl ?_
        refine xi_iadd (pc' := 25) (v := 1) kc_91_24 rfl rfl ?_
        refine xi_iastore (pc' := 26) (x' := [0, 0, 0, 0, 1, 0, 0]) kc_91_25 rfl (F 94 _ hl_94) rfl (xi_in (n := 7) (by decide) (by decide)) rfl (fun hh1 eh1 => ?_)
        refine xi_iload_n (pc' := 27) (x := (-4)) kc_91_26 rfl rfl ?_
        refine xi_ireturn kc_91_27 mr_91 rfl ?_
        show xw J ov 98 97 (8, [(0, .ref 0), (1, .int (-4))], [.int (-4), .int 1000000000], hh1) _
        refine xi_isub (pc' := 9) (v := 1000000004) kc_97_8 rfl rfl ?_
        refine xi_ireturn kc_97_9 mr_97 rfl ?_
        show xw J ov 99 96 (57, [(5, .int 30), (4, .int (-20)), (0, .ref 0), (1, .int a1), (2, .int a2), (3, .int a3)], [.int 1000000004], hh1) _
        refine xi_ireturn kc_96_57 mr_96 rfl ?_
        show xw J ov 100 196 (312, [(4, .int 0), (3, .ref 167), (2, .ref 115), (1, .ref 0), (0, .ref 1000000)], [.int 1000000004], hh1) _
        refine xi_aload_n (pc' := 313) (x := 115) kc_196_312 rfl rfl ?_
        refine xi_aload_n (pc' := 314) (x := 1000000) kc_196_313 rfl rfl ?_
        refine xi_iload (pc' := 316) (x := 0) kc_196_314 rfl rfl ?_
        refine xi_iconst (pc' := 317) (v := 1) kc_196_316 rfl rfl ?_
        refine xi_iadd (pc' := 318) (v := 1) kc_196_317 rfl rfl ?_
        refine xi_ialoadO (pc' := 319) (v := a1) kc_196_318 rfl (by decide) hov0 (xi_in (n := 6) (by decide) (by decide)) rfl ?_
        refine xi_aload_n (pc' := 320) (x := 1000000) kc_196_319 rfl rfl ?_
        refine xi_iload (pc' := 322) (x := 0) kc_196_320 rfl rfl ?_
        refine xi_iconst (pc' := 323) (v := 2) kc_196_322 rfl rfl ?_
        refine xi_iadd (pc' := 324) (v := 2) kc_196_323 rfl rfl ?_
        refine xi_ialoadO (pc' := 325) (v := a2) kc_196_324 rfl (by decide) hov0 (xi_in (n := 6) (by decide) (by decide)) rfl ?_
        refine xi_aload_n (pc' := 326) (x := 1000000) kc_196_325 rfl rfl ?_
        refine xi_iload (pc' := 328) (x := 0) kc_196_326 rfl rfl ?_
        refine xi_iconst (pc' := 329) (v := 3) kc_196_328 rfl rfl ?_
        refine xi_iadd (pc' := 330) (v := 3) kc_196_329 rfl rfl ?_
        refine xi_ialoadO (pc' := 331) (v := a3) kc_196_330 rfl (by decide) hov0 (xi_in (n := 6) (by decide) (by decide)) rfl ?_
        refine xi_virtual (mj := 17) (as := [.int a1, .int a2, .int a3]) (st1 := [.int 1000000004]) (lv0 := [(0, .ref 115), (1, .int a1), (2, .int a2), (3, .int a3)]) kc_196_331 rfl rfl rfl rfl rfl ((eh1.2.1 115 (by decide)).trans (F 115 _ hl_115)) (Nat.le_of_ble_eq_true rfl) (hJ _ _ _ _ (by decide)) (xm_le ml_17 rfl) rfl ?_
        refine xi_aload_n (pc' := 1) (x := 115) kc_17_0 rfl rfl ?_
        refine xi_iconst (pc' := 2) (v := 0) kc_17_1 rfl rfl ?_
        refine xi_putfield (pc' := 5) (fs' := [.int 0, .int 0, .ref 116, .ref 117, .ref 118, .ref 119, .ref 120, .ref 121, .ref 122, .ref 123, .ref 124, .ref 125, .ref 126, .ref 127, .ref 128, .ref 129, .int 4, .ref 130, .int 0, .ref 131, .ref 132, .ref 133, .ref 134, .int 0, .ref 135, .ref 136, .ref 137, .ref 138, .ref 139, .ref 140, .ref 141, .ref 142, .int 0, .int 0, .int 0, .ref 143, .ref 144, .ref 145, .ref 146, .ref 147, .ref 148, .int 0, .ref 149, .ref 150, .ref 151, .int 0, .ref 152, .ref 153, .ref 154, .ref 155, .ref 156, .ref 157, .ref 158, .ref 159, .int 0, .ref 160, .int 0, .ref 161, .ref 162, .ref 163, .ref 164, .int 0, .ref 165, .ref 166]) kc_17_2 rfl rfl rfl ((eh1.2.1 115 (by decide)).trans (F 115 _ hl_115)) rfl rfl rfl (Nat.le_of_ble_eq_true rfl) rfl (fun hh2 eh2 => ?_)
        refine xi_iload_n (pc' := 6) (x := a2) kc_17_5 rfl rfl ?_
        refine xi_iconst (pc' := 7) (v := 0) kc_17_6 rfl rfl ?_
        refine xi_iconst (pc' := 8) (v := 1) kc_17_7 rfl rfl ?_
        refine xi_static (mj := 12) (as := [.int a2, .int 0, .int 1]) (st1 := []) (lv0 := [(0, .int a2), (1, .int 0), (2, .int 1)]) kc_17_8 rfl rfl (Nat.le_of_ble_eq_true rfl) rfl rfl (Nat.le_of_ble_eq_true rfl) (hJ _ _ _ _ (by decide)) (xm_le ml_12 rfl) rfl ?_
        refine xi_iload_n (pc' := 1) (x := a2) kc_12_0 rfl rfl ?_
        refine xi_iload_n (pc' := 2) (x := 0) kc_12_1 rfl rfl ?_
        refine xi_cmf (pc' := 5) kc_12_2 rfl (xc_lt_f (X := a2.toInt) (Y := 0) rfl (by decide) (by omega)) ?_
        refine xi_iload_n (pc' := 6) (x := a2) kc_12_5 rfl rfl ?_
        refine xi_iload_n (pc' := 7) (x := 1) kc_12_6 rfl rfl ?_
        refine xi_cmf (pc' := 10) kc_12_7 rfl (xc_gt_f (X := a2.toInt) (Y := 1) rfl (by decide) (by omega)) ?_
        refine xi_iconst (pc' := 11) (v := 1) kc_12_10 rfl rfl ?_
        refine xi_goto (pc' := 15) kc_12_11 rfl ?_
        refine xi_ireturn kc_12_15 mr_12 rfl ?_
        show xw J ov 99 17 (11, [(0, .ref 115), (1, .int a1), (2, .int a2), (3, .int a3)], [.int 1], hh2) _
        refine xi_ift (pc' := 21) kc_17_11 rfl rfl ?_
        refine xi_iload_n (pc' := 22) (x := a1) kc_17_21 rfl rfl ?_
        refine xi_iff (pc' := 25) kc_17_22 rfl (xc_lt_f (X := a1.toInt) (Y := 0) rfl (by decide) (by omega)) ?_
        refine xi_iload_n (pc' := 26) (x := a3) kc_17_25 rfl rfl ?_
        refine xi_iload_n (pc' := 27) (x := a2) kc_17_26 rfl rfl ?_
        refine xi_iff (pc' := 30) kc_17_27 rfl (xc_ne_f (X := a2.toInt) (Y := 0) rfl (by decide) (by omega)) ?_
        refine xi_bipush (pc' := 32) (v := (-20)) kc_17_30 rfl rfl ?_
        refine xi_goto (pc' := 36) kc_17_32 rfl ?_
        refine xi_cmf (pc' := 39) kc_17_36 rfl (xc_ge_f (X := a3.toInt) (Y := (-20)) rfl (by decide) (by omega)) ?_
        refine xi_aload_n (pc' := 40) (x := 115) kc_17_39 rfl rfl ?_
        refine xi_bipush (pc' := 42) (v := (-4)) kc_17_40 rfl rfl ?_
        refine xi_virtual (mj := 18) (as := [.int (-4)]) (st1 := []) (lv0 := [(0, .ref 115), (1, .int (-4))]) kc_17_42 rfl rfl rfl rfl rfl eh2.1 (Nat.le_of_ble_eq_true rfl) (hJ _ _ _ _ (by decide)) (xm_le ml_18 rfl) rfl ?_
        refine xi_aload_n (pc' := 1) (x := 115) kc_18_0 rfl rfl ?_
        refine xi_getfield (pc' := 4) (v := .ref 140) kc_18_1 rfl rfl rfl eh2.1 rfl ?_
        refine xi_iload_n (pc' := 5) (x := (-4)) kc_18_4 rfl rfl ?_
        refine xi_ineg (pc' := 6) (v := 4) kc_18_5 rfl rfl ?_
        refine xi_dup2 (pc' := 7) kc_18_6 rfl ⟨rfl, rfl⟩ ?_
        refine xi_iaload (pc' := 8) (v := 0) kc_18_7 rfl ((eh2.2.1 140 (by decide)).trans ((eh1.2.1 140 (by decide)).trans (F 140 _ hl_140))) (by decide) rfl (xi_in (n := 7) (by decide) (by decide)) rfl ?_
        refine xi_iconst (pc' := 9) (v := 1) kc_18_8 rfl rfl ?_
        refine xi_iadd (pc' := 10) (v := 1) kc_18_9 rfl rfl ?_
        refine xi_iastore (pc' := 11) (x' := [0, 0, 0, 0, 1, 0, 0]) kc_18_10 rfl ((eh2.2.1 140 (by decide)).trans ((eh1.2.1 140 (by decide)).trans (F 140 _ hl_140))) rfl (xi_in (n := 7) (by decide) (by decide)) rfl (fun hh3 eh3 => ?_)
        refine xi_ldc (pc' := 13) (v := 1000000000) kc_18_11 rfl rfl ?_
        refine xi_iload_n (pc' := 14) (x := (-4)) kc_18_13 rfl rfl ?_
        refine xi_isub (pc' := 15) (v := 1000000004) kc_18_14 rfl rfl ?_
        refine xi_ireturn kc_18_15 mr_18 rfl ?_
        show xw J ov 99 17 (45, [(0, .ref 115), (1, .int a1), (2, .int a2), (3, .int a3)], [.int 1000000004], hh3) _
        refine xi_ireturn kc_17_45 mr_17 rfl ?_
        show xw J ov 100 196 (334, [(4, .int 0), (3, .ref 167), (2, .ref 115), (1, .ref 0), (0, .ref 1000000)], [.int 1000000004, .int 1000000004], hh3) _
        refine xi_cmt (pc' := 1528) kc_196_334 rfl rfl ?_
        refine xi_iinc (pc' := 1531) (x := 0) (v := 6) (lv' := [(4, .int 6), (3, .ref 167), (2, .ref 115), (1, .ref 0), (0, .ref 1000000)]) kc_196_1528 rfl rfl rfl rfl (xm_lt ml_196 rfl) ?_
        refine xi_goto (pc' := 23) kc_196_1531 rfl ?_
        refine xi_iload (pc' := 25) (x := 6) kc_196_23 rfl rfl ?_
        refine xi_aload_n (pc' := 26) (x := 1000000) kc_196_25 rfl rfl ?_
        refine xi_arraylength (pc' := 27) (n := 6) (v := 6) kc_196_26 rfl (xl_lenO (by decide) hov0 rfl) rfl ?_
        refine xi_bipush (pc' := 29) (v := 6) kc_196_27 rfl rfl ?_
        refine xi_isub (pc' := 30) (v := 0) kc_196_29 rfl rfl ?_
        refine xi_cmt (pc' := 1534) kc_196_30 rfl rfl ?_
        refine xi_iconst (pc' := 1535) (v := 1) kc_196_1534 rfl rfl ?_
        refine xi_ireturn kc_196_1535 mr_196 rfl ?_
        refine ⟨rfl, ?_, ?_⟩
        · rw [eh3.2.2.1, eh2.2.2.1, eh1.2.2.1]; exact hn0
        · rw [eh3.2.2.2, eh2.2.2.2, eh1.2.2.2]; exact hz0
  · refine xi_iff (pc' := 4) kc_96_1 rfl (xc_eq_f (X := a2.toInt) (Y := 0) rfl (by decide) (by omega)) ?_
    refine xi_iload_n (pc' := 5) (x := a2) kc_96_4 rfl rfl ?_
    refine xi_iconst (pc' := 6) (v := 1) kc_96_5 rfl rfl ?_
    by_cases c31 : a2.toInt = 1
    · refine xi_cmt (pc' := 16) kc_96_6 rfl (xc_eq_t (X := a2.toInt) (Y := 1) rfl (by decide) (by omega)) ?_
      refine xi_iload_n (pc' := 17) (x := a2) kc_96_16 rfl rfl ?_
      refine xi_ift (pc' := 25) kc_96_17 rfl (xc_ne_t (X := a2.toInt) (Y := 0) rfl (by decide) (by omega)) ?_
      refine xi_iconst (pc' := 26) (v := 0) kc_96_25 rfl rfl ?_
      refine xi_istore (pc' := 28) (lv' := [(4, .int 0), (0, .ref 0), (1, .int a1), (2, .int a2), (3, .int a3)]) kc_96_26 rfl rfl (xm_lt ml_96 rfl) ?_
      refine xi_iload_n (pc' := 29) (x := a2) kc_96_28 rfl rfl ?_
      refine xi_ift (pc' := 37) kc_96_29 rfl (xc_ne_t (X := a2.toInt) (Y := 0) rfl (by decide) (by omega)) ?_
      refine xi_bipush (pc' := 39) (v := 20) kc_96_37 rfl rfl ?_
      refine xi_istore (pc' := 41) (lv' := [(5, .int 20), (4, .int 0), (0, .ref 0), (1, .int a1), (2, .int a2), (3, .int a3)]) kc_96_39 rfl rfl (xm_lt ml_96 rfl) ?_
      refine xi_iload_n (pc' := 42) (x := a1) kc_96_41 rfl rfl ?_
      by_cases c32 : a1.toInt < 0
      · refine xi_ift (pc' := 51) kc_96_42 rfl (xc_lt_t (X := a1.toInt) (Y := 0) rfl (by decide) (by omega)) ?_
        refine xi_aload_n (pc' := 52) (x := 0) kc_96_51 rfl rfl ?_
        refine xi_bipush (pc' := 54) (v := (-4)) kc_96_52 rfl rfl ?_
        refine xi_virtual (mj := 97) (as := [.int (-4)]) (st1 := []) (lv0 := [(0, .ref 0), (1, .int (-4))]) kc_96_54 rfl rfl rfl rfl rfl (F 0 _ hl_0) (Nat.le_of_ble_eq_true rfl) (hJ _ _ _ _ (by decide)) (xm_le ml_97 rfl) rfl ?_
        refine xi_ldc_w (pc' := 3) (v := 1000000000) kc_97_0 rfl rfl ?_
        refine xi_aload_n (pc' := 4) (x := 0) kc_97_3 rfl rfl ?_
        refine xi_iload_n (pc' := 5) (x := (-4)) kc_97_4 rfl rfl ?_
        refine xi_virtual (mj := 91) (as := [.int (-4)]) (st1 := [.int 1000000000]) (lv0 := [(0, .ref 0), (1, .int (-4))]) kc_97_5 rfl rfl rfl rfl rfl (F 0 _ hl_0) (Nat.le_of_ble_eq_true rfl) (hJ _ _ _ _ (by decide)) (xm_le ml_91 rfl) rfl ?_
        refine xi_iload_n (pc' := 1) (x := (-4)) kc_91_0 rfl rfl ?_
        refine xi_ineg (pc' := 2) (v := 4) kc_91_1 rfl rfl ?_
        refine xi_istore_n (pc' := 3) (lv' := [(2, .int 4), (0, .ref 0), (1, .int (-4))]) kc_91_2 rfl rfl (xm_lt ml_91 rfl) ?_
        refine xi_iload_n (pc' := 4) (x := 4) kc_91_3 rfl rfl ?_
        refine xi_iff (pc' := 7) kc_91_4 rfl rfl ?_
        refine xi_iload_n (pc' := 8) (x := 4) kc_91_7 rfl rfl ?_
        refine xi_aload_n (pc' := 9) (x := 0) kc_91_8 rfl rfl ?_
        refine xi_getfield (pc' := 12) (v := .ref 94) kc_91_9 rfl rfl rfl (F 0 _ hl_0) rfl ?_
        refine xi_arraylength (pc' := 13) (n := 7) (v := 7) kc_91_12 rfl (xl_lenI (by decide) (by decide) (F 94 _ hl_94) (by simp only [List.length_replicate, List.length_cons, List.length_nil])) rfl ?_
        refine xi_cmf (pc' := 16) kc_91_13 rfl rfl ?_
        refine xi_aload_n (pc' := 17) (x := 0) kc_91_16 rfl rfl ?_
        refine xi_getfield (pc' := 20) (v := .ref 94) kc_91_17 rfl rfl rfl (F 0 _ hl_0) rfl ?_
        refine xi_iload_n (pc' := 21) (x := 4) kc_91_20 rfl rfl ?_
        refine xi_dup2 (pc' := 22) kc_91_21 rfl ⟨rfl, rfl⟩ ?_
        refine xi_iaload (pc' := 23) (v := 0) kc_91_22 rfl (F 94 _ hl_94) (by decide) rfl (xi_in (n := 7) (by decide) (by decide)) rfl ?_
        refine xi_iconst (pc' := 24) (v := 1) kc_91_23 rfl rfl ?_
        refine xi_iadd (pc' := 25) (v := 1) kc_91_24 rfl rfl ?_
        refine xi_iastore (pc' := 26) (x' := [0, 0, 0, 0, 1, 0, 0]) kc_91_25 rfl (F 94 _ hl_94) rfl (xi_in (n := 7) (by decide) (by decide)) rfl (fun hh1 eh1 => ?_)
        refine xi_iload_n (pc' := 27) (x := (-4)) kc_91_26 rfl rfl ?_
        refine xi_ireturn kc_91_27 mr_91 rfl ?_
        show xw J ov 98 97 (8, [(0, .ref 0), (1, .int (-4))], [.int (-4), .int 1000000000], hh1) _
        refine xi_isub (pc' := 9) (v := 1000000004) kc_97_8 rfl rfl ?_
        refine xi_ireturn kc_97_9 mr_97 rfl ?_
        show xw J ov 99 96 (57, [(5, .int 20), (4, .int 0), (0, .ref 0), (1, .int a1), (2, .int a2), (3, .int a3)], [.int 1000000004], hh1) _
        refine xi_ireturn kc_96_57 mr_96 rfl ?_
        show xw J ov 100 196 (312, [(4, .int 0), (3, .ref 167), (2, .ref 115), (1, .ref 0), (0, .ref 1000000)], [.int 1000000004], hh1) _
        refine xi_aload_n (pc' := 313) (x := 115) kc_196_312 rfl rfl ?_
        refine xi_aload_n (pc' := 314) (x := 1000000) kc_196_313 rfl rfl ?_
        refine xi_iload (pc' := 316) (x := 0) kc_196_314 rfl rfl ?_
        refine xi_iconst (pc' := 317) (v := 1) kc_196_316 rfl rfl ?_
        refine xi_iadd (pc' := 318) (v := 1) kc_196_317 rfl rfl ?_
        refine xi_ialoadO (pc' := 319) (v := a1) kc_196_318 rfl (by decide) hov0 (xi_in (n := 6) (by decide) (by decide)) rfl ?_
        refine xi_aload_n (pc' := 320) (x := 1000000) kc_196_319 rfl rfl ?_
        refine xi_iload (pc' := 322) (x := 0) kc_196_320 rfl rfl ?_
        refine xi_iconst (pc' := 323) (v := 2) kc_196_322 rfl rfl ?_
        refine xi_iadd (pc' := 324) (v := 2) kc_196_323 rfl rfl ?_
        refine xi_ialoadO (pc' := 325) (v := a2) kc_196_324 rfl (by decide) hov0 (xi_in (n := 6) (by decide) (by decide)) rfl ?_
        refine xi_aload_n (pc' := 326) (x := 1000000) kc_196_325 rfl rfl ?_
        refine xi_iload (pc' := 328) (x := 0) kc_196_326 rfl rfl ?_
        refine xi_iconst (pc' := 329) (v := 3) kc_196_328 rfl rfl ?_
        refine xi_iadd (pc' := 330) (v := 3) kc_196_329 rfl rfl ?_
        refine xi_ialoadO (pc' := 331) (v := a3) kc_196_330 rfl (by decide) hov0 (xi_in (n := 6) (by decide) (by decide)) rfl ?_
        refine xi_virtual (mj := 17) (as := [.int a1, .int a2, .int a3]) (st1 := [.int 1000000004]) (lv0 := [(0, .ref 115), (1, .int a1), (2, .int a2), (3, .int a3)]) kc_196_331 rfl rfl rfl rfl rfl ((eh1.2.1 115 (by decide)).trans (F 115 _ hl_115)) (Nat.le_of_ble_eq_true rfl) (hJ _ _ _ _ (by decide)) (xm_le ml_17 rfl) rfl ?_
        refine xi_aload_n (pc' := 1) (x := 115) kc_17_0 rfl rfl ?_
        refine xi_iconst (pc' := 2) (v := 0) kc_17_1 rfl rfl ?_
        refine xi_putfield (pc' := 5) (fs' := [.int 0, .int 0, .ref 116, .ref 117, .ref 118, .ref 119, .ref 120, .ref 121, .ref 122, .ref 123, .ref 124, .ref 125, .ref 126, .ref 127, .ref 128, .ref 129, .int 4, .ref 130, .int 0, .ref 131, .ref 132, .ref 133, .ref 134, .int 0, .ref 135, .ref 136, .ref 137, .ref 138, .ref 139, .ref 140, .ref 141, .ref 142, .int 0, .int 0, .int 0, .ref 143, .ref 144, .ref 145, .ref 146, .ref 147, .ref 148, .int 0, .ref 149, .ref 150, .ref 151, .int 0, .ref 152, .ref 153, .ref 154, .ref 155, .ref 156, .ref 157, .ref 158, .ref 159, .int 0, .ref 160, .int 0, .ref 161, .ref 162, .ref 163, .ref 164, .int 0, .ref 165, .ref 166]) kc_17_2 rfl rfl rfl ((eh1.2.1 115 (by decide)).trans (F 115 _ hl_115)) rfl rfl rfl (Nat.le_of_ble_eq_true rfl) rfl (fun hh2 eh2 => ?_)
        refine xi_iload_n (pc' := 6) (x := a2) kc_17_5 rfl rfl ?_
        refine xi_iconst (pc' := 7) (v := 0) kc_17_6 rfl rfl ?_
        refine xi_iconst (pc' := 8) (v := 1) kc_17_7 rfl rfl ?_
        refine xi_static (mj := 12) (as := [.int a2, .int 0, .int 1]) (st1 := []) (lv0 := [(0, .int a2), (1, .int 0), (2, .int 1)]) kc_17_8 rfl rfl (Nat.le_of_ble_eq_true rfl) rfl rfl (Nat.le_of_ble_eq_true rfl) (hJ _ _ _ _ (by decide)) (xm_le ml_12 rfl) rfl ?_
        refine xi_iload_n (pc' := 1) (x := a2) kc_12_0 rfl rfl ?_
        refine xi_iload_n (pc' := 2) (x := 0) kc_12_1 rfl rfl ?_
        refine xi_cmf (pc' := 5) kc_12_2 rfl (xc_lt_f (X := a2.toInt) (Y := 0) rfl (by decide) (by omega)) ?_
        refine xi_iload_n (pc' := 6) (x := a2) kc_12_5 rfl rfl ?_
        refine xi_iload_n (pc' := 7) (x := 1) kc_12_6 rfl rfl ?_
        refine xi_cmf (pc' := 10) kc_12_7 rfl (xc_gt_f (X := a2.toInt) (Y := 1) rfl (by decide) (by omega)) ?_
        refine xi_iconst (pc' := 11) (v := 1) kc_12_10 rfl rfl ?_
        refine xi_goto (pc' := 15) kc_12_11 rfl ?_
        refine xi_ireturn kc_12_15 mr_12 rfl ?_
        show xw J ov 99 17 (11, [(0, .ref 115), (1, .int a1), (2, .int a2), (3, .int a3)], [.int 1], hh2) _
        refine xi_ift (pc' := 21) kc_17_11 rfl rfl ?_
        refine xi_iload_n (pc' := 22) (x := a1) kc_17_21 rfl rfl ?_
        refine xi_ift (pc' := 39) kc_17_22 rfl (xc_lt_t (X := a1.toInt) (Y := 0) rfl (by decide) (by omega)) ?_
        refine xi_aload_n (pc' := 40) (x := 115) kc_17_39 rfl rfl ?_
        refine xi_bipush (pc' := 42) (v := (-4)) kc_17_40 rfl rfl ?_
        refine xi_virtual (mj := 18) (as := [.int (-4)]) (st1 := []) (lv0 := [(0, .ref 115), (1, .int (-4))]) kc_17_42 rfl rfl rfl rfl rfl eh2.1 (Nat.le_of_ble_eq_true rfl) (hJ _ _ _ _ (by decide)) (xm_le ml_18 rfl) rfl ?_
        refine xi_aload_n (pc' := 1) (x := 115) kc_18_0 rfl rfl ?_
        refine xi_getfield (pc' := 4) (v := .ref 140) kc_18_1 rfl rfl rfl eh2.1 rfl ?_
        refine xi_iload_n (pc' := 5) (x := (-4)) kc_18_4 rfl rfl ?_
        refine xi_ineg (pc' := 6) (v := 4) kc_18_5 rfl rfl ?_
        refine xi_dup2 (pc' := 7) kc_18_6 rfl ⟨rfl, rfl⟩ ?_
        refine xi_iaload (pc' := 8) (v := 0) kc_18_7 rfl ((eh2.2.1 140 (by decide)).trans ((eh1.2.1 140 (by decide)).trans (F 140 _ hl_140))) (by decide) rfl (xi_in (n := 7) (by decide) (by decide)) rfl ?_
        refine xi_iconst (pc' := 9) (v := 1) kc_18_8 rfl rfl ?_
        refine xi_iadd (pc' := 10) (v := 1) kc_18_9 rfl rfl ?_
        refine xi_iastore (pc' := 11) (x' := [0, 0, 0, 0, 1, 0, 0]) kc_18_10 rfl ((eh2.2.1 140 (by decide)).trans ((eh1.2.1 140 (by decide)).trans (F 140 _ hl_140))) rfl (xi_in (n := 7) (by decide) (by decide)) rfl (fun hh3 eh3 => ?_)
        refine xi_ldc (pc' := 13) (v := 1000000000) kc_18_11 rfl rfl ?_
        refine xi_iload_n (pc' := 14) (x := (-4)) kc_18_13 rfl rfl ?_
        refine xi_isub (pc' := 15) (v := 1000000004) kc_18_14 rfl rfl ?_
        refine xi_ireturn kc_18_15 mr_18 rfl ?_
        show xw J ov 99 17 (45, [(0, .ref 115), (1, .int a1), (2, .int a2), (3, .int a3)], [.int 1000000004], hh3) _
        refine xi_ireturn kc_17_45 mr_17 rfl ?_
        show xw J ov 100 196 (334, [(4, .int 0), (3, .ref 167), (2, .ref 115), (1, .ref 0), (0, .ref 1000000)], [.int 1000000004, .int 1000000004], hh3) _
        refine xi_cmt (pc' := 1528) kc_196_334 rfl rfl ?_
        refine xi_iinc (pc' := 1531) (x := 0) (v := 6) (lv' := [(4, .int 6), (3, .ref 167), (2, .ref 115), (1, .ref 0), (0, .ref 1000000)]) kc_196_1528 rfl rfl rfl rfl (xm_lt ml_196 rfl) ?_
        refine xi_goto (pc' := 23) kc_196_1531 rfl ?_
        refine xi_iload (pc' := 25) (x := 6) kc_196_23 rfl rfl ?_
        refine xi_aload_n (pc' := 26) (x := 1000000) kc_196_25 rfl rfl ?_
        refine xi_arraylength (pc' := 27) (n := 6) (v := 6) kc_196_26 rfl (xl_lenO (by decide) hov0 rfl) rfl ?_
        refine xi_bipush (pc' := 29) (v := 6) kc_196_27 rfl rfl ?_
        refine xi_isub (pc' := 30) (v := 0) kc_196_29 rfl rfl ?_
        refine xi_cmt (pc' := 1534) kc_196_30 rfl rfl ?_
        refine xi_iconst (pc' := 1535) (v := 1) kc_196_1534 rfl rfl ?_
        refine xi_ireturn kc_196_1535 mr_196 rfl ?_
        refine ⟨rfl, ?_, ?_⟩
        · rw [eh3.2.2.1, eh2.2.2.1, eh1.2.2.1]; exact hn0
        · rw [eh3.2.2.2, eh2.2.2.2, eh1.2.2.2]; exact hz0
      · refine xi_iff (pc' := 45) kc_96_42 rfl (xc_lt_f (X := a1.toInt) (Y := 0) rfl (by decide) (by omega)) ?_
        refine xi_iload_n (pc' := 46) (x := a3) kc_96_45 rfl rfl ?_
        refine xi_iload (pc' := 48) (x := 0) kc_96_46 rfl rfl ?_
        by_cases c33 : 0 ≤ a3.toInt
        · refine xi_cmt (pc' := 58) kc_96_48 rfl (xc_ge_t (X := a3.toInt) (Y := 0) rfl (by decide) (by omega)) ?_
          refine xi_iload_n (pc' := 59) (x := a1) kc_96_58 rfl rfl ?_
          refine xi_sipush (pc' := 62) (v := 600) kc_96_59 rfl rfl ?_
          by_cases c34 : 600 ≤ a1.toInt
          · refine xi_cmt (pc' := 77) kc_96_62 rfl (xc_ge_t (X := a1.toInt) (Y := 600) rfl (by decide) (by omega)) ?_
            refine xi_aload_n (pc' := 78) (x := 0) kc_96_77 rfl rfl ?_
            refine xi_bipush (pc' := 80) (v := (-6)) kc_96_78 rfl rfl ?_
            refine xi_virtual (mj := 97) (as := [.int (-6)]) (st1 := []) (lv0 := [(0, .ref 0), (1, .int (-6))]) kc_96_80 rfl rfl rfl rfl rfl (F 0 _ hl_0) (Nat.le_of_ble_eq_true rfl) (hJ _ _ _ _ (by decide)) (xm_le ml_97 rfl) rfl ?_
            refine xi_ldc_w (pc' := 3) (v := 1000000000) kc_97_0 rfl rfl ?_
            refine xi_aload_n (pc' := 4) (x := 0) kc_97_3 rfl rfl ?_
            refine xi_iload_n (pc' := 5) (x := (-6)) kc_97_4 rfl rfl ?_
            refine xi_virtual (mj := 91) (as := [.int (-6)]) (st1 := [.int 1000000000]) (lv0 := [(0, .ref 0), (1, .int (-6))]) kc_97_5 rfl rfl rfl rfl rfl (F 0 _ hl_0) (Nat.le_of_ble_eq_true rfl) (hJ _ _ _ _ (by decide)) (xm_le ml_91 rfl) rfl ?_
            refine xi_iload_n (pc' := 1) (x := (-6)) kc_91_0 rfl rfl ?_
            refine xi_ineg (pc' := 2) (v := 6) kc_91_1 rfl rfl ?_
            refine xi_istore_n (pc' := 3) (lv' := [(2, .int 6), (0, .ref 0), (1, .int (-6))]) kc_91_2 rfl rfl (xm_lt ml_91 rfl) ?_
            refine xi_iload_n (pc' := 4) (x := 6) kc_91_3 rfl rfl ?_
            refine xi_iff (pc' := 7) kc_91_4 rfl rfl ?_
            refine xi_iload_n (pc' := 8) (x := 6) kc_91_7 rfl rfl ?_
            refine xi_aload_n (pc' := 9) (x := 0) kc_91_8 rfl rfl ?_
            refine xi_getfield (pc' := 12) (v := .ref 94) kc_91_9 rfl rfl rfl (F 0 _ hl_0) rfl ?_
            refine xi_arraylength (pc' := 13) (n := 7) (v := 7) kc_91_12 rfl (xl_lenI (by decide) (by decide) (F 94 _ hl_94) (by simp only [List.length_replicate, List.length_cons, List.length_nil])) rfl ?_
            refine xi_cmf (pc' := 16) kc_91_13 rfl rfl ?_
            refine xi_aload_n (pc' := 17) (x := 0) kc_91_16 rfl rfl ?_
            refine xi_getfield (pc' := 20) (v := .ref 94) kc_91_17 rfl rfl rfl (F 0 _ hl_0) rfl ?_
            refine xi_iload_n (pc' := 21) (x := 6) kc_91_20 rfl rfl ?_
            refine xi_dup2 (pc' := 22) kc_91_21 rfl ⟨rfl, rfl⟩ ?_
            refine xi_iaload (pc' := 23) (v := 0) kc_91_22 rfl (F 94 _ hl_94) (by decide) rfl (xi_in (n := 7) (by decide) (by decide)) rfl ?_
            refine xi_iconst (pc' := 24) (v := 1) kc_91_23 rfl rfl ?_
            refine xi_iadd (pc' := 25) (v := 1) kc_91_24 rfl rfl ?_
            refine xi_iastore (pc' := 26) (x' := [0, 0, 0, 0, 0, 0, 1]) kc_91_25 rfl (F 94 _ hl_94) rfl (xi_in (n := 7) (by decide) (by decide)) rfl (fun hh1 eh1 => ?_)
            refine xi_iload_n (pc' := 27) (x := (-6)) kc_91_26 rfl rfl ?_
            refine xi_ireturn kc_91_27 mr_91 rfl ?_
            show xw J ov 98 97 (8, [(0, .ref 0), (1, .int (-6))], [.int (-6), .int 1000000000], hh1) _
            refine xi_isub (pc' := 9) (v := 1000000006) kc_97_8 rfl rfl ?_
            refine xi_ireturn kc_97_9 mr_97 rfl ?_
            show xw J ov 99 96 (83, [(5, .int 20), (4, .int 0), (0, .ref 0), (1, .int a1), (2, .int a2), (3, .int a3)], [.int 1000000006], hh1) _
            refine xi_ireturn kc_96_83 mr_96 rfl ?_
            show xw J ov 100 196 (312, [(4, .int 0), (3, .ref 167), (2, .ref 115), (1, .ref 0), (0, .ref 1000000)], [.int 1000000006], hh1) _
            refine xi_aload_n (pc' := 313) (x := 115) kc_196_312 rfl rfl ?_
            refine xi_aload_n (pc' := 314) (x := 1000000) kc_196_313 rfl rfl ?_
            refine xi_iload (pc' := 316) (x := 0) kc_196_314 rfl rfl ?_
            refine xi_iconst (pc' := 317) (v := 1) kc_196_316 rfl rfl ?_
            refine xi_iadd (pc' := 318) (v := 1) kc_196_317 rfl rfl ?_
            refine xi_ialoadO (pc' := 319) (v := a1) kc_196_318 rfl (by decide) hov0 (xi_in (n := 6) (by decide) (by decide)) rfl ?_
            refine xi_aload_n (pc' := 320) (x := 1000000) kc_196_319 rfl rfl ?_
            refine xi_iload (pc' := 322) (x := 0) kc_196_320 rfl rfl ?_
            refine xi_iconst (pc' := 323) (v := 2) kc_196_322 rfl rfl ?_
            refine xi_iadd (pc' := 324) (v := 2) kc_196_323 rfl rfl ?_
            refine xi_ialoadO (pc' := 325) (v := a2) kc_196_324 rfl (by decide) hov0 (xi_in (n := 6) (by decide) (by decide)) rfl ?_
            refine xi_aload_n (pc' := 326) (x := 1000000) kc_196_325 rfl rfl ?_
            refine xi_iload (pc' := 328) (x := 0) kc_196_326 rfl rfl ?_
            refine xi_iconst (pc' := 329) (v := 3) kc_196_328 rfl rfl ?_
            refine xi_iadd (pc' := 330) (v := 3) kc_196_329 rfl rfl ?_
            refine xi_ialoadO (pc' := 331) (v := a3) kc_196_330 rfl (by decide) hov0 (xi_in (n := 6) (by decide) (by decide)) rfl ?_
            refine xi_virtual (mj := 17) (as := [.int a1, .int a2, .int a3]) (st1 := [.int 1000000006]) (lv0 := [(0, .ref 115), (1, .int a1), (2, .int a2), (3, .int a3)]) kc_196_331 rfl rfl rfl rfl rfl ((eh1.2.1 115 (by decide)).trans (F 115 _ hl_115)) (Nat.le_of_ble_eq_true rfl) (hJ _ _ _ _ (by decide)) (xm_le ml_17 rfl) rfl ?_
            refine xi_aload_n (pc' := 1) (x := 115) kc_17_0 rfl rfl ?_
            refine xi_iconst (pc' := 2) (v := 0) kc_17_1 rfl rfl ?_
            refine xi_putfield (pc' := 5) (fs' := [.int 0, .int 0, .ref 116, .ref 117, .ref 118, .ref 119, .ref 120, .ref 121, .ref 122, .ref 123, .ref 124, .ref 125, .ref 126, .ref 127, .ref 128, .ref 129, .int 4, .ref 130, .int 0, .ref 131, .ref 132, .ref 133, .ref 134, .int 0, .ref 135, .ref 136, .ref 137, .ref 138, .ref 139, .ref 140, .ref 141, .ref 142, .int 0, .int 0, .int 0, .ref 143, .ref 144, .ref 145, .ref 146, .ref 147, .ref 148, .int 0, .ref 149, .ref 150, .ref 151, .int 0, .ref 152, .ref 153, .ref 154, .ref 155, .ref 156, .ref 157, .ref 158, .ref 159, .int 0, .ref 160, .int 0, .ref 161, .ref 162, .ref 163, .ref 164, .int 0, .ref 165, .ref 166]) kc_17_2 rfl rfl rfl ((eh1.2.1 115 (by decide)).trans (F 115 _ hl_115)) rfl rfl rfl (Nat.le_of_ble_eq_true rfl) rfl (fun hh2 eh2 => ?_)
            refine xi_iload_n (pc' := 6) (x := a2) kc_17_5 rfl rfl ?_
            refine xi_iconst (pc' := 7) (v := 0) kc_17_6 rfl rfl ?_
            refine xi_iconst (pc' := 8) (v := 1) kc_17_7 rfl rfl ?_
            refine xi_static (mj := 12) (as := [.int a2, .int 0, .int 1]) (st1 := []) (lv0 := [(0, .int a2), (1, .int 0), (2, .int 1)]) kc_17_8 rfl rfl (Nat.le_of_ble_eq_true rfl) rfl rfl (Nat.le_of_ble_eq_true rfl) (hJ _ _ _ _ (by decide)) (xm_le ml_12 rfl) rfl ?_
            refine xi_iload_n (pc' := 1) (x := a2) kc_12_0 rfl rfl ?_
            refine xi_iload_n (pc' := 2) (x := 0) kc_12_1 rfl rfl ?_
            refine xi_cmf (pc' := 5) kc_12_2 rfl (xc_lt_f (X := a2.toInt) (Y := 0) rfl (by decide) (by omega)) ?_
            refine xi_iload_n (pc' := 6) (x := a2) kc_12_5 rfl rfl ?_
            refine xi_iload_n (pc' := 7) (x := 1) kc_12_6 rfl rfl ?_
            refine xi_cmf (pc' := 10) kc_12_7 rfl (xc_gt_f (X := a2.toInt) (Y := 1) rfl (by decide) (by omega)) ?_
            refine xi_iconst (pc' := 11) (v := 1) kc_12_10 rfl rfl ?_
            refine xi_goto (pc' := 15) kc_12_11 rfl ?_
            refine xi_ireturn kc_12_15 mr_12 rfl ?_
            show xw J ov 99 17 (11, [(0, .ref 115), (1, .int a1), (2, .int a2), (3, .int a3)], [.int 1], hh2) _
            refine xi_ift (pc' := 21) kc_17_11 rfl rfl ?_
            refine xi_iload_n (pc' := 22) (x := a1) kc_17_21 rfl rfl ?_
            refine xi_iff (pc' := 25) kc_17_22 rfl (xc_lt_f (X := a1.toInt) (Y := 0) rfl (by decide) (by omega)) ?_
            refine xi_iload_n (pc' := 26) (x := a3) kc_17_25 rfl rfl ?_
            refine xi_iload_n (pc' := 27) (x := a2) kc_17_26 rfl rfl ?_
            refine xi_ift (pc' := 35) kc_17_27 rfl (xc_ne_t (X := a2.toInt) (Y := 0) rfl (by decide) (by omega)) ?_
            refine xi_iconst (pc' := 36) (v := 0) kc_17_35 rfl rfl ?_
            refine xi_cmt (pc' := 46) kc_17_36 rfl (xc_ge_t (X := a3.toInt) (Y := 0) rfl (by decide) (by omega)) ?_
            refine xi_iload_n (pc' := 47) (x := a1) kc_17_46 rfl rfl ?_
            refine xi_sipush (pc' := 50) (v := 599) kc_17_47 rfl rfl ?_
            refine xi_cmt (pc' := 74) kc_17_50 rfl (xc_gt_t (X := a1.toInt) (Y := 599) rfl (by decide) (by omega)) ?_
            refine xi_aload_n (pc' := 75) (x := 115) kc_17_74 rfl rfl ?_
            refine xi_bipush (pc' := 77) (v := (-6)) kc_17_75 rfl rfl ?_
            refine xi_virtual (mj := 18) (as := [.int (-6)]) (st1 := []) (lv0 := [(0, .ref 115), (1, .int (-6))]) kc_17_77 rfl rfl rfl rfl rfl eh2.1 (Nat.le_of_ble_eq_true rfl) (hJ _ _ _ _ (by decide)) (xm_le ml_18 rfl) rfl ?_
            refine xi_aload_n (pc' := 1) (x := 115) kc_18_0 rfl rfl ?_
            refine xi_getfield (pc' := 4) (v := .ref 140) kc_18_1 rfl rfl rfl eh2.1 rfl ?_
            refine xi_iload_n (pc' := 5) (x := (-6)) kc_18_4 rfl rfl ?_
            refine xi_ineg (pc' := 6) (v := 6) kc_18_5 rfl rfl ?_
            refine xi_dup2 (pc' := 7) kc_18_6 rfl ⟨rfl, rfl⟩ ?_
            refine xi_iaload (pc' := 8) (v := 0) kc_18_7 rfl ((eh2.2.1 140 (by decide)).trans ((eh1.2.1 140 (by decide)).trans (F 140 _ hl_140))) (by decide) rfl (xi_in (n := 7) (by decide) (by decide)) rfl ?_
            refine xi_iconst (pc' := 9) (v := 1) kc_18_8 rfl rfl ?_
            refine xi_iadd (pc' := 10) (v := 1) kc_18_9 rfl rfl ?_
            refine xi_iastore (pc' := 11) (x' := [0, 0, 0, 0, 0, 0, 1]) kc_18_10 rfl ((eh2.2.1 140 (by decide)).trans ((eh1.2.1 140 (by decide)).trans (F 140 _ hl_140))) rfl (xi_in (n := 7) (by decide) (by decide)) rfl (fun hh3 eh3 => ?_)
            refine xi_ldc (pc' := 13) (v := 1000000000) kc_18_11 rfl rfl ?_
            refine xi_iload_n (pc' := 14) (x := (-6)) kc_18_13 rfl rfl ?_
            refine xi_isub (pc' := 15) (v := 1000000006) kc_18_14 rfl rfl ?_
            refine xi_ireturn kc_18_15 mr_18 rfl ?_
            show xw J ov 99 17 (80, [(0, .ref 115), (1, .int a1), (2, .int a2), (3, .int a3)], [.int 1000000006], hh3) _
            refine xi_ireturn kc_17_80 mr_17 rfl ?_
            show xw J ov 100 196 (334, [(4, .int 0), (3, .ref 167), (2, .ref 115), (1, .ref 0), (0, .ref 1000000)], [.int 1000000006, .int 1000000006], hh3) _
            refine xi_cmt (pc' := 1528) kc_196_334 rfl rfl ?_
            refine xi_iinc (pc' := 1531) (x := 0) (v := 6) (lv' := [(4, .int 6), (3, .ref 167), (2, .ref 115), (1, .ref 0), (0, .ref 1000000)]) kc_196_1528 rfl rfl rfl rfl (xm_lt ml_196 rfl) ?_
            refine xi_goto (pc' := 23) kc_196_1531 rfl ?_
            refine xi_iload (pc' := 25) (x := 6) kc_196_23 rfl rfl ?_
            refine xi_aload_n (pc' := 26) (x := 1000000) kc_196_25 rfl rfl ?_
            refine xi_arraylength (pc' := 27) (n := 6) (v := 6) kc_196_26 rfl (xl_lenO (by decide) hov0 rfl) rfl ?_
            refine xi_bipush (pc' := 29) (v := 6) kc_196_27 rfl rfl ?_
            refine xi_isub (pc' := 30) (v := 0) kc_196_29 rfl rfl ?_
            refine xi_cmt (pc' := 1534) kc_196_30 rfl rfl ?_
            refine xi_iconst (pc' := 1535) (v := 1) kc_196_1534 rfl rfl ?_
            refine xi_ireturn kc_196_1535 mr_196 rfl ?_
            refine ⟨rfl, ?_, ?_⟩
            · rw [eh3.2.2.1, eh2.2.2.1, eh1.2.2.1]; exact hn0
            · rw [eh3.2.2.2, eh2.2.2.2, eh1.2.2.2]; exact hz0
          · refine xi_cmf (pc' := 65) kc_96_62 rfl (xc_ge_f (X := a1.toInt) (Y := 600) rfl (by decide) (by omega)) ?_
            refine xi_iload_n (pc' := 66) (x := a3) kc_96_65 rfl rfl ?_
            refine xi_iload (pc' := 68) (x := 20) kc_96_66 rfl rfl ?_
            by_cases c35 : a3.toInt ≤ 20
            · refine xi_cmt (pc' := 84) kc_96_68 rfl (xc_le_t (X := a3.toInt) (Y := 20) rfl (by decide) (by omega)) ?_
              refine xi_aload_n (pc' := 85) (x := 0) kc_96_84 rfl rfl ?_
              refine xi_getfield (pc' := 88) (v := .ref 66) kc_96_85 rfl rfl rfl (F 0 _ hl_0) rfl ?_
              refine xi_virtual (mj := 92) (as := []) (st1 := []) (lv0 := [(0, .ref 66)]) kc_96_88 rfl rfl rfl rfl rfl (F 66 _ hl_66) (Nat.le_of_ble_eq_true rfl) (hJ _ _ _ _ (by decide)) (xm_le ml_92 rfl) rfl ?_
              refine xi_aload_n (pc' := 1) (x := 66) kc_92_0 rfl rfl ?_
              refine xi_lconst (pc' := 2) (v := 0) kc_92_1 rfl rfl ?_
              refine xi_putfield (pc' := 5) (fs' := [.ref 1, .ref 67, .ref 70, .ref 71, .ref 72, .ref 73, .ref 74, .long 0, .int 0]) kc_92_2 rfl rfl rfl (F 66 _ hl_66) rfl rfl rfl (Nat.le_of_ble_eq_true rfl) rfl (fun hh1 eh1 => ?_)
              refine xi_return kc_92_5 mr_92 ?_
              show xw J ov 99 96 (91, [(5, .int 20), (4, .int 0), (0, .ref 0), (1, .int a1), (2, .int a2), (3, .int a3)], [], hh1) _
              refine xi_aload_n (pc' := 92) (x := 0) kc_96_91 rfl rfl ?_
              refine xi_getfield (pc' := 95) (v := .ref 1) kc_96_92 rfl rfl rfl ((eh1.2.1 0 (by decide)).trans (F 0 _ hl_0)) rfl ?_
              refine xi_iload_n (pc' := 96) (x := a2) kc_96_95 rfl rfl ?_
              refine xi_virtual (mj := 98) (as := [.int a2]) (st1 := []) (lv0 := [(0, .ref 1), (1, .int a2)]) kc_96_96 rfl rfl rfl rfl rfl ((eh1.2.1 1 (by decide)).trans (F 1 _ hl_1)) (Nat.le_of_ble_eq_true rfl) (hJ _ _ _ _ (by decide)) (xm_le ml_98 rfl) rfl ?_
              refine xi_iload_n (pc' := 1) (x := a2) kc_98_0 rfl rfl ?_
              refine xi_ift (pc' := 11) kc_98_1 rfl (xc_ne_t (X := a2.toInt) (Y := 0) rfl (by decide) (by omega)) ?_
              refine xi_aload_n (pc' := 12) (x := 1) kc_98_11 rfl rfl ?_
              refine xi_getfield (pc' := 15) (v := .ref 8) kc_98_12 rfl rfl rfl ((eh1.2.1 1 (by decide)).trans (F 1 _ hl_1)) rfl ?_
              refine xi_areturn kc_98_15 (by rw [mr_98]; rfl) ?_
              show xw J ov 99 96 (99, [(5, .int 20), (4, .int 0), (0, .ref 0), (1, .int a1), (2, .int a2), (3, .int a3)], [.ref 8], hh1) _
              refine xi_iload_n (pc' := 100) (x := a1) kc_96_99 rfl rfl ?_
              refine xi_iload_n (pc' := 101) (x := a3) kc_96_100 rfl rfl ?_
              refine xi_virtual (mj := 99) (as := [.int a1, .int a3]) (st1 := []) (lv0 := [(0, .ref 8), (1, .int a1), (2, .int a3)]) kc_96_101 rfl rfl rfl rfl rfl ((eh1.2.1 8 (by decide)).trans (F 8 _ hl_8)) (Nat.le_of_ble_eq_true rfl) (hJ _ _ _ _ (by decide)) (xm_le ml_99 rfl) rfl ?_
              refine xi_iload_n (pc' := 1) (x := a1) kc_99_0 rfl rfl ?_
              refine xi_iff (pc' := 4) kc_99_1 rfl (xc_lt_f (X := a1.toInt) (Y := 0) rfl (by decide) (by omega)) ?_
              refine xi_iload_n (pc' := 5) (x := a1) kc_99_4 rfl rfl ?_
              refine xi_aload_n (pc' := 6) (x := 8) kc_99_5 rfl rfl ?_
              refine xi_getfield (pc' := 9) (v := .ref 9) kc_99_6 rfl rfl rfl ((eh1.2.1 8 (by decide)).trans (F 8 _ hl_8)) rfl ?_
              refine xi_arraylength (pc' := 10) (n := 601) (v := 601) kc_99_9 rfl (xl_lenI (by decide) (by decide) ((eh1.2.1 9 (by decide)).trans (F 9 _ hl_9)) (by simp only [List.length_replicate, List.length_cons, List.length_nil])) rfl ?_
              refine xi_cmt (pc' := 16) kc_99_10 rfl (xc_lt_t (X := a1.toInt) (Y := 601) rfl (by decide) (by omega)) ?_
              refine xi_aload_n (pc' := 17) (x := 8) kc_99_16 rfl rfl ?_
              refine xi_getfield (pc' := 20) (v := .ref 9) kc_99_17 rfl rfl rfl ((eh1.2.1 8 (by decide)).trans (F 8 _ hl_8)) rfl ?_
              refine xi_iload_n (pc' := 21) (x := a1) kc_99_20 rfl rfl ?_
              refine xi_iaload (pc' := 22) (v := 99) kc_99_21 rfl ((eh1.2.1 9 (by decide)).trans (F 9 _ hl_9)) (by decide) rfl (xi_in (by omega) (by simp only [List.length_replicate]; omega)) (xa_rep (by omega) (by omega)) ?_
              refine xi_istore_n (pc' := 23) (lv' := [(3, .int 99), (0, .ref 8), (1, .int a1), (2, .int a3)]) kc_99_22 rfl rfl (xm_lt ml_99 rfl) ?_
              refine xi_aload_n (pc' := 24) (x := 8) kc_99_23 rfl rfl ?_
              refine xi_getfield (pc' := 27) (v := .ref 9) kc_99_24 rfl rfl rfl ((eh1.2.1 8 (by decide)).trans (F 8 _ hl_8)) rfl ?_
              refine xi_iload_n (pc' := 28) (x := a1) kc_99_27 rfl rfl ?_
              refine xi_iload_n (pc' := 29) (x := a3) kc_99_28 rfl rfl ?_
              have lq37 : (List.replicate 601 99 : List Int32).length = 601 := by simp only [List.length_replicate, List.length_cons, List.length_nil, List.length_set]
              obtain ⟨x36, hx36⟩ : ∃ q, (List.replicate 601 99 : List Int32).set (Int32.toNatClampNeg a1) (a3) = q := ⟨_, rfl⟩
              have lx36 : x36.length = 601 := by rw [← hx36, List.length_set]; exact lq37
              refine xi_iastore (pc' := 30) (x' := x36) kc_99_29 rfl ((eh1.2.1 9 (by decide)).trans (F 9 _ hl_9)) rfl (xi_in (by omega) (by rw [lq37]; omega)) hx36 (fun hh2 eh2 => ?_)
              refine xi_aload_n (pc' := 31) (x := 8) kc_99_30 rfl rfl ?_
              refine xi_iload_n (pc' := 32) (x := a1) kc_99_31 rfl rfl ?_
              refine xi_iconst (pc' := 33) (v := 1) kc_99_32 rfl rfl ?_
              obtain ⟨v38, ev38⟩ : ∃ q : Int32, a1 - 1 = q := ⟨_, rfl⟩
              have zv38 : v38.toInt = (a1.toInt + (-1)) := by rw [← ev38]; exact (xz_sub (X := a1.toInt) (Y := 1) rfl (by decide) (by omega) (by omega)).trans (by omega)
              refine xi_isub (pc' := 34) (v := v38) kc_99_33 rfl ev38 ?_
              refine xi_virtual (mj := 100) (as := [.int v38]) (st1 := []) (lv0 := [(0, .ref 8), (1, .int v38)]) kc_99_34 rfl rfl rfl rfl rfl ((eh2.2.1 8 (by decide)).trans ((eh1.2.1 8 (by decide)).trans (F 8 _ hl_8))) (Nat.le_of_ble_eq_true rfl) (hJ _ _ _ _ (by decide)) (xm_le ml_100 rfl) rfl ?_
              refine xi_iload_n (pc' := 1) (x := v38) kc_100_0 rfl rfl ?_
              by_cases c39 : (a1.toInt + (-1)) < 0
              · refine xi_ift (pc' := 13) kc_100_1 rfl (xc_lt_t (X := (a1.toInt + (-1))) (Y := 0) zv38 (by decide) (by omega)) ?_
                refine xi_aload_n (pc' := 14) (x := 8) kc_100_13 rfl rfl ?_
                refine xi_getfield (pc' := 17) (v := .int 0) kc_100_14 rfl rfl rfl ((eh2.2.1 8 (by decide)).trans ((eh1.2.1 8 (by decide)).trans (F 8 _ hl_8))) rfl ?_
                refine xi_goto (pc' := 26) kc_100_17 rfl ?_
                refine xi_ireturn kc_100_26 mr_100 rfl ?_
                show xw J ov 98 99 (37, [(3, .int 99), (0, .ref 8), (1, .int a1), (2, .int a3)], [.int 0], hh2) _
                refine xi_istore (pc' := 39) (lv' := [(4, .int 0), (3, .int 99), (0, .ref 8), (1, .int a1), (2, .int a3)]) kc_99_37 rfl rfl (xm_lt ml_99 rfl) ?_
                refine xi_iload_n (pc' := 40) (x := a1) kc_99_39 rfl rfl ?_
                refine xi_istore (pc' := 42) (lv' := [(5, .int a1), (4, .int 0), (3, .int 99), (0, .ref 8), (1, .int a1), (2, .int a3)]) kc_99_40 rfl rfl (xm_lt ml_99 rfl) ?_
                refine lp_tell_rain (hr := a1) (v := a3) hJ ((eh2.2.1 8 (by decide)).trans ((eh1.2.1 8 (by decide)).trans (F 8 _ hl_8))) (fun y3 z3 hh3 ly3 lz3 et3 => ?_) 601 a1 0 x36 (List.replicate 601 0) hh2 (by omega) (by omega) (by omega) lx36 (by simp only [List.length_replicate]) ⟨eh2.1, ((eh2.2.1 10 (by decide)).trans ((eh1.2.1 10 (by decide)).trans (F 10 _ hl_10))), fun _ _ _ => rfl, rfl, rfl⟩
                show xw J ov 99 96 (104, [(5, .int 20), (4, .int 0), (0, .ref 0), (1, .int a1), (2, .int a2), (3, .int a3)], [.int 99], hh3) _
                refine xi_ireturn kc_96_104 mr_96 rfl ?_
                show xw J ov 100 196 (312, [(4, .int 0), (3, .ref 167), (2, .ref 115), (1, .ref 0), (0, .ref 1000000)], [.int 99], hh3) _
                refine xi_aload_n (pc' := 313) (x := 115) kc_196_312 rfl rfl ?_
                refine xi_aload_n (pc' := 314) (x := 1000000) kc_196_313 rfl rfl ?_
                refine xi_iload (pc' := 316) (x := 0) kc_196_314 rfl rfl ?_
                refine xi_iconst (pc' := 317) (v := 1) kc_196_316 rfl rfl ?_
                refine xi_iadd (pc' := 318) (v := 1) kc_196_317 rfl rfl ?_
                refine xi_ialoadO (pc' := 319) (v := a1) kc_196_318 rfl (by decide) hov0 (xi_in (n := 6) (by decide) (by decide)) rfl ?_
                refine xi_aload_n (pc' := 320) (x := 1000000) kc_196_319 rfl rfl ?_
                refine xi_iload (pc' := 322) (x := 0) kc_196_320 rfl rfl ?_
                refine xi_iconst (pc' := 323) (v := 2) kc_196_322 rfl rfl ?_
                refine xi_iadd (pc' := 324) (v := 2) kc_196_323 rfl rfl ?_
                refine xi_ialoadO (pc' := 325) (v := a2) kc_196_324 rfl (by decide) hov0 (xi_in (n := 6) (by decide) (by decide)) rfl ?_
                refine xi_aload_n (pc' := 326) (x := 1000000) kc_196_325 rfl rfl ?_
                refine xi_iload (pc' := 328) (x := 0) kc_196_326 rfl rfl ?_
                refine xi_iconst (pc' := 329) (v := 3) kc_196_328 rfl rfl ?_
                refine xi_iadd (pc' := 330) (v := 3) kc_196_329 rfl rfl ?_
                refine xi_ialoadO (pc' := 331) (v := a3) kc_196_330 rfl (by decide) hov0 (xi_in (n := 6) (by decide) (by decide)) rfl ?_
                refine xi_virtual (mj := 17) (as := [.int a1, .int a2, .int a3]) (st1 := [.int 99]) (lv0 := [(0, .ref 115), (1, .int a1), (2, .int a2), (3, .int a3)]) kc_196_331 rfl rfl rfl rfl rfl ((et3.2.2.1 115 (by decide) (by decide)).trans ((eh2.2.1 115 (by decide)).trans ((eh1.2.1 115 (by decide)).trans (F 115 _ hl_115)))) (Nat.le_of_ble_eq_true rfl) (hJ _ _ _ _ (by decide)) (xm_le ml_17 rfl) rfl ?_
                refine xi_aload_n (pc' := 1) (x := 115) kc_17_0 rfl rfl ?_
                refine xi_iconst (pc' := 2) (v := 0) kc_17_1 rfl rfl ?_
                refine xi_putfield (pc' := 5) (fs' := [.int 0, .int 0, .ref 116, .ref 117, .ref 118, .ref 119, .ref 120, .ref 121, .ref 122, .ref 123, .ref 124, .ref 125, .ref 126, .ref 127, .ref 128, .ref 129, .int 4, .ref 130, .int 0, .ref 131, .ref 132, .ref 133, .ref 134, .int 0, .ref 135, .ref 136, .ref 137, .ref 138, .ref 139, .ref 140, .ref 141, .ref 142, .int 0, .int 0, .int 0, .ref 143, .ref 144, .ref 145, .ref 146, .ref 147, .ref 148, .int 0, .ref 149, .ref 150, .ref 151, .int 0, .ref 152, .ref 153, .ref 154, .ref 155, .ref 156, .ref 157, .ref 158, .ref 159, .int 0, .ref 160, .int 0, .ref 161, .ref 162, .ref 163, .ref 164, .int 0, .ref 165, .ref 166]) kc_17_2 rfl rfl rfl ((et3.2.2.1 115 (by decide) (by decide)).trans ((eh2.2.1 115 (by decide)).trans ((eh1.2.1 115 (by decide)).trans (F 115 _ hl_115)))) rfl rfl rfl (Nat.le_of_ble_eq_true rfl) rfl (fun hh4 eh4 => ?_)
                refine xi_iload_n (pc' := 6) (x := a2) kc_17_5 rfl rfl ?_
                refine xi_iconst (pc' := 7) (v := 0) kc_17_6 rfl rfl ?_
                refine xi_iconst (pc' := 8) (v := 1) kc_17_7 rfl rfl ?_
                refine xi_static (mj := 12) (as := [.int a2, .int 0, .int 1]) (st1 := []) (lv0 := [(0, .int a2), (1, .int 0), (2, .int 1)]) kc_17_8 rfl rfl (Nat.le_of_ble_eq_true rfl) rfl rfl (Nat.le_of_ble_eq_true rfl) (hJ _ _ _ _ (by decide)) (xm_le ml_12 rfl) rfl ?_
                refine xi_iload_n (pc' := 1) (x := a2) kc_12_0 rfl rfl ?_
                refine xi_iload_n (pc' := 2) (x := 0) kc_12_1 rfl rfl ?_
                refine xi_cmf (pc' := 5) kc_12_2 rfl (xc_lt_f (X := a2.toInt) (Y := 0) rfl (by decide) (by omega)) ?_
                refine xi_iload_n (pc' := 6) (x := a2) kc_12_5 rfl rfl ?_
                refine xi_iload_n (pc' := 7) (x := 1) kc_12_6 rfl rfl ?_
                refine xi_cmf (pc' := 10) kc_12_7 rfl (xc_gt_f (X := a2.toInt) (Y := 1) rfl (by decide) (by omega)) ?_
                refine xi_iconst (pc' := 11) (v := 1) kc_12_10 rfl rfl ?_
                refine xi_goto (pc' := 15) kc_12_11 rfl ?_
                refine xi_ireturn kc_12_15 mr_12 rfl ?_
                show xw J ov 99 17 (11, [(0, .ref 115), (1, .int a1), (2, .int a2), (3, .int a3)], [.int 1], hh4) _
                refine xi_ift (pc' := 21) kc_17_11 rfl rfl ?_
                refine xi_iload_n (pc' := 22) (x := a1) kc_17_21 rfl rfl ?_
                refine xi_iff (pc' := 25) kc_17_22 rfl (xc_lt_f (X := a1.toInt) (Y := 0) rfl (by decide) (by omega)) ?_
                refine xi_iload_n (pc' := 26) (x := a3) kc_17_25 rfl rfl ?_
                refine xi_iload_n (pc' := 27) (x := a2) kc_17_26 rfl rfl ?_
                refine xi_ift (pc' := 35) kc_17_27 rfl (xc_ne_t (X := a2.toInt) (Y := 0) rfl (by decide) (by omega)) ?_
                refine xi_iconst (pc' := 36) (v := 0) kc_17_35 rfl rfl ?_
                refine xi_cmt (pc' := 46) kc_17_36 rfl (xc_ge_t (X := a3.toInt) (Y := 0) rfl (by decide) (by omega)) ?_
                refine xi_iload_n (pc' := 47) (x := a1) kc_17_46 rfl rfl ?_
                refine xi_sipush (pc' := 50) (v := 599) kc_17_47 rfl rfl ?_
                refine xi_cmf (pc' := 53) kc_17_50 rfl (xc_gt_f (X := a1.toInt) (Y := 599) rfl (by decide) (by omega)) ?_
                refine xi_iload_n (pc' := 54) (x := a3) kc_17_53 rfl rfl ?_
                refine xi_iload_n (pc' := 55) (x := a2) kc_17_54 rfl rfl ?_
                refine xi_ift (pc' := 63) kc_17_55 rfl (xc_ne_t (X := a2.toInt) (Y := 0) rfl (by decide) (by omega)) ?_
                refine xi_bipush (pc' := 65) (v := 20) kc_17_63 rfl rfl ?_
                refine xi_cmt (pc' := 81) kc_17_65 rfl (xc_le_t (X := a3.toInt) (Y := 20) rfl (by decide) (by omega)) ?_
                refine xi_iload_n (pc' := 82) (x := a2) kc_17_81 rfl rfl ?_
                refine xi_ift (pc' := 94) kc_17_82 rfl (xc_ne_t (X := a2.toInt) (Y := 0) rfl (by decide) (by omega)) ?_
                refine xi_aload_n (pc' := 95) (x := 115) kc_17_94 rfl rfl ?_
                refine xi_getfield (pc' := 98) (v := .ref 124) kc_17_95 rfl rfl rfl eh4.1 rfl ?_
                refine xi_iload_n (pc' := 99) (x := a1) kc_17_98 rfl rfl ?_
                refine xi_iaload (pc' := 100) (v := 99) kc_17_99 rfl ((eh4.2.1 124 (by decide)).trans ((et3.2.2.1 124 (by decide) (by decide)).trans ((eh2.2.1 124 (by decide)).trans ((eh1.2.1 124 (by decide)).trans (F 124 _ hl_124))))) (by decide) rfl (xi_in (by omega) (by simp only [List.length_replicate]; omega)) (xa_rep (by omega) (by omega)) ?_
                refine xi_istore (pc' := 102) (lv' := [(4, .int 99), (0, .ref 115), (1, .int a1), (2, .int a2), (3, .int a3)]) kc_17_100 rfl rfl (xm_lt ml_17 rfl) ?_
                refine xi_aload_n (pc' := 103) (x := 115) kc_17_102 rfl rfl ?_
                refine xi_getfield (pc' := 106) (v := .ref 123) kc_17_103 rfl rfl rfl eh4.1 rfl ?_
                refine xi_iload_n (pc' := 107) (x := a1) kc_17_106 rfl rfl ?_
                refine xi_iload_n (pc' := 108) (x := a2) kc_17_107 rfl rfl ?_
                refine xi_ift (pc' := 115) kc_17_108 rfl (xc_ne_t (X := a2.toInt) (Y := 0) rfl (by decide) (by omega)) ?_
                refine xi_aload_n (pc' := 116) (x := 115) kc_17_115 rfl rfl ?_
                refine xi_getfield (pc' := 119) (v := .ref 123) kc_17_116 rfl rfl rfl eh4.1 rfl ?_
                refine xi_iload_n (pc' := 120) (x := a1) kc_17_119 rfl rfl ?_
                refine xi_iaload (pc' := 121) (v := 99) kc_17_120 rfl ((eh4.2.1 123 (by decide)).trans ((et3.2.2.1 123 (by decide) (by decide)).trans ((eh2.2.1 123 (by decide)).trans ((eh1.2.1 123 (by decide)).trans (F 123 _ hl_123))))) (by decide) rfl (xi_in (by omega) (by simp only [List.length_replicate]; omega)) (xa_rep (by omega) (by omega)) ?_
                have lq41 : (List.replicate 600 99 : List Int32).length = 600 := by simp only [List.length_replicate, List.length_cons, List.length_nil, List.length_set]
                obtain ⟨x40, hx40⟩ : ∃ q, (List.replicate 600 99 : List Int32).set (Int32.toNatClampNeg a1) (99) = q := ⟨_, rfl⟩
                have lx40 : x40.length = 600 := by rw [← hx40, List.length_set]; exact lq41
                refine xi_iastore (pc' := 122) (x' := x40) kc_17_121 rfl ((eh4.2.1 123 (by decide)).trans ((et3.2.2.1 123 (by decide) (by decide)).trans ((eh2.2.1 123 (by decide)).trans ((eh1.2.1 123 (by decide)).trans (F 123 _ hl_123))))) rfl (xi_in (by omega) (by rw [lq41]; omega)) hx40 (fun hh5 eh5 => ?_)
                refine xi_aload_n (pc' := 123) (x := 115) kc_17_122 rfl rfl ?_
                refine xi_getfield (pc' := 126) (v := .ref 124) kc_17_123 rfl rfl rfl ((eh5.2.1 115 (by decide)).trans eh4.1) rfl ?_
                refine xi_iload_n (pc' := 127) (x := a1) kc_17_126 rfl rfl ?_
                refine xi_iload_n (pc' := 128) (x := a2) kc_17_127 rfl rfl ?_
                refine xi_iconst (pc' := 129) (v := 1) kc_17_128 rfl rfl ?_
                refine xi_cmf (pc' := 132) kc_17_129 rfl (xc_ne_f (X := a2.toInt) (Y := 1) rfl (by decide) (by omega)) ?_
                refine xi_iload_n (pc' := 133) (x := a3) kc_17_132 rfl rfl ?_
                refine xi_goto (pc' := 142) kc_17_133 rfl ?_
                have lq43 : (List.replicate 600 99 : List Int32).length = 600 := by simp only [List.length_replicate, List.length_cons, List.length_nil, List.length_set]
                obtain ⟨x42, hx42⟩ : ∃ q, (List.replicate 600 99 : List Int32).set (Int32.toNatClampNeg a1) (a3) = q := ⟨_, rfl⟩
                have lx42 : x42.length = 600 := by rw [← hx42, List.length_set]; exact lq43
                refine xi_iastore (pc' := 143) (x' := x42) kc_17_142 rfl ((eh5.2.1 124 (by decide)).trans ((eh4.2.1 124 (by decide)).trans ((et3.2.2.1 124 (by decide) (by decide)).trans ((eh2.2.1 124 (by decide)).trans ((eh1.2.1 124 (by decide)).trans (F 124 _ hl_124)))))) rfl (xi_in (by omega) (by rw [lq43]; omega)) hx42 (fun hh6 eh6 => ?_)
                refine xi_aload_n (pc' := 144) (x := 115) kc_17_143 rfl rfl ?_
                refine xi_iconst (pc' := 145) (v := 0) kc_17_144 rfl rfl ?_
                refine xi_putfield (pc' := 148) (fs' := [.int 0, .int 0, .ref 116, .ref 117, .ref 118, .ref 119, .ref 120, .ref 121, .ref 122, .ref 123, .ref 124, .ref 125, .ref 126, .ref 127, .ref 128, .ref 129, .int 4, .ref 130, .int 0, .ref 131, .ref 132, .ref 133, .ref 134, .int 0, .ref 135, .ref 136, .ref 137, .ref 138, .ref 139, .ref 140, .ref 141, .ref 142, .int 0, .int 0, .int 0, .ref 143, .ref 144, .ref 145, .ref 146, .ref 147, .ref 148, .int 0, .ref 149, .ref 150, .ref 151, .int 0, .ref 152, .ref 153, .ref 154, .ref 155, .ref 156, .ref 157, .ref 158, .ref 159, .int 0, .ref 160, .int 0, .ref 161, .ref 162, .ref 163, .ref 164, .int 0, .ref 165, .ref 166]) kc_17_145 rfl rfl rfl ((eh6.2.1 115 (by decide)).trans ((eh5.2.1 115 (by decide)).trans eh4.1)) rfl rfl rfl (Nat.le_of_ble_eq_true rfl) rfl (fun hh7 eh7 => ?_)
                refine xi_iload (pc' := 150) (x := 99) kc_17_148 rfl rfl ?_
                refine xi_ireturn kc_17_150 mr_17 rfl ?_
                show xw J ov 100 196 (334, [(4, .int 0), (3, .ref 167), (2, .ref 115), (1, .ref 0), (0, .ref 1000000)], [.int 99, .int 99], hh7) _
                refine xi_cmt (pc' := 1528) kc_196_334 rfl rfl ?_
                refine xi_iinc (pc' := 1531) (x := 0) (v := 6) (lv' := [(4, .int 6), (3, .ref 167), (2, .ref 115), (1, .ref 0), (0, .ref 1000000)]) kc_196_1528 rfl rfl rfl rfl (xm_lt ml_196 rfl) ?_
                refine xi_goto (pc' := 23) kc_196_1531 rfl ?_
                refine xi_iload (pc' := 25) (x := 6) kc_196_23 rfl rfl ?_
                refine xi_aload_n (pc' := 26) (x := 1000000) kc_196_25 rfl rfl ?_
                refine xi_arraylength (pc' := 27) (n := 6) (v := 6) kc_196_26 rfl (xl_lenO (by decide) hov0 rfl) rfl ?_
                refine xi_bipush (pc' := 29) (v := 6) kc_196_27 rfl rfl ?_
                refine xi_isub (pc' := 30) (v := 0) kc_196_29 rfl rfl ?_
                refine xi_cmt (pc' := 1534) kc_196_30 rfl rfl ?_
                refine xi_iconst (pc' := 1535) (v := 1) kc_196_1534 rfl rfl ?_
                refine xi_ireturn kc_196_1535 mr_196 rfl ?_
                refine ⟨rfl, ?_, ?_⟩
                · rw [eh7.2.2.1, eh6.2.2.1, eh5.2.2.1, eh4.2.2.1, et3.2.2.2.1, eh2.2.2.1, eh1.2.2.1]; exact hn0
                · rw [eh7.2.2.2, eh6.2.2.2, eh5.2.2.2, eh4.2.2.2, et3.2.2.2.2, eh2.2.2.2, eh1.2.2.2]; exact hz0
              · refine xi_iff (pc' := 4) kc_100_1 rfl (xc_lt_f (X := (a1.toInt + (-1))) (Y := 0) zv38 (by decide) (by omega)) ?_
                refine xi_iload_n (pc' := 5) (x := v38) kc_100_4 rfl rfl ?_
                refine xi_aload_n (pc' := 6) (x := 8) kc_100_5 rfl rfl ?_
                refine xi_getfield (pc' := 9) (v := .ref 10) kc_100_6 rfl rfl rfl ((eh2.2.1 8 (by decide)).trans ((eh1.2.1 8 (by decide)).trans (F 8 _ hl_8))) rfl ?_
                refine xi_arraylength (pc' := 10) (n := 601) (v := 601) kc_100_9 rfl (xl_lenI (by decide) (by decide) ((eh2.2.1 10 (by decide)).trans ((eh1.2.1 10 (by decide)).trans (F 10 _ hl_10))) (by simp only [List.length_replicate, List.length_cons, List.length_nil])) rfl ?_
                refine xi_cmt (pc' := 20) kc_100_10 rfl (xc_lt_t (X := (a1.toInt + (-1))) (Y := 601) zv38 (by decide) (by omega)) ?_
                refine xi_aload_n (pc' := 21) (x := 8) kc_100_20 rfl rfl ?_
                refine xi_getfield (pc' := 24) (v := .ref 10) kc_100_21 rfl rfl rfl ((eh2.2.1 8 (by decide)).trans ((eh1.2.1 8 (by decide)).trans (F 8 _ hl_8))) rfl ?_
                refine xi_iload_n (pc' := 25) (x := v38) kc_100_24 rfl rfl ?_
                refine xi_iaload (pc' := 26) (v := 0) kc_100_25 rfl ((eh2.2.1 10 (by decide)).trans ((eh1.2.1 10 (by decide)).trans (F 10 _ hl_10))) (by decide) rfl (xi_in (by rw [zv38]; omega) (by rw [zv38]; simp only [List.length_replicate]; omega)) (xa_rep (by rw [zv38]; omega) (by rw [zv38]; omega)) ?_
                refine xi_ireturn kc_100_26 mr_100 rfl ?_
                show xw J ov 98 99 (37, [(3, .int 99), (0, .ref 8), (1, .int a1), (2, .int a3)], [.int 0], hh2) _
                refine xi_istore (pc' := 39) (lv' := [(4, .int 0), (3, .int 99), (0, .ref 8), (1, .int a1), (2, .int a3)]) kc_99_37 rfl rfl (xm_lt ml_99 rfl) ?_
                refine xi_iload_n (pc' := 40) (x := a1) kc_99_39 rfl rfl ?_
                refine xi_istore (pc' := 42) (lv' := [(5, .int a1), (4, .int 0), (3, .int 99), (0, .ref 8), (1, .int a1), (2, .int a3)]) kc_99_40 rfl rfl (xm_lt ml_99 rfl) ?_
                refine lp_tell_rain (hr := a1) (v := a3) hJ ((eh2.2.1 8 (by decide)).trans ((eh1.2.1 8 (by decide)).trans (F 8 _ hl_8))) (fun y3 z3 hh3 ly3 lz3 et3 => ?_) 601 a1 0 x36 (List.replicate 601 0) hh2 (by omega) (by omega) (by omega) lx36 (by simp only [List.length_replicate]) ⟨eh2.1, ((eh2.2.1 10 (by decide)).trans ((eh1.2.1 10 (by decide)).trans (F 10 _ hl_10))), fun _ _ _ => rfl, rfl, rfl⟩
                show xw J ov 99 96 (104, [(5, .int 20), (4, .int 0), (0, .ref 0), (1, .int a1), (2, .int a2), (3, .int a3)], [.int 99], hh3) _
                refine xi_ireturn kc_96_104 mr_96 rfl ?_
                show xw J ov 100 196 (312, [(4, .int 0), (3, .ref 167), (2, .ref 115), (1, .ref 0), (0, .ref 1000000)], [.int 99], hh3) _
                refine xi_aload_n (pc' := 313) (x := 115) kc_196_312 rfl rfl ?_
                refine xi_aload_n (pc' := 314) (x := 1000000) kc_196_313 rfl rfl ?_
                refine xi_iload (pc' := 316) (x := 0) kc_196_314 rfl rfl ?_
                refine xi_iconst (pc' := 317) (v := 1) kc_196_316 rfl rfl ?_
                refine xi_iadd (pc' := 318) (v := 1) kc_196_317 rfl rfl ?_
                refine xi_ialoadO (pc' := 319) (v := a1) kc_196_318 rfl (by decide) hov0 (xi_in (n := 6) (by decide) (by decide)) rfl ?_
                refine xi_aload_n (pc' := 320) (x := 1000000) kc_196_319 rfl rfl ?_
                refine xi_iload (pc' := 322) (x := 0) kc_196_320 rfl rfl ?_
                refine xi_iconst (pc' := 323) (v := 2) kc_196_322 rfl rfl ?_
                refine xi_iadd (pc' := 324) (v := 2) kc_196_323 rfl rfl ?_
                refine xi_ialoadO (pc' := 325) (v := a2) kc_196_324 rfl (by decide) hov0 (xi_in (n := 6) (by decide) (by decide)) rfl ?_
                refine xi_aload_n (pc' := 326) (x := 1000000) kc_196_325 rfl rfl ?_
                refine xi_iload (pc' := 328) (x := 0) kc_196_326 rfl rfl ?_
                refine xi_iconst (pc' := 329) (v := 3) kc_196_328 rfl rfl ?_
                refine xi_iadd (pc' := 330) (v := 3) kc_196_329 rfl rfl ?_
                refine xi_ialoadO (pc' := 331) (v := a3) kc_196_330 rfl (by decide) hov0 (xi_in (n := 6) (by decide) (by decide)) rfl ?_
                refine xi_virtual (mj := 17) (as := [.int a1, .int a2, .int a3]) (st1 := [.int 99]) (lv0 := [(0, .ref 115), (1, .int a1), (2, .int a2), (3, .int a3)]) kc_196_331 rfl rfl rfl rfl rfl ((et3.2.2.1 115 (by decide) (by decide)).trans ((eh2.2.1 115 (by decide)).trans ((eh1.2.1 115 (by decide)).trans (F 115 _ hl_115)))) (Nat.le_of_ble_eq_true rfl) (hJ _ _ _ _ (by decide)) (xm_le ml_17 rfl) rfl ?_
                refine xi_aload_n (pc' := 1) (x := 115) kc_17_0 rfl rfl ?_
                refine xi_iconst (pc' := 2) (v := 0) kc_17_1 rfl rfl ?_
                refine xi_putfield (pc' := 5) (fs' := [.int 0, .int 0, .ref 116, .ref 117, .ref 118, .ref 119, .ref 120, .ref 121, .ref 122, .ref 123, .ref 124, .ref 125, .ref 126, .ref 127, .ref 128, .ref 129, .int 4, .ref 130, .int 0, .ref 131, .ref 132, .ref 133, .ref 134, .int 0, .ref 135, .ref 136, .ref 137, .ref 138, .ref 139, .ref 140, .ref 141, .ref 142, .int 0, .int 0, .int 0, .ref 143, .ref 144, .ref 145, .ref 146, .ref 147, .ref 148, .int 0, .ref 149, .ref 150, .ref 151, .int 0, .ref 152, .ref 153, .ref 154, .ref 155, .ref 156, .ref 157, .ref 158, .ref 159, .int 0, .ref 160, .int 0, .ref 161, .ref 162, .ref 163, .ref 164, .int 0, .ref 165, .ref 166]) kc_17_2 rfl rfl rfl ((et3.2.2.1 115 (by decide) (by decide)).trans ((eh2.2.1 115 (by decide)).trans ((eh1.2.1 115 (by decide)).trans (F 115 _ hl_115)))) rfl rfl rfl (Nat.le_of_ble_eq_true rfl) rfl (fun hh4 eh4 => ?_)
                refine xi_iload_n (pc' := 6) (x := a2) kc_17_5 rfl rfl ?_
                refine xi_iconst (pc' := 7) (v := 0) kc_17_6 rfl rfl ?_
                refine xi_iconst (pc' := 8) (v := 1) kc_17_7 rfl rfl ?_
                refine xi_static (mj := 12) (as := [.int a2, .int 0, .int 1]) (st1 := []) (lv0 := [(0, .int a2), (1, .int 0), (2, .int 1)]) kc_17_8 rfl rfl (Nat.le_of_ble_eq_true rfl) rfl rfl (Nat.le_of_ble_eq_true rfl) (hJ _ _ _ _ (by decide)) (xm_le ml_12 rfl) rfl ?_
                refine xi_iload_n (pc' := 1) (x := a2) kc_12_0 rfl rfl ?_
                refine xi_iload_n (pc' := 2) (x := 0) kc_12_1 rfl rfl ?_
                refine xi_cmf (pc' := 5) kc_12_2 rfl (xc_lt_f (X := a2.toInt) (Y := 0) rfl (by decide) (by omega)) ?_
                refine xi_iload_n (pc' := 6) (x := a2) kc_12_5 rfl rfl ?_
                refine xi_iload_n (pc' := 7) (x := 1) kc_12_6 rfl rfl ?_
                refine xi_cmf (pc' := 10) kc_12_7 rfl (xc_gt_f (X := a2.toInt) (Y := 1) rfl (by decide) (by omega)) ?_
                refine xi_iconst (pc' := 11) (v := 1) kc_12_10 rfl rfl ?_
                refine xi_goto (pc' := 15) kc_12_11 rfl ?_
                refine xi_ireturn kc_12_15 mr_12 rfl ?_
                show xw J ov 99 17 (11, [(0, .ref 115), (1, .int a1), (2, .int a2), (3, .int a3)], [.int 1], hh4) _
                refine xi_ift (pc' := 21) kc_17_11 rfl rfl ?_
                refine xi_iload_n (pc' := 22) (x := a1) kc_17_21 rfl rfl ?_
                refine xi_iff (pc' := 25) kc_17_22 rfl (xc_lt_f (X := a1.toInt) (Y := 0) rfl (by decide) (by omega)) ?_
                refine xi_iload_n (pc' := 26) (x := a3) kc_17_25 rfl rfl ?_
                refine xi_iload_n (pc' := 27) (x := a2) kc_17_26 rfl rfl ?_
                refine xi_ift (pc' := 35) kc_17_27 rfl (xc_ne_t (X := a2.toInt) (Y := 0) rfl (by decide) (by omega)) ?_
                refine xi_iconst (pc' := 36) (v := 0) kc_17_35 rfl rfl ?_
                refine xi_cmt (pc' := 46) kc_17_36 rfl (xc_ge_t (X := a3.toInt) (Y := 0) rfl (by decide) (by omega)) ?_
                refine xi_iload_n (pc' := 47) (x := a1) kc_17_46 rfl rfl ?_
                refine xi_sipush (pc' := 50) (v := 599) kc_17_47 rfl rfl ?_
                refine xi_cmf (pc' := 53) kc_17_50 rfl (xc_gt_f (X := a1.toInt) (Y := 599) rfl (by decide) (by omega)) ?_
                refine xi_iload_n (pc' := 54) (x := a3) kc_17_53 rfl rfl ?_
                refine xi_iload_n (pc' := 55) (x := a2) kc_17_54 rfl rfl ?_
                refine xi_ift (pc' := 63) kc_17_55 rfl (xc_ne_t (X := a2.toInt) (Y := 0) rfl (by decide) (by omega)) ?_
                refine xi_bipush (pc' := 65) (v := 20) kc_17_63 rfl rfl ?_
                refine xi_cmt (pc' := 81) kc_17_65 rfl (xc_le_t (X := a3.toInt) (Y := 20) rfl (by decide) (by omega)) ?_
                refine xi_iload_n (pc' := 82) (x := a2) kc_17_81 rfl rfl ?_
                refine xi_ift (pc' := 94) kc_17_82 rfl (xc_ne_t (X := a2.toInt) (Y := 0) rfl (by decide) (by omega)) ?_
                refine xi_aload_n (pc' := 95) (x := 115) kc_17_94 rfl rfl ?_
                refine xi_getfield (pc' := 98) (v := .ref 124) kc_17_95 rfl rfl rfl eh4.1 rfl ?_
                refine xi_iload_n (pc' := 99) (x := a1) kc_17_98 rfl rfl ?_
                refine xi_iaload (pc' := 100) (v := 99) kc_17_99 rfl ((eh4.2.1 124 (by decide)).trans ((et3.2.2.1 124 (by decide) (by decide)).trans ((eh2.2.1 124 (by decide)).trans ((eh1.2.1 124 (by decide)).trans (F 124 _ hl_124))))) (by decide) rfl (xi_in (by omega) (by simp only [List.length_replicate]; omega)) (xa_rep (by omega) (by omega)) ?_
                refine xi_istore (pc' := 102) (lv' := [(4, .int 99), (0, .ref 115), (1, .int a1), (2, .int a2), (3, .int a3)]) kc_17_100 rfl rfl (xm_lt ml_17 rfl) ?_
                refine xi_aload_n (pc' := 103) (x := 115) kc_17_102 rfl rfl ?_
                refine xi_getfield (pc' := 106) (v := .ref 123) kc_17_103 rfl rfl rfl eh4.1 rfl ?_
                refine xi_iload_n (pc' := 107) (x := a1) kc_17_106 rfl rfl ?_
                refine xi_iload_n (pc' := 108) (x := a2) kc_17_107 rfl rfl ?_
                refine xi_ift (pc' := 115) kc_17_108 rfl (xc_ne_t (X := a2.toInt) (Y := 0) rfl (by decide) (by omega)) ?_
                refine xi_aload_n (pc' := 116) (x := 115) kc_17_115 rfl rfl ?_
                refine xi_getfield (pc' := 119) (v := .ref 123) kc_17_116 rfl rfl rfl eh4.1 rfl ?_
                refine xi_iload_n (pc' := 120) (x := a1) kc_17_119 rfl rfl ?_
                refine xi_iaload (pc' := 121) (v := 99) kc_17_120 rfl ((eh4.2.1 123 (by decide)).trans ((et3.2.2.1 123 (by decide) (by decide)).trans ((eh2.2.1 123 (by decide)).trans ((eh1.2.1 123 (by decide)).trans (F 123 _ hl_123))))) (by decide) rfl (xi_in (by omega) (by simp only [List.length_replicate]; omega)) (xa_rep (by omega) (by omega)) ?_
                have lq45 : (List.replicate 600 99 : List Int32).length = 600 := by simp only [List.length_replicate, List.length_cons, List.length_nil, List.length_set]
                obtain ⟨x44, hx44⟩ : ∃ q, (List.replicate 600 99 : List Int32).set (Int32.toNatClampNeg a1) (99) = q := ⟨_, rfl⟩
                have lx44 : x44.length = 600 := by rw [← hx44, List.length_set]; exact lq45
                refine xi_iastore (pc' := 122) (x' := x44) kc_17_121 rfl ((eh4.2.1 123 (by decide)).trans ((et3.2.2.1 123 (by decide) (by decide)).trans ((eh2.2.1 123 (by decide)).trans ((eh1.2.1 123 (by decide)).trans (F 123 _ hl_123))))) rfl (xi_in (by omega) (by rw [lq45]; omega)) hx44 (fun hh5 eh5 => ?_)
                refine xi_aload_n (pc' := 123) (x := 115) kc_17_122 rfl rfl ?_
                refine xi_getfield (pc' := 126) (v := .ref 124) kc_17_123 rfl rfl rfl ((eh5.2.1 115 (by decide)).trans eh4.1) rfl ?_
                refine xi_iload_n (pc' := 127) (x := a1) kc_17_126 rfl rfl ?_
                refine xi_iload_n (pc' := 128) (x := a2) kc_17_127 rfl rfl ?_
                refine xi_iconst (pc' := 129) (v := 1) kc_17_128 rfl rfl ?_
                refine xi_cmf (pc' := 132) kc_17_129 rfl (xc_ne_f (X := a2.toInt) (Y := 1) rfl (by decide) (by omega)) ?_
                refine xi_iload_n (pc' := 133) (x := a3) kc_17_132 rfl rfl ?_
                refine xi_goto (pc' := 142) kc_17_133 rfl ?_
                have lq47 : (List.replicate 600 99 : List Int32).length = 600 := by simp only [List.length_replicate, List.length_cons, List.length_nil, List.length_set]
                obtain ⟨x46, hx46⟩ : ∃ q, (List.replicate 600 99 : List Int32).set (Int32.toNatClampNeg a1) (a3) = q := ⟨_, rfl⟩
                have lx46 : x46.length = 600 := by rw [← hx46, List.length_set]; exact lq47
                refine xi_iastore (pc' := 143) (x' := x46) kc_17_142 rfl ((eh5.2.1 124 (by decide)).trans ((eh4.2.1 124 (by decide)).trans ((et3.2.2.1 124 (by decide) (by decide)).trans ((eh2.2.1 124 (by decide)).trans ((eh1.2.1 124 (by decide)).trans (F 124 _ hl_124)))))) rfl (xi_in (by omega) (by rw [lq47]; omega)) hx46 (fun hh6 eh6 => ?_)
                refine xi_aload_n (pc' := 144) (x := 115) kc_17_143 rfl rfl ?_
                refine xi_iconst (pc' := 145) (v := 0) kc_17_144 rfl rfl ?_
                refine xi_putfield (pc' := 148) (fs' := [.int 0, .int 0, .ref 116, .ref 117, .ref 118, .ref 119, .ref 120, .ref 121, .ref 122, .ref 123, .ref 124, .ref 125, .ref 126, .ref 127, .ref 128, .ref 129, .int 4, .ref 130, .int 0, .ref 131, .ref 132, .ref 133, .ref 134, .int 0, .ref 135, .ref 136, .ref 137, .ref 138, .ref 139, .ref 140, .ref 141, .ref 142, .int 0, .int 0, .int 0, .ref 143, .ref 144, .ref 145, .ref 146, .ref 147, .ref 148, .int 0, .ref 149, .ref 150, .ref 151, .int 0, .ref 152, .ref 153, .ref 154, .ref 155, .ref 156, .ref 157, .ref 158, .ref 159, .int 0, .ref 160, .int 0, .ref 161, .ref 162, .ref 163, .ref 164, .int 0, .ref 165, .ref 166]) kc_17_145 rfl rfl rfl ((eh6.2.1 115 (by decide)).trans ((eh5.2.1 115 (by decide)).trans eh4.1)) rfl rfl rfl (Nat.le_of_ble_eq_true rfl) rfl (fun hh7 eh7 => ?_)
                refine xi_iload (pc' := 150) (x := 99) kc_17_148 rfl rfl ?_
                refine xi_ireturn kc_17_150 mr_17 rfl ?_
                show xw J ov 100 196 (334, [(4, .int 0), (3, .ref 167), (2, .ref 115), (1, .ref 0), (0, .ref 1000000)], [.int 99, .int 99], hh7) _
                refine xi_cmt (pc' := 1528) kc_196_334 rfl rfl ?_
                refine xi_iinc (pc' := 1531) (x := 0) (v := 6) (lv' := [(4, .int 6), (3, .ref 167), (2, .ref 115), (1, .ref 0), (0, .ref 1000000)]) kc_196_1528 rfl rfl rfl rfl (xm_lt ml_196 rfl) ?_
                refine xi_goto (pc' := 23) kc_196_1531 rfl ?_
                refine xi_iload (pc' := 25) (x := 6) kc_196_23 rfl rfl ?_
                refine xi_aload_n (pc' := 26) (x := 1000000) kc_196_25 rfl rfl ?_
                refine xi_arraylength (pc' := 27) (n := 6) (v := 6) kc_196_26 rfl (xl_lenO (by decide) hov0 rfl) rfl ?_
                refine xi_bipush (pc' := 29) (v := 6) kc_196_27 rfl rfl ?_
                refine xi_isub (pc' := 30) (v := 0) kc_196_29 rfl rfl ?_
                refine xi_cmt (pc' := 1534) kc_196_30 rfl rfl ?_
                refine xi_iconst (pc' := 1535) (v := 1) kc_196_1534 rfl rfl ?_
                refine xi_ireturn kc_196_1535 mr_196 rfl ?_
                refine ⟨rfl, ?_, ?_⟩
                · rw [eh7.2.2.1, eh6.2.2.1, eh5.2.2.1, eh4.2.2.1, et3.2.2.2.1, eh2.2.2.1, eh1.2.2.1]; exact hn0
                · rw [eh7.2.2.2, eh6.2.2.2, eh5.2.2.2, eh4.2.2.2, et3.2.2.2.2, eh2.2.2.2, eh1.2.2.2]; exact hz0
            · refine xi_cmf (pc' := 71) kc_96_68 rfl (xc_le_f (X := a3.toInt) (Y := 20) rfl (by decide) (by omega)) ?_
              refine xi_iload_n (pc' := 72) (x := a3) kc_96_71 rfl rfl ?_
              refine xi_bipush (pc' := 74) (v := 99) kc_96_72 rfl rfl ?_
              by_cases c48 : a3.toInt = 99
              · refine xi_cmt (pc' := 84) kc_96_74 rfl (xc_eq_t (X := a3.toInt) (Y := 99) rfl (by decide) (by omega)) ?_
                refine xi_aload_n (pc' := 85) (x := 0) kc_96_84 rfl rfl ?_
                refine xi_getfield (pc' := 88) (v := .ref 66) kc_96_85 rfl rfl rfl (F 0 _ hl_0) rfl ?_
                refine xi_virtual (mj := 92) (as := []) (st1 := []) (lv0 := [(0, .ref 66)]) kc_96_88 rfl rfl rfl rfl rfl (F 66 _ hl_66) (Nat.le_of_ble_eq_true rfl) (hJ _ _ _ _ (by decide)) (xm_le ml_92 rfl) rfl ?_
                refine xi_aload_n (pc' := 1) (x := 66) kc_92_0 rfl rfl ?_
                refine xi_lconst (pc' := 2) (v := 0) kc_92_1 rfl rfl ?_
                refine xi_putfield (pc' := 5) (fs' := [.ref 1, .ref 67, .ref 70, .ref 71, .ref 72, .ref 73, .ref 74, .long 0, .int 0]) kc_92_2 rfl rfl rfl (F 66 _ hl_66) rfl rfl rfl (Nat.le_of_ble_eq_true rfl) rfl (fun hh1 eh1 => ?_)
                refine xi_return kc_92_5 mr_92 ?_
                show xw J ov 99 96 (91, [(5, .int 20), (4, .int 0), (0, .ref 0), (1, .int a1), (2, .int a2), (3, .int a3)], [], hh1) _
                refine xi_aload_n (pc' := 92) (x := 0) kc_96_91 rfl rfl ?_
                refine xi_getfield (pc' := 95) (v := .ref 1) kc_96_92 rfl rfl rfl ((eh1.2.1 0 (by decide)).trans (F 0 _ hl_0)) rfl ?_
                refine xi_iload_n (pc' := 96) (x := a2) kc_96_95 rfl rfl ?_
                refine xi_virtual (mj := 98) (as := [.int a2]) (st1 := []) (lv0 := [(0, .ref 1), (1, .int a2)]) kc_96_96 rfl rfl rfl rfl rfl ((eh1.2.1 1 (by decide)).trans (F 1 _ hl_1)) (Nat.le_of_ble_eq_true rfl) (hJ _ _ _ _ (by decide)) (xm_le ml_98 rfl) rfl ?_
                refine xi_iload_n (pc' := 1) (x := a2) kc_98_0 rfl rfl ?_
                refine xi_ift (pc' := 11) kc_98_1 rfl (xc_ne_t (X := a2.toInt) (Y := 0) rfl (by decide) (by omega)) ?_
                refine xi_aload_n (pc' := 12) (x := 1) kc_98_11 rfl rfl ?_
                refine xi_getfield (pc' := 15) (v := .ref 8) kc_98_12 rfl rfl rfl ((eh1.2.1 1 (by decide)).trans (F 1 _ hl_1)) rfl ?_
                refine xi_areturn kc_98_15 (by rw [mr_98]; rfl) ?_
                show xw J ov 99 96 (99, [(5, .int 20), (4, .int 0), (0, .ref 0), (1, .int a1), (2, .int a2), (3, .int a3)], [.ref 8], hh1) _
                refine xi_iload_n (pc' := 100) (x := a1) kc_96_99 rfl rfl ?_
                refine xi_iload_n (pc' := 101) (x := a3) kc_96_100 rfl rfl ?_
                refine xi_virtual (mj := 99) (as := [.int a1, .int a3]) (st1 := []) (lv0 := [(0, .ref 8), (1, .int a1), (2, .int a3)]) kc_96_101 rfl rfl rfl rfl rfl ((eh1.2.1 8 (by decide)).trans (F 8 _ hl_8)) (Nat.le_of_ble_eq_true rfl) (hJ _ _ _ _ (by decide)) (xm_le ml_99 rfl) rfl ?_
                refine xi_iload_n (pc' := 1) (x := a1) kc_99_0 rfl rfl ?_
                refine xi_iff (pc' := 4) kc_99_1 rfl (xc_lt_f (X := a1.toInt) (Y := 0) rfl (by decide) (by omega)) ?_
                refine xi_iload_n (pc' := 5) (x := a1) kc_99_4 rfl rfl ?_
                refine xi_aload_n (pc' := 6) (x := 8) kc_99_5 rfl rfl ?_
                refine xi_getfield (pc' := 9) (v := .ref 9) kc_99_6 rfl rfl rfl ((eh1.2.1 8 (by decide)).trans (F 8 _ hl_8)) rfl ?_
                refine xi_arraylength (pc' := 10) (n := 601) (v := 601) kc_99_9 rfl (xl_lenI (by decide) (by decide) ((eh1.2.1 9 (by decide)).trans (F 9 _ hl_9)) (by simp only [List.length_replicate, List.length_cons, List.length_nil])) rfl ?_
                refine xi_cmt (pc' := 16) kc_99_10 rfl (xc_lt_t (X := a1.toInt) (Y := 601) rfl (by decide) (by omega)) ?_
                refine xi_aload_n (pc' := 17) (x := 8) kc_99_16 rfl rfl ?_
                refine xi_getfield (pc' := 20) (v := .ref 9) kc_99_17 rfl rfl rfl ((eh1.2.1 8 (by decide)).trans (F 8 _ hl_8)) rfl ?_
                refine xi_iload_n (pc' := 21) (x := a1) kc_99_20 rfl rfl ?_
                refine xi_iaload (pc' := 22) (v := 99) kc_99_21 rfl ((eh1.2.1 9 (by decide)).trans (F 9 _ hl_9)) (by decide) rfl (xi_in (by omega) (by simp only [List.length_replicate]; omega)) (xa_rep (by omega) (by omega)) ?_
                refine xi_istore_n (pc' := 23) (lv' := [(3, .int 99), (0, .ref 8), (1, .int a1), (2, .int a3)]) kc_99_22 rfl rfl (xm_lt ml_99 rfl) ?_
                refine xi_aload_n (pc' := 24) (x := 8) kc_99_23 rfl rfl ?_
                refine xi_getfield (pc' := 27) (v := .ref 9) kc_99_24 rfl rfl rfl ((eh1.2.1 8 (by decide)).trans (F 8 _ hl_8)) rfl ?_
                refine xi_iload_n (pc' := 28) (x := a1) kc_99_27 rfl rfl ?_
                refine xi_iload_n (pc' := 29) (x := a3) kc_99_28 rfl rfl ?_
                have lq50 : (List.replicate 601 99 : List Int32).length = 601 := by simp only [List.length_replicate, List.length_cons, List.length_nil, List.length_set]
                obtain ⟨x49, hx49⟩ : ∃ q, (List.replicate 601 99 : List Int32).set (Int32.toNatClampNeg a1) (a3) = q := ⟨_, rfl⟩
                have lx49 : x49.length = 601 := by rw [← hx49, List.length_set]; exact lq50
                refine xi_iastore (pc' := 30) (x' := x49) kc_99_29 rfl ((eh1.2.1 9 (by decide)).trans (F 9 _ hl_9)) rfl (xi_in (by omega) (by rw [lq50]; omega)) hx49 (fun hh2 eh2 => ?_)
                refine xi_aload_n (pc' := 31) (x := 8) kc_99_30 rfl rfl ?_
                refine xi_iload_n (pc' := 32) (x := a1) kc_99_31 rfl rfl ?_
                refine xi_iconst (pc' := 33) (v := 1) kc_99_32 rfl rfl ?_
                obtain ⟨v51, ev51⟩ : ∃ q : Int32, a1 - 1 = q := ⟨_, rfl⟩
                have zv51 : v51.toInt = (a1.toInt + (-1)) := by rw [← ev51]; exact (xz_sub (X := a1.toInt) (Y := 1) rfl (by decide) (by omega) (by omega)).trans (by omega)
                refine xi_isub (pc' := 34) (v := v51) kc_99_33 rfl ev51 ?_
                refine xi_virtual (mj := 100) (as := [.int v51]) (st1 := []) (lv0 := [(0, .ref 8), (1, .int v51)]) kc_99_34 rfl rfl rfl rfl rfl ((eh2.2.1 8 (by decide)).trans ((eh1.2.1 8 (by decide)).trans (F 8 _ hl_8))) (Nat.le_of_ble_eq_true rfl) (hJ _ _ _ _ (by decide)) (xm_le ml_100 rfl) rfl ?_
                refine xi_iload_n (pc' := 1) (x := v51) kc_100_0 rfl rfl ?_
                by_cases c52 : (a1.toInt + (-1)) < 0
                · refine xi_ift (pc' := 13) kc_100_1 rfl (xc_lt_t (X := (a1.toInt + (-1))) (Y := 0) zv51 (by decide) (by omega)) ?_
                  refine xi_aload_n (pc' := 14) (x := 8) kc_100_13 rfl rfl ?_
                  refine xi_getfield (pc' := 17) (v := .int 0) kc_100_14 rfl rfl rfl ((eh2.2.1 8 (by decide)).trans ((eh1.2.1 8 (by decide)).trans (F 8 _ hl_8))) rfl ?_
                  refine xi_goto (pc' := 26) kc_100_17 rfl ?_
                  refine xi_ireturn kc_100_26 mr_100 rfl ?_
                  show xw J ov 98 99 (37, [(3, .int 99), (0, .ref 8), (1, .int a1), (2, .int a3)], [.int 0], hh2) _
                  refine xi_istore (pc' := 39) (lv' := [(4, .int 0), (3, .int 99), (0, .ref 8), (1, .int a1), (2, .int a3)]) kc_99_37 rfl rfl (xm_lt ml_99 rfl) ?_
                  refine xi_iload_n (pc' := 40) (x := a1) kc_99_39 rfl rfl ?_
                  refine xi_istore (pc' := 42) (lv' := [(5, .int a1), (4, .int 0), (3, .int 99), (0, .ref 8), (1, .int a1), (2, .int a3)]) kc_99_40 rfl rfl (xm_lt ml_99 rfl) ?_
                  refine lp_tell_rain (hr := a1) (v := a3) hJ ((eh2.2.1 8 (by decide)).trans ((eh1.2.1 8 (by decide)).trans (F 8 _ hl_8))) (fun y3 z3 hh3 ly3 lz3 et3 => ?_) 601 a1 0 x49 (List.replicate 601 0) hh2 (by omega) (by omega) (by omega) lx49 (by simp only [List.length_replicate]) ⟨eh2.1, ((eh2.2.1 10 (by decide)).trans ((eh1.2.1 10 (by decide)).trans (F 10 _ hl_10))), fun _ _ _ => rfl, rfl, rfl⟩
                  show xw J ov 99 96 (104, [(5, .int 20), (4, .int 0), (0, .ref 0), (1, .int a1), (2, .int a2), (3, .int a3)], [.int 99], hh3) _
                  refine xi_ireturn kc_96_104 mr_96 rfl ?_
                  show xw J ov 100 196 (312, [(4, .int 0), (3, .ref 167), (2, .ref 115), (1, .ref 0), (0, .ref 1000000)], [.int 99], hh3) _
                  refine xi_aload_n (pc' := 313) (x := 115) kc_196_312 rfl rfl ?_
                  refine xi_aload_n (pc' := 314) (x := 1000000) kc_196_313 rfl rfl ?_
                  refine xi_iload (pc' := 316) (x := 0) kc_196_314 rfl rfl ?_
                  refine xi_iconst (pc' := 317) (v := 1) kc_196_316 rfl rfl ?_
                  refine xi_iadd (pc' := 318) (v := 1) kc_196_317 rfl rfl ?_
                  refine xi_ialoadO (pc' := 319) (v := a1) kc_196_318 rfl (by decide) hov0 (xi_in (n := 6) (by decide) (by decide)) rfl ?_
                  refine xi_aload_n (pc' := 320) (x := 1000000) kc_196_319 rfl rfl ?_
                  refine xi_iload (pc' := 322) (x := 0) kc_196_320 rfl rfl ?_
                  refine xi_iconst (pc' := 323) (v := 2) kc_196_322 rfl rfl ?_
                  refine xi_iadd (pc' := 324) (v := 2) kc_196_323 rfl rfl ?_
                  refine xi_ialoadO (pc' := 325) (v := a2) kc_196_324 rfl (by decide) hov0 (xi_in (n := 6) (by decide) (by decide)) rfl ?_
                  refine xi_aload_n (pc' := 326) (x := 1000000) kc_196_325 rfl rfl ?_
                  refine xi_iload (pc' := 328) (x := 0) kc_196_326 rfl rfl ?_
                  refine xi_iconst (pc' := 329) (v := 3) kc_196_328 rfl rfl ?_
                  refine xi_iadd (pc' := 330) (v := 3) kc_196_329 rfl rfl ?_
                  refine xi_ialoadO (pc' := 331) (v := a3) kc_196_330 rfl (by decide) hov0 (xi_in (n := 6) (by decide) (by decide)) rfl ?_
                  refine xi_virtual (mj := 17) (as := [.int a1, .int a2, .int a3]) (st1 := [.int 99]) (lv0 := [(0, .ref 115), (1, .int a1), (2, .int a2), (3, .int a3)]) kc_196_331 rfl rfl rfl rfl rfl ((et3.2.2.1 115 (by decide) (by decide)).trans ((eh2.2.1 115 (by decide)).trans ((eh1.2.1 115 (by decide)).trans (F 115 _ hl_115)))) (Nat.le_of_ble_eq_true rfl) (hJ _ _ _ _ (by decide)) (xm_le ml_17 rfl) rfl ?_
                  refine xi_aload_n (pc' := 1) (x := 115) kc_17_0 rfl rfl ?_
                  refine xi_iconst (pc' := 2) (v := 0) kc_17_1 rfl rfl ?_
                  refine xi_putfield (pc' := 5) (fs' := [.int 0, .int 0, .ref 116, .ref 117, .ref 118, .ref 119, .ref 120, .ref 121, .ref 122, .ref 123, .ref 124, .ref 125, .ref 126, .ref 127, .ref 128, .ref 129, .int 4, .ref 130, .int 0, .ref 131, .ref 132, .ref 133, .ref 134, .int 0, .ref 135, .ref 136, .ref 137, .ref 138, .ref 139, .ref 140, .ref 141, .ref 142, .int 0, .int 0, .int 0, .ref 143, .ref 144, .ref 145, .ref 146, .ref 147, .ref 148, .int 0, .ref 149, .ref 150, .ref 151, .int 0, .ref 152, .ref 153, .ref 154, .ref 155, .ref 156, .ref 157, .ref 158, .ref 159, .int 0, .ref 160, .int 0, .ref 161, .ref 162, .ref 163, .ref 164, .int 0, .ref 165, .ref 166]) kc_17_2 rfl rfl rfl ((et3.2.2.1 115 (by decide) (by decide)).trans ((eh2.2.1 115 (by decide)).trans ((eh1.2.1 115 (by decide)).trans (F 115 _ hl_115)))) rfl rfl rfl (Nat.le_of_ble_eq_true rfl) rfl (fun hh4 eh4 => ?_)
                  refine xi_iload_n (pc' := 6) (x := a2) kc_17_5 rfl rfl ?_
                  refine xi_iconst (pc' := 7) (v := 0) kc_17_6 rfl rfl ?_
                  refine xi_iconst (pc' := 8) (v := 1) kc_17_7 rfl rfl ?_
                  refine xi_static (mj := 12) (as := [.int a2, .int 0, .int 1]) (st1 := []) (lv0 := [(0, .int a2), (1, .int 0), (2, .int 1)]) kc_17_8 rfl rfl (Nat.le_of_ble_eq_true rfl) rfl rfl (Nat.le_of_ble_eq_true rfl) (hJ _ _ _ _ (by decide)) (xm_le ml_12 rfl) rfl ?_
                  refine xi_iload_n (pc' := 1) (x := a2) kc_12_0 rfl rfl ?_
                  refine xi_iload_n (pc' := 2) (x := 0) kc_12_1 rfl rfl ?_
                  refine xi_cmf (pc' := 5) kc_12_2 rfl (xc_lt_f (X := a2.toInt) (Y := 0) rfl (by decide) (by omega)) ?_
                  refine xi_iload_n (pc' := 6) (x := a2) kc_12_5 rfl rfl ?_
                  refine xi_iload_n (pc' := 7) (x := 1) kc_12_6 rfl rfl ?_
                  refine xi_cmf (pc' := 10) kc_12_7 rfl (xc_gt_f (X := a2.toInt) (Y := 1) rfl (by decide) (by omega)) ?_
                  refine xi_iconst (pc' := 11) (v := 1) kc_12_10 rfl rfl ?_
                  refine xi_goto (pc' := 15) kc_12_11 rfl ?_
                  refine xi_ireturn kc_12_15 mr_12 rfl ?_
                  show xw J ov 99 17 (11, [(0, .ref 115), (1, .int a1), (2, .int a2), (3, .int a3)], [.int 1], hh4) _
                  refine xi_ift (pc' := 21) kc_17_11 rfl rfl ?_
                  refine xi_iload_n (pc' := 22) (x := a1) kc_17_21 rfl rfl ?_
                  refine xi_iff (pc' := 25) kc_17_22 rfl (xc_lt_f (X := a1.toInt) (Y := 0) rfl (by decide) (by omega)) ?_
                  refine xi_iload_n (pc' := 26) (x := a3) kc_17_25 rfl rfl ?_
                  refine xi_iload_n (pc' := 27) (x := a2) kc_17_26 rfl rfl ?_
                  refine xi_ift (pc' := 35) kc_17_27 rfl (xc_ne_t (X := a2.toInt) (Y := 0) rfl (by decide) (by omega)) ?_
                  refine xi_iconst (pc' := 36) (v := 0) kc_17_35 rfl rfl ?_
                  refine xi_cmt (pc' := 46) kc_17_36 rfl (xc_ge_t (X := a3.toInt) (Y := 0) rfl (by decide) (by omega)) ?_
                  refine xi_iload_n (pc' := 47) (x := a1) kc_17_46 rfl rfl ?_
                  refine xi_sipush (pc' := 50) (v := 599) kc_17_47 rfl rfl ?_
                  refine xi_cmf (pc' := 53) kc_17_50 rfl (xc_gt_f (X := a1.toInt) (Y := 599) rfl (by decide) (by omega)) ?_
                  refine xi_iload_n (pc' := 54) (x := a3) kc_17_53 rfl rfl ?_
                  refine xi_iload_n (pc' := 55) (x := a2) kc_17_54 rfl rfl ?_
                  refine xi_ift (pc' := 63) kc_17_55 rfl (xc_ne_t (X := a2.toInt) (Y := 0) rfl (by decide) (by omega)) ?_
                  refine xi_bipush (pc' := 65) (v := 20) kc_17_63 rfl rfl ?_
                  refine xi_cmf (pc' := 68) kc_17_65 rfl (xc_le_f (X := a3.toInt) (Y := 20) rfl (by decide) (by omega)) ?_
                  refine xi_iload_n (pc' := 69) (x := a3) kc_17_68 rfl rfl ?_
                  refine xi_bipush (pc' := 71) (v := 99) kc_17_69 rfl rfl ?_
                  refine xi_cmt (pc' := 81) kc_17_71 rfl (xc_eq_t (X := a3.toInt) (Y := 99) rfl (by decide) (by omega)) ?_
                  refine xi_iload_n (pc' := 82) (x := a2) kc_17_81 rfl rfl ?_
                  refine xi_ift (pc' := 94) kc_17_82 rfl (xc_ne_t (X := a2.toInt) (Y := 0) rfl (by decide) (by omega)) ?_
                  refine xi_aload_n (pc' := 95) (x := 115) kc_17_94 rfl rfl ?_
                  refine xi_getfield (pc' := 98) (v := .ref 124) kc_17_95 rfl rfl rfl eh4.1 rfl ?_
                  refine xi_iload_n (pc' := 99) (x := a1) kc_17_98 rfl rfl ?_
                  refine xi_iaload (pc' := 100) (v := 99) kc_17_99 rfl ((eh4.2.1 124 (by decide)).trans ((et3.2.2.1 124 (by decide) (by decide)).trans ((eh2.2.1 124 (by decide)).trans ((eh1.2.1 124 (by decide)).trans (F 124 _ hl_124))))) (by decide) rfl (xi_in (by omega) (by simp only [List.length_replicate]; omega)) (xa_rep (by omega) (by omega)) ?_
                  refine xi_istore (pc' := 102) (lv' := [(4, .int 99), (0, .ref 115), (1, .int a1), (2, .int a2), (3, .int a3)]) kc_17_100 rfl rfl (xm_lt ml_17 rfl) ?_
                  refine xi_aload_n (pc' := 103) (x := 115) kc_17_102 rfl rfl ?_
                  refine xi_getfield (pc' := 106) (v := .ref 123) kc_17_103 rfl rfl rfl eh4.1 rfl ?_
                  refine xi_iload_n (pc' := 107) (x := a1) kc_17_106 rfl rfl ?_
                  refine xi_iload_n (pc' := 108) (x := a2) kc_17_107 rfl rfl ?_
                  refine xi_ift (pc' := 115) kc_17_108 rfl (xc_ne_t (X := a2.toInt) (Y := 0) rfl (by decide) (by omega)) ?_
                  refine xi_aload_n (pc' := 116) (x := 115) kc_17_115 rfl rfl ?_
                  refine xi_getfield (pc' := 119) (v := .ref 123) kc_17_116 rfl rfl rfl eh4.1 rfl ?_
                  refine xi_iload_n (pc' := 120) (x := a1) kc_17_119 rfl rfl ?_
                  refine xi_iaload (pc' := 121) (v := 99) kc_17_120 rfl ((eh4.2.1 123 (by decide)).trans ((et3.2.2.1 123 (by decide) (by decide)).trans ((eh2.2.1 123 (by decide)).trans ((eh1.2.1 123 (by decide)).trans (F 123 _ hl_123))))) (by decide) rfl (xi_in (by omega) (by simp only [List.length_replicate]; omega)) (xa_rep (by omega) (by omega)) ?_
                  have lq54 : (List.replicate 600 99 : List Int32).length = 600 := by simp only [List.length_replicate, List.length_cons, List.length_nil, List.length_set]
                  obtain ⟨x53, hx53⟩ : ∃ q, (List.replicate 600 99 : List Int32).set (Int32.toNatClampNeg a1) (99) = q := ⟨_, rfl⟩
                  have lx53 : x53.length = 600 := by rw [← hx53, List.length_set]; exact lq54
                  refine xi_iastore (pc' := 122) (x' := x53) kc_17_121 rfl ((eh4.2.1 123 (by decide)).trans ((et3.2.2.1 123 (by decide) (by decide)).trans ((eh2.2.1 123 (by decide)).trans ((eh1.2.1 123 (by decide)).trans (F 123 _ hl_123))))) rfl (xi_in (by omega) (by rw [lq54]; omega)) hx53 (fun hh5 eh5 => ?_)
                  refine xi_aload_n (pc' := 123) (x := 115) kc_17_122 rfl rfl ?_
                  refine xi_getfield (pc' := 126) (v := .ref 124) kc_17_123 rfl rfl rfl ((eh5.2.1 115 (by decide)).trans eh4.1) rfl ?_
                  refine xi_iload_n (pc' := 127) (x := a1) kc_17_126 rfl rfl ?_
                  refine xi_iload_n (pc' := 128) (x := a2) kc_17_127 rfl rfl ?_
                  refine xi_iconst (pc' := 129) (v := 1) kc_17_128 rfl rfl ?_
                  refine xi_cmf (pc' := 132) kc_17_129 rfl (xc_ne_f (X := a2.toInt) (Y := 1) rfl (by decide) (by omega)) ?_
                  refine xi_iload_n (pc' := 133) (x := a3) kc_17_132 rfl rfl ?_
                  refine xi_goto (pc' := 142) kc_17_133 rfl ?_
                  have lq56 : (List.replicate 600 99 : List Int32).length = 600 := by simp only [List.length_replicate, List.length_cons, List.length_nil, List.length_set]
                  obtain ⟨x55, hx55⟩ : ∃ q, (List.replicate 600 99 : List Int32).set (Int32.toNatClampNeg a1) (a3) = q := ⟨_, rfl⟩
                  have lx55 : x55.length = 600 := by rw [← hx55, List.length_set]; exact lq56
                  refine xi_iastore (pc' := 143) (x' := x55) kc_17_142 rfl ((eh5.2.1 124 (by decide)).trans ((eh4.2.1 124 (by decide)).trans ((et3.2.2.1 124 (by decide) (by decide)).trans ((eh2.2.1 124 (by decide)).trans ((eh1.2.1 124 (by decide)).trans (F 124 _ hl_124)))))) rfl (xi_in (by omega) (by rw [lq56]; omega)) hx55 (fun hh6 eh6 => ?_)
                  refine xi_aload_n (pc' := 144) (x := 115) kc_17_143 rfl rfl ?_
                  refine xi_iconst (pc' := 145) (v := 0) kc_17_144 rfl rfl ?_
                  refine xi_putfield (pc' := 148) (fs' := [.int 0, .int 0, .ref 116, .ref 117, .ref 118, .ref 119, .ref 120, .ref 121, .ref 122, .ref 123, .ref 124, .ref 125, .ref 126, .ref 127, .ref 128, .ref 129, .int 4, .ref 130, .int 0, .ref 131, .ref 132, .ref 133, .ref 134, .int 0, .ref 135, .ref 136, .ref 137, .ref 138, .ref 139, .ref 140, .ref 141, .ref 142, .int 0, .int 0, .int 0, .ref 143, .ref 144, .ref 145, .ref 146, .ref 147, .ref 148, .int 0, .ref 149, .ref 150, .ref 151, .int 0, .ref 152, .ref 153, .ref 154, .ref 155, .ref 156, .ref 157, .ref 158, .ref 159, .int 0, .ref 160, .int 0, .ref 161, .ref 162, .ref 163, .ref 164, .int 0, .ref 165, .ref 166]) kc_17_145 rfl rfl rfl ((eh6.2.1 115 (by decide)).trans ((eh5.2.1 115 (by decide)).trans eh4.1)) rfl rfl rfl (Nat.le_of_ble_eq_true rfl) rfl (fun hh7 eh7 => ?_)
                  refine xi_iload (pc' := 150) (x := 99) kc_17_148 rfl rfl ?_
                  refine xi_ireturn kc_17_150 mr_17 rfl ?_
                  show xw J ov 100 196 (334, [(4, .int 0), (3, .ref 167), (2, .ref 115), (1, .ref 0), (0, .ref 1000000)], [.int 99, .int 99], hh7) _
                  refine xi_cmt (pc' := 1528) kc_196_334 rfl rfl ?_
                  refine xi_iinc (pc' := 1531) (x := 0) (v := 6) (lv' := [(4, .int 6), (3, .ref 167), (2, .ref 115), (1, .ref 0), (0, .ref 1000000)]) kc_196_1528 rfl rfl rfl rfl (xm_lt ml_196 rfl) ?_
                  refine xi_goto (pc' := 23) kc_196_1531 rfl ?_
                  refine xi_iload (pc' := 25) (x := 6) kc_196_23 rfl rfl ?_
                  refine xi_aload_n (pc' := 26) (x := 1000000) kc_196_25 rfl rfl ?_
                  refine xi_arraylength (pc' := 27) (n := 6) (v := 6) kc_196_26 rfl (xl_lenO (by decide) hov0 rfl) rfl ?_
                  refine xi_bipush (pc' := 29) (v := 6) kc_196_27 rfl rfl ?_
                  refine xi_isub (pc' := 30) (v := 0) kc_196_29 rfl rfl ?_
                  refine xi_cmt (pc' := 1534) kc_196_30 rfl rfl ?_
                  refine xi_iconst (pc' := 1535) (v := 1) kc_196_1534 rfl rfl ?_
                  refine xi_ireturn kc_196_1535 mr_196 rfl ?_
                  refine ⟨rfl, ?_, ?_⟩
                  · rw [eh7.2.2.1, eh6.2.2.1, eh5.2.2.1, eh4.2.2.1, et3.2.2.2.1, eh2.2.2.1, eh1.2.2.1]; exact hn0
                  · rw [eh7.2.2.2, eh6.2.2.2, eh5.2.2.2, eh4.2.2.2, et3.2.2.2.2, eh2.2.2.2, eh1.2.2.2]; exact hz0
                · refine xi_iff (pc' := 4) kc_100_1 rfl (xc_lt_f (X := (a1.toInt + (-1))) (Y := 0) zv51 (by decide) (by omega)) ?_
                  refine xi_iload_n (pc' := 5) (x := v51) kc_100_4 rfl rfl ?_
                  refine xi_aload_n (pc' := 6) (x := 8) kc_100_5 rfl rfl ?_
                  refine xi_getfield (pc' := 9) (v := .ref 10) kc_100_6 rfl rfl rfl ((eh2.2.1 8 (by decide)).trans ((eh1.2.1 8 (by decide)).trans (F 8 _ hl_8))) rfl ?_
                  refine xi_arraylength (pc' := 10) (n := 601) (v := 601) kc_100_9 rfl (xl_lenI (by decide) (by decide) ((eh2.2.1 10 (by decide)).trans ((eh1.2.1 10 (by decide)).trans (F 10 _ hl_10))) (by simp only [List.length_replicate, List.length_cons, List.length_nil])) rfl ?_
                  refine xi_cmt (pc' := 20) kc_100_10 rfl (xc_lt_t (X := (a1.toInt + (-1))) (Y := 601) zv51 (by decide) (by omega)) ?_
                  refine xi_aload_n (pc' := 21) (x := 8) kc_100_20 rfl rfl ?_
                  refine xi_getfield (pc' := 24) (v := .ref 10) kc_100_21 rfl rfl rfl ((eh2.2.1 8 (by decide)).trans ((eh1.2.1 8 (by decide)).trans (F 8 _ hl_8))) rfl ?_
                  refine xi_iload_n (pc' := 25) (x := v51) kc_100_24 rfl rfl ?_
                  refine xi_iaload (pc' := 26) (v := 0) kc_100_25 rfl ((eh2.2.1 10 (by decide)).trans ((eh1.2.1 10 (by decide)).trans (F 10 _ hl_10))) (by decide) rfl (xi_in (by rw [zv51]; omega) (by rw [zv51]; simp only [List.length_replicate]; omega)) (xa_rep (by rw [zv51]; omega) (by rw [zv51]; omega)) ?_
                  refine xi_ireturn kc_100_26 mr_100 rfl ?_
                  show xw J ov 98 99 (37, [(3, .int 99), (0, .ref 8), (1, .int a1), (2, .int a3)], [.int 0], hh2) _
                  refine xi_istore (pc' := 39) (lv' := [(4, .int 0), (3, .int 99), (0, .ref 8), (1, .int a1), (2, .int a3)]) kc_99_37 rfl rfl (xm_lt ml_99 rfl) ?_
                  refine xi_iload_n (pc' := 40) (x := a1) kc_99_39 rfl rfl ?_
                  refine xi_istore (pc' := 42) (lv' := [(5, .int a1), (4, .int 0), (3, .int 99), (0, .ref 8), (1, .int a1), (2, .int a3)]) kc_99_40 rfl rfl (xm_lt ml_99 rfl) ?_
                  refine lp_tell_rain (hr := a1) (v := a3) hJ ((eh2.2.1 8 (by decide)).trans ((eh1.2.1 8 (by decide)).trans (F 8 _ hl_8))) (fun y3 z3 hh3 ly3 lz3 et3 => ?_) 601 a1 0 x49 (List.replicate 601 0) hh2 (by omega) (by omega) (by omega) lx49 (by simp only [List.length_replicate]) ⟨eh2.1, ((eh2.2.1 10 (by decide)).trans ((eh1.2.1 10 (by decide)).trans (F 10 _ hl_10))), fun _ _ _ => rfl, rfl, rfl⟩
                  show xw J ov 99 96 (104, [(5, .int 20), (4, .int 0), (0, .ref 0), (1, .int a1), (2, .int a2), (3, .int a3)], [.int 99], hh3) _
                  refine xi_ireturn kc_96_104 mr_96 rfl ?_
                  show xw J ov 100 196 (312, [(4, .int 0), (3, .ref 167), (2, .ref 115), (1, .ref 0), (0, .ref 1000000)], [.int 99], hh3) _
                  refine xi_aload_n (pc' := 313) (x := 115) kc_196_312 rfl rfl ?_
                  refine xi_aload_n (pc' := 314) (x := 1000000) kc_196_313 rfl rfl ?_
                  refine xi_iload (pc' := 316) (x := 0) kc_196_314 rfl rfl ?_
                  refine xi_iconst (pc' := 317) (v := 1) kc_196_316 rfl rfl ?_
                  refine xi_iadd (pc' := 318) (v := 1) kc_196_317 rfl rfl ?_
                  refine xi_ialoadO (pc' := 319) (v := a1) kc_196_318 rfl (by decide) hov0 (xi_in (n := 6) (by decide) (by decide)) rfl ?_
                  refine xi_aload_n (pc' := 320) (x := 1000000) kc_196_319 rfl rfl ?_
                  refine xi_iload (pc' := 322) (x := 0) kc_196_320 rfl rfl ?_
                  refine xi_iconst (pc' := 323) (v := 2) kc_196_322 rfl rfl ?_
                  refine xi_iadd (pc' := 324) (v := 2) kc_196_323 rfl rfl ?_
                  refine xi_ialoadO (pc' := 325) (v := a2) kc_196_324 rfl (by decide) hov0 (xi_in (n := 6) (by decide) (by decide)) rfl ?_
                  refine xi_aload_n (pc' := 326) (x := 1000000) kc_196_325 rfl rfl ?_
                  refine xi_iload (pc' := 328) (x := 0) kc_196_326 rfl rfl ?_
                  refine xi_iconst (pc' := 329) (v := 3) kc_196_328 rfl rfl ?_
                  refine xi_iadd (pc' := 330) (v := 3) kc_196_329 rfl rfl ?_
                  refine xi_ialoadO (pc' := 331) (v := a3) kc_196_330 rfl (by decide) hov0 (xi_in (n := 6) (by decide) (by decide)) rfl ?_
                  refine xi_virtual (mj := 17) (as := [.int a1, .int a2, .int a3]) (st1 := [.int 99]) (lv0 := [(0, .ref 115), (1, .int a1), (2, .int a2), (3, .int a3)]) kc_196_331 rfl rfl rfl rfl rfl ((et3.2.2.1 115 (by decide) (by decide)).trans ((eh2.2.1 115 (by decide)).trans ((eh1.2.1 115 (by decide)).trans (F 115 _ hl_115)))) (Nat.le_of_ble_eq_true rfl) (hJ _ _ _ _ (by decide)) (xm_le ml_17 rfl) rfl ?_
                  refine xi_aload_n (pc' := 1) (x := 115) kc_17_0 rfl rfl ?_
                  refine xi_iconst (pc' := 2) (v := 0) kc_17_1 rfl rfl ?_
                  refine xi_putfield (pc' := 5) (fs' := [.int 0, .int 0, .ref 116, .ref 117, .ref 118, .ref 119, .ref 120, .ref 121, .ref 122, .ref 123, .ref 124, .ref 125, .ref 126, .ref 127, .ref 128, .ref 129, .int 4, .ref 130, .int 0, .ref 131, .ref 132, .ref 133, .ref 134, .int 0, .ref 135, .ref 136, .ref 137, .ref 138, .ref 139, .ref 140, .ref 141, .ref 142, .int 0, .int 0, .int 0, .ref 143, .ref 144, .ref 145, .ref 146, .ref 147, .ref 148, .int 0, .ref 149, .ref 150, .ref 151, .int 0, .ref 152, .ref 153, .ref 154, .ref 155, .ref 156, .ref 157, .ref 158, .ref 159, .int 0, .ref 160, .int 0, .ref 161, .ref 162, .ref 163, .ref 164, .int 0, .ref 165, .ref 166]) kc_17_2 rfl rfl rfl ((et3.2.2.1 115 (by decide) (by decide)).trans ((eh2.2.1 115 (by decide)).trans ((eh1.2.1 115 (by decide)).trans (F 115 _ hl_115)))) rfl rfl rfl (Nat.le_of_ble_eq_true rfl) rfl (fun hh4 eh4 => ?_)
                  refine xi_iload_n (pc' := 6) (x := a2) kc_17_5 rfl rfl ?_
                  refine xi_iconst (pc' := 7) (v := 0) kc_17_6 rfl rfl ?_
                  refine xi_iconst (pc' := 8) (v := 1) kc_17_7 rfl rfl ?_
                  refine xi_static (mj := 12) (as := [.int a2, .int 0, .int 1]) (st1 := []) (lv0 := [(0, .int a2), (1, .int 0), (2, .int 1)]) kc_17_8 rfl rfl (Nat.le_of_ble_eq_true rfl) rfl rfl (Nat.le_of_ble_eq_true rfl) (hJ _ _ _ _ (by decide)) (xm_le ml_12 rfl) rfl ?_
                  refine xi_iload_n (pc' := 1) (x := a2) kc_12_0 rfl rfl ?_
                  refine xi_iload_n (pc' := 2) (x := 0) kc_12_1 rfl rfl ?_
                  refine xi_cmf (pc' := 5) kc_12_2 rfl (xc_lt_f (X := a2.toInt) (Y := 0) rfl (by decide) (by omega)) ?_
                  refine xi_iload_n (pc' := 6) (x := a2) kc_12_5 rfl rfl ?_
                  refine xi_iload_n (pc' := 7) (x := 1) kc_12_6 rfl rfl ?_
                  refine xi_cmf (pc' := 10) kc_12_7 rfl (xc_gt_f (X := a2.toInt) (Y := 1) rfl (by decide) (by omega)) ?_
                  refine xi_iconst (pc' := 11) (v := 1) kc_12_10 rfl rfl ?_
                  refine xi_goto (pc' := 15) kc_12_11 rfl ?_
                  refine xi_ireturn kc_12_15 mr_12 rfl ?_
                  show xw J ov 99 17 (11, [(0, .ref 115), (1, .int a1), (2, .int a2), (3, .int a3)], [.int 1], hh4) _
                  refine xi_ift (pc' := 21) kc_17_11 rfl rfl ?_
                  refine xi_iload_n (pc' := 22) (x := a1) kc_17_21 rfl rfl ?_
                  refine xi_iff (pc' := 25) kc_17_22 rfl (xc_lt_f (X := a1.toInt) (Y := 0) rfl (by decide) (by omega)) ?_
                  refine xi_iload_n (pc' := 26) (x := a3) kc_17_25 rfl rfl ?_
                  refine xi_iload_n (pc' := 27) (x := a2) kc_17_26 rfl rfl ?_
                  refine xi_ift (pc' := 35) kc_17_27 rfl (xc_ne_t (X := a2.toInt) (Y := 0) rfl (by decide) (by omega)) ?_
                  refine xi_iconst (pc' := 36) (v := 0) kc_17_35 rfl rfl ?_
                  refine xi_cmt (pc' := 46) kc_17_36 rfl (xc_ge_t (X := a3.toInt) (Y := 0) rfl (by decide) (by omega)) ?_
                  refine xi_iload_n (pc' := 47) (x := a1) kc_17_46 rfl rfl ?_
                  refine xi_sipush (pc' := 50) (v := 599) kc_17_47 rfl rfl ?_
                  refine xi_cmf (pc' := 53) kc_17_50 rfl (xc_gt_f (X := a1.toInt) (Y := 599) rfl (by decide) (by omega)) ?_
                  refine xi_iload_n (pc' := 54) (x := a3) kc_17_53 rfl rfl ?_
                  refine xi_iload_n (pc' := 55) (x := a2) kc_17_54 rfl rfl ?_
                  refine xi_ift (pc' := 63) kc_17_55 rfl (xc_ne_t (X := a2.toInt) (Y := 0) rfl (by decide) (by omega)) ?_
                  refine xi_bipush (pc' := 65) (v := 20) kc_17_63 rfl rfl ?_
                  refine xi_cmf (pc' := 68) kc_17_65 rfl (xc_le_f (X := a3.toInt) (Y := 20) rfl (by decide) (by omega)) ?_
                  refine xi_iload_n (pc' := 69) (x := a3) kc_17_68 rfl rfl ?_
                  refine xi_bipush (pc' := 71) (v := 99) kc_17_69 rfl rfl ?_
                  refine xi_cmt (pc' := 81) kc_17_71 rfl (xc_eq_t (X := a3.toInt) (Y := 99) rfl (by decide) (by omega)) ?_
                  refine xi_iload_n (pc' := 82) (x := a2) kc_17_81 rfl rfl ?_
                  refine xi_ift (pc' := 94) kc_17_82 rfl (xc_ne_t (X := a2.toInt) (Y := 0) rfl (by decide) (by omega)) ?_
                  refine xi_aload_n (pc' := 95) (x := 115) kc_17_94 rfl rfl ?_
                  refine xi_getfield (pc' := 98) (v := .ref 124) kc_17_95 rfl rfl rfl eh4.1 rfl ?_
                  refine xi_iload_n (pc' := 99) (x := a1) kc_17_98 rfl rfl ?_
                  refine xi_iaload (pc' := 100) (v := 99) kc_17_99 rfl ((eh4.2.1 124 (by decide)).trans ((et3.2.2.1 124 (by decide) (by decide)).trans ((eh2.2.1 124 (by decide)).trans ((eh1.2.1 124 (by decide)).trans (F 124 _ hl_124))))) (by decide) rfl (xi_in (by omega) (by simp only [List.length_replicate]; omega)) (xa_rep (by omega) (by omega)) ?_
                  refine xi_istore (pc' := 102) (lv' := [(4, .int 99), (0, .ref 115), (1, .int a1), (2, .int a2), (3, .int a3)]) kc_17_100 rfl rfl (xm_lt ml_17 rfl) ?_
                  refine xi_aload_n (pc' := 103) (x := 115) kc_17_102 rfl rfl ?_
                  refine xi_getfield (pc' := 106) (v := .ref 123) kc_17_103 rfl rfl rfl eh4.1 rfl ?_
                  refine xi_iload_n (pc' := 107) (x := a1) kc_17_106 rfl rfl ?_
                  refine xi_iload_n (pc' := 108) (x := a2) kc_17_107 rfl rfl ?_
                  refine xi_ift (pc' := 115) kc_17_108 rfl (xc_ne_t (X := a2.toInt) (Y := 0) rfl (by decide) (by omega)) ?_
                  refine xi_aload_n (pc' := 116) (x := 115) kc_17_115 rfl rfl ?_
                  refine xi_getfield (pc' := 119) (v := .ref 123) kc_17_116 rfl rfl rfl eh4.1 rfl ?_
                  refine xi_iload_n (pc' := 120) (x := a1) kc_17_119 rfl rfl ?_
                  refine xi_iaload (pc' := 121) (v := 99) kc_17_120 rfl ((eh4.2.1 123 (by decide)).trans ((et3.2.2.1 123 (by decide) (by decide)).trans ((eh2.2.1 123 (by decide)).trans ((eh1.2.1 123 (by decide)).trans (F 123 _ hl_123))))) (by decide) rfl (xi_in (by omega) (by simp only [List.length_replicate]; omega)) (xa_rep (by omega) (by omega)) ?_
                  have lq58 : (List.replicate 600 99 : List Int32).length = 600 := by simp only [List.length_replicate, List.length_cons, List.length_nil, List.length_set]
                  obtain ⟨x57, hx57⟩ : ∃ q, (List.replicate 600 99 : List Int32).set (Int32.toNatClampNeg a1) (99) = q := ⟨_, rfl⟩
                  have lx57 : x57.length = 600 := by rw [← hx57, List.length_set]; exact lq58
                  refine xi_iastore (pc' := 122) (x' := x57) kc_17_121 rfl ((eh4.2.1 123 (by decide)).trans ((et3.2.2.1 123 (by decide) (by decide)).trans ((eh2.2.1 123 (by decide)).trans ((eh1.2.1 123 (by decide)).trans (F 123 _ hl_123))))) rfl (xi_in (by omega) (by rw [lq58]; omega)) hx57 (fun hh5 eh5 => ?_)
                  refine xi_aload_n (pc' := 123) (x := 115) kc_17_122 rfl rfl ?_
                  refine xi_getfield (pc' := 126) (v := .ref 124) kc_17_123 rfl rfl rfl ((eh5.2.1 115 (by decide)).trans eh4.1) rfl ?_
                  refine xi_iload_n (pc' := 127) (x := a1) kc_17_126 rfl rfl ?_
                  refine xi_iload_n (pc' := 128) (x := a2) kc_17_127 rfl rfl ?_
                  refine xi_iconst (pc' := 129) (v := 1) kc_17_128 rfl rfl ?_
                  refine xi_cmf (pc' := 132) kc_17_129 rfl (xc_ne_f (X := a2.toInt) (Y := 1) rfl (by decide) (by omega)) ?_
                  refine xi_iload_n (pc' := 133) (x := a3) kc_17_132 rfl rfl ?_
                  refine xi_goto (pc' := 142) kc_17_133 rfl ?_
                  have lq60 : (List.replicate 600 99 : List Int32).length = 600 := by simp only [List.length_replicate, List.length_cons, List.length_nil, List.length_set]
                  obtain ⟨x59, hx59⟩ : ∃ q, (List.replicate 600 99 : List Int32).set (Int32.toNatClampNeg a1) (a3) = q := ⟨_, rfl⟩
                  have lx59 : x59.length = 600 := by rw [← hx59, List.length_set]; exact lq60
                  refine xi_iastore (pc' := 143) (x' := x59) kc_17_142 rfl ((eh5.2.1 124 (by decide)).trans ((eh4.2.1 124 (by decide)).trans ((et3.2.2.1 124 (by decide) (by decide)).trans ((eh2.2.1 124 (by decide)).trans ((eh1.2.1 124 (by decide)).trans (F 124 _ hl_124)))))) rfl (xi_in (by omega) (by rw [lq60]; omega)) hx59 (fun hh6 eh6 => ?_)
                  refine xi_aload_n (pc' := 144) (x := 115) kc_17_143 rfl rfl ?_
                  refine xi_iconst (pc' := 145) (v := 0) kc_17_144 rfl rfl ?_
                  refine xi_putfield (pc' := 148) (fs' := [.int 0, .int 0, .ref 116, .ref 117, .ref 118, .ref 119, .ref 120, .ref 121, .ref 122, .ref 123, .ref 124, .ref 125, .ref 126, .ref 127, .ref 128, .ref 129, .int 4, .ref 130, .int 0, .ref 131, .ref 132, .ref 133, .ref 134, .int 0, .ref 135, .ref 136, .ref 137, .ref 138, .ref 139, .ref 140, .ref 141, .ref 142, .int 0, .int 0, .int 0, .ref 143, .ref 144, .ref 145, .ref 146, .ref 147, .ref 148, .int 0, .ref 149, .ref 150, .ref 151, .int 0, .ref 152, .ref 153, .ref 154, .ref 155, .ref 156, .ref 157, .ref 158, .ref 159, .int 0, .ref 160, .int 0, .ref 161, .ref 162, .ref 163, .ref 164, .int 0, .ref 165, .ref 166]) kc_17_145 rfl rfl rfl ((eh6.2.1 115 (by decide)).trans ((eh5.2.1 115 (by decide)).trans eh4.1)) rfl rfl rfl (Nat.le_of_ble_eq_true rfl) rfl (fun hh7 eh7 => ?_)
                  refine xi_iload (pc' := 150) (x := 99) kc_17_148 rfl rfl ?_
                  refine xi_ireturn kc_17_150 mr_17 rfl ?_
                  show xw J ov 100 196 (334, [(4, .int 0), (3, .ref 167), (2, .ref 115), (1, .ref 0), (0, .ref 1000000)], [.int 99, .int 99], hh7) _
                  refine xi_cmt (pc' := 1528) kc_196_334 rfl rfl ?_
                  refine xi_iinc (pc' := 1531) (x := 0) (v := 6) (lv' := [(4, .int 6), (3, .ref 167), (2, .ref 115), (1, .ref 0), (0, .ref 1000000)]) kc_196_1528 rfl rfl rfl rfl (xm_lt ml_196 rfl) ?_
                  refine xi_goto (pc' := 23) kc_196_1531 rfl ?_
                  refine xi_iload (pc' := 25) (x := 6) kc_196_23 rfl rfl ?_
                  refine xi_aload_n (pc' := 26) (x := 1000000) kc_196_25 rfl rfl ?_
                  refine xi_arraylength (pc' := 27) (n := 6) (v := 6) kc_196_26 rfl (xl_lenO (by decide) hov0 rfl) rfl ?_
                  refine xi_bipush (pc' := 29) (v := 6) kc_196_27 rfl rfl ?_
                  refine xi_isub (pc' := 30) (v := 0) kc_196_29 rfl rfl ?_
                  refine xi_cmt (pc' := 1534) kc_196_30 rfl rfl ?_
                  refine xi_iconst (pc' := 1535) (v := 1) kc_196_1534 rfl rfl ?_
                  refine xi_ireturn kc_196_1535 mr_196 rfl ?_
                  refine ⟨rfl, ?_, ?_⟩
                  · rw [eh7.2.2.1, eh6.2.2.1, eh5.2.2.1, eh4.2.2.1, et3.2.2.2.1, eh2.2.2.1, eh1.2.2.1]; exact hn0
                  · rw [eh7.2.2.2, eh6.2.2.2, eh5.2.2.2, eh4.2.2.2, et3.2.2.2.2, eh2.2.2.2, eh1.2.2.2]; exact hz0
              · refine xi_cmf (pc' := 77) kc_96_74 rfl (xc_eq_f (X := a3.toInt) (Y := 99) rfl (by decide) (by omega)) ?_
                refine xi_aload_n (pc' := 78) (x := 0) kc_96_77 rfl rfl ?_
                refine xi_bipush (pc' := 80) (v := (-6)) kc_96_78 rfl rfl ?_
                refine xi_virtual (mj := 97) (as := [.int (-6)]) (st1 := []) (lv0 := [(0, .ref 0), (1, .int (-6))]) kc_96_80 rfl rfl rfl rfl rfl (F 0 _ hl_0) (Nat.le_of_ble_eq_true rfl) (hJ _ _ _ _ (by decide)) (xm_le ml_97 rfl) rfl ?_
                refine xi_ldc_w (pc' := 3) (v := 1000000000) kc_97_0 rfl rfl ?_
                refine xi_aload_n (pc' := 4) (x := 0) kc_97_3 rfl rfl ?_
                refine xi_iload_n (pc' := 5) (x := (-6)) kc_97_4 rfl rfl ?_
                refine xi_virtual (mj := 91) (as := [.int (-6)]) (st1 := [.int 1000000000]) (lv0 := [(0, .ref 0), (1, .int (-6))]) kc_97_5 rfl rfl rfl rfl rfl (F 0 _ hl_0) (Nat.le_of_ble_eq_true rfl) (hJ _ _ _ _ (by decide)) (xm_le ml_91 rfl) rfl ?_
                refine xi_iload_n (pc' := 1) (x := (-6)) kc_91_0 rfl rfl ?_
                refine xi_ineg (pc' := 2) (v := 6) kc_91_1 rfl rfl ?_
                refine xi_istore_n (pc' := 3) (lv' := [(2, .int 6), (0, .ref 0), (1, .int (-6))]) kc_91_2 rfl rfl (xm_lt ml_91 rfl) ?_
                refine xi_iload_n (pc' := 4) (x := 6) kc_91_3 rfl rfl ?_
                refine xi_iff (pc' := 7) kc_91_4 rfl rfl ?_
                refine xi_iload_n (pc' := 8) (x := 6) kc_91_7 rfl rfl ?_
                refine xi_aload_n (pc' := 9) (x := 0) kc_91_8 rfl rfl ?_
                refine xi_getfield (pc' := 12) (v := .ref 94) kc_91_9 rfl rfl rfl (F 0 _ hl_0) rfl ?_
                refine xi_arraylength (pc' := 13) (n := 7) (v := 7) kc_91_12 rfl (xl_lenI (by decide) (by decide) (F 94 _ hl_94) (by simp only [List.length_replicate, List.length_cons, List.length_nil])) rfl ?_
                refine xi_cmf (pc' := 16) kc_91_13 rfl rfl ?_
                refine xi_aload_n (pc' := 17) (x := 0) kc_91_16 rfl rfl ?_
                refine xi_getfield (pc' := 20) (v := .ref 94) kc_91_17 rfl rfl rfl (F 0 _ hl_0) rfl ?_
                refine xi_iload_n (pc' := 21) (x := 6) kc_91_20 rfl rfl ?_
                refine xi_dup2 (pc' := 22) kc_91_21 rfl ⟨rfl, rfl⟩ ?_
                refine xi_iaload (pc' := 23) (v := 0) kc_91_22 rfl (F 94 _ hl_94) (by decide) rfl (xi_in (n := 7) (by decide) (by decide)) rfl ?_
                refine xi_iconst (pc' := 24) (v := 1) kc_91_23 rfl rfl ?_
                refine xi_iadd (pc' := 25) (v := 1) kc_91_24 rfl rfl ?_
                refine xi_iastore (pc' := 26) (x' := [0, 0, 0, 0, 0, 0, 1]) kc_91_25 rfl (F 94 _ hl_94) rfl (xi_in (n := 7) (by decide) (by decide)) rfl (fun hh1 eh1 => ?_)
                refine xi_iload_n (pc' := 27) (x := (-6)) kc_91_26 rfl rfl ?_
                refine xi_ireturn kc_91_27 mr_91 rfl ?_
                show xw J ov 98 97 (8, [(0, .ref 0), (1, .int (-6))], [.int (-6), .int 1000000000], hh1) _
                refine xi_isub (pc' := 9) (v := 1000000006) kc_97_8 rfl rfl ?_
                refine xi_ireturn kc_97_9 mr_97 rfl ?_
                show xw J ov 99 96 (83, [(5, .int 20), (4, .int 0), (0, .ref 0), (1, .int a1), (2, .int a2), (3, .int a3)], [.int 1000000006], hh1) _
                refine xi_ireturn kc_96_83 mr_96 rfl ?_
                show xw J ov 100 196 (312, [(4, .int 0), (3, .ref 167), (2, .ref 115), (1, .ref 0), (0, .ref 1000000)], [.int 1000000006], hh1) _
                refine xi_aload_n (pc' := 313) (x := 115) kc_196_312 rfl rfl ?_
                refine xi_aload_n (pc' := 314) (x := 1000000) kc_196_313 rfl rfl ?_
                refine xi_iload (pc' := 316) (x := 0) kc_196_314 rfl rfl ?_
                refine xi_iconst (pc' := 317) (v := 1) kc_196_316 rfl rfl ?_
                refine xi_iadd (pc' := 318) (v := 1) kc_196_317 rfl rfl ?_
                refine xi_ialoadO (pc' := 319) (v := a1) kc_196_318 rfl (by decide) hov0 (xi_in (n := 6) (by decide) (by decide)) rfl ?_
                refine xi_aload_n (pc' := 320) (x := 1000000) kc_196_319 rfl rfl ?_
                refine xi_iload (pc' := 322) (x := 0) kc_196_320 rfl rfl ?_
                refine xi_iconst (pc' := 323) (v := 2) kc_196_322 rfl rfl ?_
                refine xi_iadd (pc' := 324) (v := 2) kc_196_323 rfl rfl ?_
                refine xi_ialoadO (pc' := 325) (v := a2) kc_196_324 rfl (by decide) hov0 (xi_in (n := 6) (by decide) (by decide)) rfl ?_
                refine xi_aload_n (pc' := 326) (x := 1000000) kc_196_325 rfl rfl ?_
                refine xi_iload (pc' := 328) (x := 0) kc_196_326 rfl rfl ?_
                refine xi_iconst (pc' := 329) (v := 3) kc_196_328 rfl rfl ?_
                refine xi_iadd (pc' := 330) (v := 3) kc_196_329 rfl rfl ?_
                refine xi_ialoadO (pc' := 331) (v := a3) kc_196_330 rfl (by decide) hov0 (xi_in (n := 6) (by decide) (by decide)) rfl ?_
                refine xi_virtual (mj := 17) (as := [.int a1, .int a2, .int a3]) (st1 := [.int 1000000006]) (lv0 := [(0, .ref 115), (1, .int a1), (2, .int a2), (3, .int a3)]) kc_196_331 rfl rfl rfl rfl rfl ((eh1.2.1 115 (by decide)).trans (F 115 _ hl_115)) (Nat.le_of_ble_eq_true rfl) (hJ _ _ _ _ (by decide)) (xm_le ml_17 rfl) rfl ?_
                refine xi_aload_n (pc' := 1) (x := 115) kc_17_0 rfl rfl ?_
                refine xi_iconst (pc' := 2) (v := 0) kc_17_1 rfl rfl ?_
                refine xi_putfield (pc' := 5) (fs' := [.int 0, .int 0, .ref 116, .ref 117, .ref 118, .ref 119, .ref 120, .ref 121, .ref 122, .ref 123, .ref 124, .ref 125, .ref 126, .ref 127, .ref 128, .ref 129, .int 4, .ref 130, .int 0, .ref 131, .ref 132, .ref 133, .ref 134, .int 0, .ref 135, .ref 136, .ref 137, .ref 138, .ref 139, .ref 140, .ref 141, .ref 142, .int 0, .int 0, .int 0, .ref 143, .ref 144, .ref 145, .ref 146, .ref 147, .ref 148, .int 0, .ref 149, .ref 150, .ref 151, .int 0, .ref 152, .ref 153, .ref 154, .ref 155, .ref 156, .ref 157, .ref 158, .ref 159, .int 0, .ref 160, .int 0, .ref 161, .ref 162, .ref 163, .ref 164, .int 0, .ref 165, .ref 166]) kc_17_2 rfl rfl rfl ((eh1.2.1 115 (by decide)).trans (F 115 _ hl_115)) rfl rfl rfl (Nat.le_of_ble_eq_true rfl) rfl (fun hh2 eh2 => ?_)
                refine xi_iload_n (pc' := 6) (x := a2) kc_17_5 rfl rfl ?_
                refine xi_iconst (pc' := 7) (v := 0) kc_17_6 rfl rfl ?_
                refine xi_iconst (pc' := 8) (v := 1) kc_17_7 rfl rfl ?_
                refine xi_static (mj := 12) (as := [.int a2, .int 0, .int 1]) (st1 := []) (lv0 := [(0, .int a2), (1, .int 0), (2, .int 1)]) kc_17_8 rfl rfl (Nat.le_of_ble_eq_true rfl) rfl rfl (Nat.le_of_ble_eq_true rfl) (hJ _ _ _ _ (by decide)) (xm_le ml_12 rfl) rfl ?_
                refine xi_iload_n (pc' := 1) (x := a2) kc_12_0 rfl rfl ?_
                refine xi_iload_n (pc' := 2) (x := 0) kc_12_1 rfl rfl ?_
                refine xi_cmf (pc' := 5) kc_12_2 rfl (xc_lt_f (X := a2.toInt) (Y := 0) rfl (by decide) (by omega)) ?_
                refine xi_iload_n (pc' := 6) (x := a2) kc_12_5 rfl rfl ?_
                refine xi_iload_n (pc' := 7) (x := 1) kc_12_6 rfl rfl ?_
                refine xi_cmf (pc' := 10) kc_12_7 rfl (xc_gt_f (X := a2.toInt) (Y := 1) rfl (by decide) (by omega)) ?_
                refine xi_iconst (pc' := 11) (v := 1) kc_12_10 rfl rfl ?_
                refine xi_goto (pc' := 15) kc_12_11 rfl ?_
                refine xi_ireturn kc_12_15 mr_12 rfl ?_
                show xw J ov 99 17 (11, [(0, .ref 115), (1, .int a1), (2, .int a2), (3, .int a3)], [.int 1], hh2) _
                refine xi_ift (pc' := 21) kc_17_11 rfl rfl ?_
                refine xi_iload_n (pc' := 22) (x := a1) kc_17_21 rfl rfl ?_
                refine xi_iff (pc' := 25) kc_17_22 rfl (xc_lt_f (X := a1.toInt) (Y := 0) rfl (by decide) (by omega)) ?_
                refine xi_iload_n (pc' := 26) (x := a3) kc_17_25 rfl rfl ?_
                refine xi_iload_n (pc' := 27) (x := a2) kc_17_26 rfl rfl ?_
                refine xi_ift (pc' := 35) kc_17_27 rfl (xc_ne_t (X := a2.toInt) (Y := 0) rfl (by decide) (by omega)) ?_
                refine xi_iconst (pc' := 36) (v := 0) kc_17_35 rfl rfl ?_
                refine xi_cmt (pc' := 46) kc_17_36 rfl (xc_ge_t (X := a3.toInt) (Y := 0) rfl (by decide) (by omega)) ?_
                refine xi_iload_n (pc' := 47) (x := a1) kc_17_46 rfl rfl ?_
                refine xi_sipush (pc' := 50) (v := 599) kc_17_47 rfl rfl ?_
                refine xi_cmf (pc' := 53) kc_17_50 rfl (xc_gt_f (X := a1.toInt) (Y := 599) rfl (by decide) (by omega)) ?_
                refine xi_iload_n (pc' := 54) (x := a3) kc_17_53 rfl rfl ?_
                refine xi_iload_n (pc' := 55) (x := a2) kc_17_54 rfl rfl ?_
                refine xi_ift (pc' := 63) kc_17_55 rfl (xc_ne_t (X := a2.toInt) (Y := 0) rfl (by decide) (by omega)) ?_
                refine xi_bipush (pc' := 65) (v := 20) kc_17_63 rfl rfl ?_
                refine xi_cmf (pc' := 68) kc_17_65 rfl (xc_le_f (X := a3.toInt) (Y := 20) rfl (by decide) (by omega)) ?_
                refine xi_iload_n (pc' := 69) (x := a3) kc_17_68 rfl rfl ?_
                refine xi_bipush (pc' := 71) (v := 99) kc_17_69 rfl rfl ?_
                refine xi_cmf (pc' := 74) kc_17_71 rfl (xc_eq_f (X := a3.toInt) (Y := 99) rfl (by decide) (by omega)) ?_
                refine xi_aload_n (pc' := 75) (x := 115) kc_17_74 rfl rfl ?_
                refine xi_bipush (pc' := 77) (v := (-6)) kc_17_75 rfl rfl ?_
                refine xi_virtual (mj := 18) (as := [.int (-6)]) (st1 := []) (lv0 := [(0, .ref 115), (1, .int (-6))]) kc_17_77 rfl rfl rfl rfl rfl eh2.1 (Nat.le_of_ble_eq_true rfl) (hJ _ _ _ _ (by decide)) (xm_le ml_18 rfl) rfl ?_
                refine xi_aload_n (pc' := 1) (x := 115) kc_18_0 rfl rfl ?_
                refine xi_getfield (pc' := 4) (v := .ref 140) kc_18_1 rfl rfl rfl eh2.1 rfl ?_
                refine xi_iload_n (pc' := 5) (x := (-6)) kc_18_4 rfl rfl ?_
                refine xi_ineg (pc' := 6) (v := 6) kc_18_5 rfl rfl ?_
                refine xi_dup2 (pc' := 7) kc_18_6 rfl ⟨rfl, rfl⟩ ?_
                refine xi_iaload (pc' := 8) (v := 0) kc_18_7 rfl ((eh2.2.1 140 (by decide)).trans ((eh1.2.1 140 (by decide)).trans (F 140 _ hl_140))) (by decide) rfl (xi_in (n := 7) (by decide) (by decide)) rfl ?_
                refine xi_iconst (pc' := 9) (v := 1) kc_18_8 rfl rfl ?_
                refine xi_iadd (pc' := 10) (v := 1) kc_18_9 rfl rfl ?_
                refine xi_iastore (pc' := 11) (x' := [0, 0, 0, 0, 0, 0, 1]) kc_18_10 rfl ((eh2.2.1 140 (by decide)).trans ((eh1.2.1 140 (by decide)).trans (F 140 _ hl_140))) rfl (xi_in (n := 7) (by decide) (by decide)) rfl (fun hh3 eh3 => ?_)
                refine xi_ldc (pc' := 13) (v := 1000000000) kc_18_11 rfl rfl ?_
                refine xi_iload_n (pc' := 14) (x := (-6)) kc_18_13 rfl rfl ?_
                refine xi_isub (pc' := 15) (v := 1000000006) kc_18_14 rfl rfl ?_
                refine xi_ireturn kc_18_15 mr_18 rfl ?_
                show xw J ov 99 17 (80, [(0, .ref 115), (1, .int a1), (2, .int a2), (3, .int a3)], [.int 1000000006], hh3) _
                refine xi_ireturn kc_17_80 mr_17 rfl ?_
                show xw J ov 100 196 (334, [(4, .int 0), (3, .ref 167), (2, .ref 115), (1, .ref 0), (0, .ref 1000000)], [.int 1000000006, .int 1000000006], hh3) _
                refine xi_cmt (pc' := 1528) kc_196_334 rfl rfl ?_
                refine xi_iinc (pc' := 1531) (x := 0) (v := 6) (lv' := [(4, .int 6), (3, .ref 167), (2, .ref 115), (1, .ref 0), (0, .ref 1000000)]) kc_196_1528 rfl rfl rfl rfl (xm_lt ml_196 rfl) ?_
                refine xi_goto (pc' := 23) kc_196_1531 rfl ?_
                refine xi_iload (pc' := 25) (x := 6) kc_196_23 rfl rfl ?_
                refine xi_aload_n (pc' := 26) (x := 1000000) kc_196_25 rfl rfl ?_
                refine xi_arraylength (pc' := 27) (n := 6) (v := 6) kc_196_26 rfl (xl_lenO (by decide) hov0 rfl) rfl ?_
                refine xi_bipush (pc' := 29) (v := 6) kc_196_27 rfl rfl ?_
                refine xi_isub (pc' := 30) (v := 0) kc_196_29 rfl rfl ?_
                refine xi_cmt (pc' := 1534) kc_196_30 rfl rfl ?_
                refine xi_iconst (pc' := 1535) (v := 1) kc_196_1534 rfl rfl ?_
                refine xi_ireturn kc_196_1535 mr_196 rfl ?_
                refine ⟨rfl, ?_, ?_⟩
                · rw [eh3.2.2.1, eh2.2.2.1, eh1.2.2.1]; exact hn0
                · rw [eh3.2.2.2, eh2.2.2.2, eh1.2.2.2]; exact hz0
        · refine xi_cmf (pc' := 51) kc_96_48 rfl (xc_ge_f (X := a3.toInt) (Y := 0) rfl (by decide) (by omega)) ?_
          refine xi_aload_n (pc' := 52) (x := 0) kc_96_51 rfl rfl ?_
          refine xi_bipush (pc' := 54) (v := (-4)) kc_96_52 rfl rfl ?_
          refine xi_virtual (mj := 97) (as := [.int (-4)]) (st1 := []) (lv0 := [(0, .ref 0), (1, .int (-4))]) kc_96_54 rfl rfl rfl rfl rfl (F 0 _ hl_0) (Nat.le_of_ble_eq_true rfl) (hJ _ _ _ _ (by decide)) (xm_le ml_97 rfl) rfl ?_
          refine xi_ldc_w (pc' := 3) (v := 1000000000) kc_97_0 rfl rfl ?_
          refine xi_aload_n (pc' := 4) (x := 0) kc_97_3 rfl rfl ?_
          refine xi_iload_n (pc' := 5) (x := (-4)) kc_97_4 rfl rfl ?_
          refine xi_virtual (mj := 91) (as := [.int (-4)]) (st1 := [.int 1000000000]) (lv0 := [(0, .ref 0), (1, .int (-4))]) kc_97_5 rfl rfl rfl rfl rfl (F 0 _ hl_0) (Nat.le_of_ble_eq_true rfl) (hJ _ _ _ _ (by decide)) (xm_le ml_91 rfl) rfl ?_
          refine xi_iload_n (pc' := 1) (x := (-4)) kc_91_0 rfl rfl ?_
          refine xi_ineg (pc' := 2) (v := 4) kc_91_1 rfl rfl ?_
          refine xi_istore_n (pc' := 3) (lv' := [(2, .int 4), (0, .ref 0), (1, .int (-4))]) kc_91_2 rfl rfl (xm_lt ml_91 rfl) ?_
          refine xi_iload_n (pc' := 4) (x := 4) kc_91_3 rfl rfl ?_
          refine xi_iff (pc' := 7) kc_91_4 rfl rfl ?_
          refine xi_iload_n (pc' := 8) (x := 4) kc_91_7 rfl rfl ?_
          refine xi_aload_n (pc' := 9) (x := 0) kc_91_8 rfl rfl ?_
          refine xi_getfield (pc' := 12) (v := .ref 94) kc_91_9 rfl rfl rfl (F 0 _ hl_0) rfl ?_
          refine xi_arraylength (pc' := 13) (n := 7) (v := 7) kc_91_12 rfl (xl_lenI (by decide) (by decide) (F 94 _ hl_94) (by simp only [List.length_replicate, List.length_cons, List.length_nil])) rfl ?_
          refine xi_cmf (pc' := 16) kc_91_13 rfl rfl ?_
          refine xi_aload_n (pc' := 17) (x := 0) kc_91_16 rfl rfl ?_
          refine xi_getfield (pc' := 20) (v := .ref 94) kc_91_17 rfl rfl rfl (F 0 _ hl_0) rfl ?_
          refine xi_iload_n (pc' := 21) (x := 4) kc_91_20 rfl rfl ?_
          refine xi_dup2 (pc' := 22) kc_91_21 rfl ⟨rfl, rfl⟩ ?_
          refine xi_iaload (pc' := 23) (v := 0) kc_91_22 rfl (F 94 _ hl_94) (by decide) rfl (xi_in (n := 7) (by decide) (by decide)) rfl ?_
          refine xi_iconst (pc' := 24) (v := 1) kc_91_23 rfl rfl ?_
          refine xi_iadd (pc' := 25) (v := 1) kc_91_24 rfl rfl ?_
          refine xi_iastore (pc' := 26) (x' := [0, 0, 0, 0, 1, 0, 0]) kc_91_25 rfl (F 94 _ hl_94) rfl (xi_in (n := 7) (by decide) (by decide)) rfl (fun hh1 eh1 => ?_)
          refine xi_iload_n (pc' := 27) (x := (-4)) kc_91_26 rfl rfl ?_
          refine xi_ireturn kc_91_27 mr_91 rfl ?_
          show xw J ov 98 97 (8, [(0, .ref 0), (1, .int (-4))], [.int (-4), .int 1000000000], hh1) _
          refine xi_isub (pc' := 9) (v := 1000000004) kc_97_8 rfl rfl ?_
          refine xi_ireturn kc_97_9 mr_97 rfl ?_
          show xw J ov 99 96 (57, [(5, .int 20), (4, .int 0), (0, .ref 0), (1, .int a1), (2, .int a2), (3, .int a3)], [.int 1000000004], hh1) _
          refine xi_ireturn kc_96_57 mr_96 rfl ?_
          show xw J ov 100 196 (312, [(4, .int 0), (3, .ref 167), (2, .ref 115), (1, .ref 0), (0, .ref 1000000)], [.int 1000000004], hh1) _
          refine xi_aload_n (pc' := 313) (x := 115) kc_196_312 rfl rfl ?_
          refine xi_aload_n (pc' := 314) (x := 1000000) kc_196_313 rfl rfl ?_
          refine xi_iload (pc' := 316) (x := 0) kc_196_314 rfl rfl ?_
          refine xi_iconst (pc' := 317) (v := 1) kc_196_316 rfl rfl ?_
          refine xi_iadd (pc' := 318) (v := 1) kc_196_317 rfl rfl ?_
          refine xi_ialoadO (pc' := 319) (v := a1) kc_196_318 rfl (by decide) hov0 (xi_in (n := 6) (by decide) (by decide)) rfl ?_
          refine xi_aload_n (pc' := 320) (x := 1000000) kc_196_319 rfl rfl ?_
          refine xi_iload (pc' := 322) (x := 0) kc_196_320 rfl rfl ?_
          refine xi_iconst (pc' := 323) (v := 2) kc_196_322 rfl rfl ?_
          refine xi_iadd (pc' := 324) (v := 2) kc_196_323 rfl rfl ?_
          refine xi_ialoadO (pc' := 325) (v := a2) kc_196_324 rfl (by decide) hov0 (xi_in (n := 6) (by decide) (by decide)) rfl ?_
          refine xi_aload_n (pc' := 326) (x := 1000000) kc_196_325 rfl rfl ?_
          refine xi_iload (pc' := 328) (x := 0) kc_196_326 rfl rfl ?_
          refine xi_iconst (pc' := 329) (v := 3) kc_196_328 rfl rfl ?_
          refine xi_iadd (pc' := 330) (v := 3) kc_196_329 rfl rfl ?_
          refine xi_ialoadO (pc' := 331) (v := a3) kc_196_330 rfl (by decide) hov0 (xi_in (n := 6) (by decide) (by decide)) rfl ?_
          refine xi_virtual (mj := 17) (as := [.int a1, .int a2, .int a3]) (st1 := [.int 1000000004]) (lv0 := [(0, .ref 115), (1, .int a1), (2, .int a2), (3, .int a3)]) kc_196_331 rfl rfl rfl rfl rfl ((eh1.2.1 115 (by decide)).trans (F 115 _ hl_115)) (Nat.le_of_ble_eq_true rfl) (hJ _ _ _ _ (by decide)) (xm_le ml_17 rfl) rfl ?_
          refine xi_aload_n (pc' := 1) (x := 115) kc_17_0 rfl rfl ?_
          refine xi_iconst (pc' := 2) (v := 0) kc_17_1 rfl rfl ?_
          refine xi_putfield (pc' := 5) (fs' := [.int 0, .int 0, .ref 116, .ref 117, .ref 118, .ref 119, .ref 120, .ref 121, .ref 122, .ref 123, .ref 124, .ref 125, .ref 126, .ref 127, .ref 128, .ref 129, .int 4, .ref 130, .int 0, .ref 131, .ref 132, .ref 133, .ref 134, .int 0, .ref 135, .ref 136, .ref 137, .ref 138, .ref 139, .ref 140, .ref 141, .ref 142, .int 0, .int 0, .int 0, .ref 143, .ref 144, .ref 145, .ref 146, .ref 147, .ref 148, .int 0, .ref 149, .ref 150, .ref 151, .int 0, .ref 152, .ref 153, .ref 154, .ref 155, .ref 156, .ref 157, .ref 158, .ref 159, .int 0, .ref 160, .int 0, .ref 161, .ref 162, .ref 163, .ref 164, .int 0, .ref 165, .ref 166]) kc_17_2 rfl rfl rfl ((eh1.2.1 115 (by decide)).trans (F 115 _ hl_115)) rfl rfl rfl (Nat.le_of_ble_eq_true rfl) rfl (fun hh2 eh2 => ?_)
          refine xi_iload_n (pc' := 6) (x := a2) kc_17_5 rfl rfl ?_
          refine xi_iconst (pc' := 7) (v := 0) kc_17_6 rfl rfl ?_
          refine xi_iconst (pc' := 8) (v := 1) kc_17_7 rfl rfl ?_
          refine xi_static (mj := 12) (as := [.int a2, .int 0, .int 1]) (st1 := []) (lv0 := [(0, .int a2), (1, .int 0), (2, .int 1)]) kc_17_8 rfl rfl (Nat.le_of_ble_eq_true rfl) rfl rfl (Nat.le_of_ble_eq_true rfl) (hJ _ _ _ _ (by decide)) (xm_le ml_12 rfl) rfl ?_
          refine xi_iload_n (pc' := 1) (x := a2) kc_12_0 rfl rfl ?_
          refine xi_iload_n (pc' := 2) (x := 0) kc_12_1 rfl rfl ?_
          refine xi_cmf (pc' := 5) kc_12_2 rfl (xc_lt_f (X := a2.toInt) (Y := 0) rfl (by decide) (by omega)) ?_
          refine xi_iload_n (pc' := 6) (x := a2) kc_12_5 rfl rfl ?_
          refine xi_iload_n (pc' := 7) (x := 1) kc_12_6 rfl rfl ?_
          refine xi_cmf (pc' := 10) kc_12_7 rfl (xc_gt_f (X := a2.toInt) (Y := 1) rfl (by decide) (by omega)) ?_
          refine xi_iconst (pc' := 11) (v := 1) kc_12_10 rfl rfl ?_
          refine xi_goto (pc' := 15) kc_12_11 rfl ?_
          refine xi_ireturn kc_12_15 mr_12 rfl ?_
          show xw J ov 99 17 (11, [(0, .ref 115), (1, .int a1), (2, .int a2), (3, .int a3)], [.int 1], hh2) _
          refine xi_ift (pc' := 21) kc_17_11 rfl rfl ?_
          refine xi_iload_n (pc' := 22) (x := a1) kc_17_21 rfl rfl ?_
          refine xi_iff (pc' := 25) kc_17_22 rfl (xc_lt_f (X := a1.toInt) (Y := 0) rfl (by decide) (by omega)) ?_
          refine xi_iload_n (pc' := 26) (x := a3) kc_17_25 rfl rfl ?_
          refine xi_iload_n (pc' := 27) (x := a2) kc_17_26 rfl rfl ?_
          refine xi_ift (pc' := 35) kc_17_27 rfl (xc_ne_t (X := a2.toInt) (Y := 0) rfl (by decide) (by omega)) ?_
          refine xi_iconst (pc' := 36) (v := 0) kc_17_35 rfl rfl ?_
          refine xi_cmf (pc' := 39) kc_17_36 rfl (xc_ge_f (X := a3.toInt) (Y := 0) rfl (by decide) (by omega)) ?_
          refine xi_aload_n (pc' := 40) (x := 115) kc_17_39 rfl rfl ?_
          refine xi_bipush (pc' := 42) (v := (-4)) kc_17_40 rfl rfl ?_
          refine xi_virtual (mj := 18) (as := [.int (-4)]) (st1 := []) (lv0 := [(0, .ref 115), (1, .int (-4))]) kc_17_42 rfl rfl rfl rfl rfl eh2.1 (Nat.le_of_ble_eq_true rfl) (hJ _ _ _ _ (by decide)) (xm_le ml_18 rfl) rfl ?_
          refine xi_aload_n (pc' := 1) (x := 115) kc_18_0 rfl rfl ?_
          refine xi_getfield (pc' := 4) (v := .ref 140) kc_18_1 rfl rfl rfl eh2.1 rfl ?_
          refine xi_iload_n (pc' := 5) (x := (-4)) kc_18_4 rfl rfl ?_
          refine xi_ineg (pc' := 6) (v := 4) kc_18_5 rfl rfl ?_
          refine xi_dup2 (pc' := 7) kc_18_6 rfl ⟨rfl, rfl⟩ ?_
          refine xi_iaload (pc' := 8) (v := 0) kc_18_7 rfl ((eh2.2.1 140 (by decide)).trans ((eh1.2.1 140 (by decide)).trans (F 140 _ hl_140))) (by decide) rfl (xi_in (n := 7) (by decide) (by decide)) rfl ?_
          refine xi_iconst (pc' := 9) (v := 1) kc_18_8 rfl rfl ?_
          refine xi_iadd (pc' := 10) (v := 1) kc_18_9 rfl rfl ?_
          refine xi_iastore (pc' := 11) (x' := [0, 0, 0, 0, 1, 0, 0]) kc_18_10 rfl ((eh2.2.1 140 (by decide)).trans ((eh1.2.1 140 (by decide)).trans (F 140 _ hl_140))) rfl (xi_in (n := 7) (by decide) (by decide)) rfl (fun hh3 eh3 => ?_)
          refine xi_ldc (pc' := 13) (v := 1000000000) kc_18_11 rfl rfl ?_
          refine xi_iload_n (pc' := 14) (x := (-4)) kc_18_13 rfl rfl ?_
          refine xi_isub (pc' := 15) (v := 1000000004) kc_18_14 rfl rfl ?_
          refine xi_ireturn kc_18_15 mr_18 rfl ?_
          show xw J ov 99 17 (45, [(0, .ref 115), (1, .int a1), (2, .int a2), (3, .int a3)], [.int 1000000004], hh3) _
          refine xi_ireturn kc_17_45 mr_17 rfl ?_
          show xw J ov 100 196 (334, [(4, .int 0), (3, .ref 167), (2, .ref 115), (1, .ref 0), (0, .ref 1000000)], [.int 1000000004, .int 1000000004], hh3) _
          refine xi_cmt (pc' := 1528) kc_196_334 rfl rfl ?_
          refine xi_iinc (pc' := 1531) (x := 0) (v := 6) (lv' := [(4, .int 6), (3, .ref 167), (2, .ref 115), (1, .ref 0), (0, .ref 1000000)]) kc_196_1528 rfl rfl rfl rfl (xm_lt ml_196 rfl) ?_
          refine xi_goto (pc' := 23) kc_196_1531 rfl ?_
          refine xi_iload (pc' := 25) (x := 6) kc_196_23 rfl rfl ?_
          refine xi_aload_n (pc' := 26) (x := 1000000) kc_196_25 rfl rfl ?_
          refine xi_arraylength (pc' := 27) (n := 6) (v := 6) kc_196_26 rfl (xl_lenO (by decide) hov0 rfl) rfl ?_
          refine xi_bipush (pc' := 29) (v := 6) kc_196_27 rfl rfl ?_
          refine xi_isub (pc' := 30) (v := 0) kc_196_29 rfl rfl ?_
          refine xi_cmt (pc' := 1534) kc_196_30 rfl rfl ?_
          refine xi_iconst (pc' := 1535) (v := 1) kc_196_1534 rfl rfl ?_
          refine xi_ireturn kc_196_1535 mr_196 rfl ?_
          refine ⟨rfl, ?_, ?_⟩
          · rw [eh3.2.2.1, eh2.2.2.1, eh1.2.2.1]; exact hn0
          · rw [eh3.2.2.2, eh2.2.2.2, eh1.2.2.2]; exact hz0
    · refine xi_cmf (pc' := 9) kc_96_6 rfl (xc_eq_f (X := a2.toInt) (Y := 1) rfl (by decide) (by omega)) ?_
      refine xi_aload_n (pc' := 10) (x := 0) kc_96_9 rfl rfl ?_
      refine xi_bipush (pc' := 12) (v := (-2)) kc_96_10 rfl rfl ?_
      refine xi_virtual (mj := 97) (as := [.int (-2)]) (st1 := []) (lv0 := [(0, .ref 0), (1, .int (-2))]) kc_96_12 rfl rfl rfl rfl rfl (F 0 _ hl_0) (Nat.le_of_ble_eq_true rfl) (hJ _ _ _ _ (by decide)) (xm_le ml_97 rfl) rfl ?_
      refine xi_ldc_w (pc' := 3) (v := 1000000000) kc_97_0 rfl rfl ?_
      refine xi_aload_n (pc' := 4) (x := 0) kc_97_3 rfl rfl ?_
      refine xi_iload_n (pc' := 5) (x := (-2)) kc_97_4 rfl rfl ?_
      refine xi_virtual (mj := 91) (as := [.int (-2)]) (st1 := [.int 1000000000]) (lv0 := [(0, .ref 0), (1, .int (-2))]) kc_97_5 rfl rfl rfl rfl rfl (F 0 _ hl_0) (Nat.le_of_ble_eq_true rfl) (hJ _ _ _ _ (by decide)) (xm_le ml_91 rfl) rfl ?_
      refine xi_iload_n (pc' := 1) (x := (-2)) kc_91_0 rfl rfl ?_
      refine xi_ineg (pc' := 2) (v := 2) kc_91_1 rfl rfl ?_
      refine xi_istore_n (pc' := 3) (lv' := [(2, .int 2), (0, .ref 0), (1, .int (-2))]) kc_91_2 rfl rfl (xm_lt ml_91 rfl) ?_
      refine xi_iload_n (pc' := 4) (x := 2) kc_91_3 rfl rfl ?_
      refine xi_iff (pc' := 7) kc_91_4 rfl rfl ?_
      refine xi_iload_n (pc' := 8) (x := 2) kc_91_7 rfl rfl ?_
      refine xi_aload_n (pc' := 9) (x := 0) kc_91_8 rfl rfl ?_
      refine xi_getfield (pc' := 12) (v := .ref 94) kc_91_9 rfl rfl rfl (F 0 _ hl_0) rfl ?_
      refine xi_arraylength (pc' := 13) (n := 7) (v := 7) kc_91_12 rfl (xl_lenI (by decide) (by decide) (F 94 _ hl_94) (by simp only [List.length_replicate, List.length_cons, List.length_nil])) rfl ?_
      refine xi_cmf (pc' := 16) kc_91_13 rfl rfl ?_
      refine xi_aload_n (pc' := 17) (x := 0) kc_91_16 rfl rfl ?_
      refine xi_getfield (pc' := 20) (v := .ref 94) kc_91_17 rfl rfl rfl (F 0 _ hl_0) rfl ?_
      refine xi_iload_n (pc' := 21) (x := 2) kc_91_20 rfl rfl ?_
      refine xi_dup2 (pc' := 22) kc_91_21 rfl ⟨rfl, rfl⟩ ?_
      refine xi_iaload (pc' := 23) (v := 0) kc_91_22 rfl (F 94 _ hl_94) (by decide) rfl (xi_in (n := 7) (by decide) (by decide)) rfl ?_
      refine xi_iconst (pc' := 24) (v := 1) kc_91_23 rfl rfl ?_
      refine xi_iadd (pc' := 25) (v := 1) kc_91_24 rfl rfl ?_
      refine xi_iastore (pc' := 26) (x' := [0, 0, 1, 0, 0, 0, 0]) kc_91_25 rfl (F 94 _ hl_94) rfl (xi_in (n := 7) (by decide) (by decide)) rfl (fun hh1 eh1 => ?_)
      refine xi_iload_n (pc' := 27) (x := (-2)) kc_91_26 rfl rfl ?_
      refine xi_ireturn kc_91_27 mr_91 rfl ?_
      show xw J ov 98 97 (8, [(0, .ref 0), (1, .int (-2))], [.int (-2), .int 1000000000], hh1) _
      refine xi_isub (pc' := 9) (v := 1000000002) kc_97_8 rfl rfl ?_
      refine xi_ireturn kc_97_9 mr_97 rfl ?_
      show xw J ov 99 96 (15, [(0, .ref 0), (1, .int a1), (2, .int a2), (3, .int a3)], [.int 1000000002], hh1) _
      refine xi_ireturn kc_96_15 mr_96 rfl ?_
      show xw J ov 100 196 (312, [(4, .int 0), (3, .ref 167), (2, .ref 115), (1, .ref 0), (0, .ref 1000000)], [.int 1000000002], hh1) _
      refine xi_aload_n (pc' := 313) (x := 115) kc_196_312 rfl rfl ?_
      refine xi_aload_n (pc' := 314) (x := 1000000) kc_196_313 rfl rfl ?_
      refine xi_iload (pc' := 316) (x := 0) kc_196_314 rfl rfl ?_
      refine xi_iconst (pc' := 317) (v := 1) kc_196_316 rfl rfl ?_
      refine xi_iadd (pc' := 318) (v := 1) kc_196_317 rfl rfl ?_
      refine xi_ialoadO (pc' := 319) (v := a1) kc_196_318 rfl (by decide) hov0 (xi_in (n := 6) (by decide) (by decide)) rfl ?_
      refine xi_aload_n (pc' := 320) (x := 1000000) kc_196_319 rfl rfl ?_
      refine xi_iload (pc' := 322) (x := 0) kc_196_320 rfl rfl ?_
      refine xi_iconst (pc' := 323) (v := 2) kc_196_322 rfl rfl ?_
      refine xi_iadd (pc' := 324) (v := 2) kc_196_323 rfl rfl ?_
      refine xi_ialoadO (pc' := 325) (v := a2) kc_196_324 rfl (by decide) hov0 (xi_in (n := 6) (by decide) (by decide)) rfl ?_
      refine xi_aload_n (pc' := 326) (x := 1000000) kc_196_325 rfl rfl ?_
      refine xi_iload (pc' := 328) (x := 0) kc_196_326 rfl rfl ?_
      refine xi_iconst (pc' := 329) (v := 3) kc_196_328 rfl rfl ?_
      refine xi_iadd (pc' := 330) (v := 3) kc_196_329 rfl rfl ?_
      refine xi_ialoadO (pc' := 331) (v := a3) kc_196_330 rfl (by decide) hov0 (xi_in (n := 6) (by decide) (by decide)) rfl ?_
      refine xi_virtual (mj := 17) (as := [.int a1, .int a2, .int a3]) (st1 := [.int 1000000002]) (lv0 := [(0, .ref 115), (1, .int a1), (2, .int a2), (3, .int a3)]) kc_196_331 rfl rfl rfl rfl rfl ((eh1.2.1 115 (by decide)).trans (F 115 _ hl_115)) (Nat.le_of_ble_eq_true rfl) (hJ _ _ _ _ (by decide)) (xm_le ml_17 rfl) rfl ?_
      refine xi_aload_n (pc' := 1) (x := 115) kc_17_0 rfl rfl ?_
      refine xi_iconst (pc' := 2) (v := 0) kc_17_1 rfl rfl ?_
      refine xi_putfield (pc' := 5) (fs' := [.int 0, .int 0, .ref 116, .ref 117, .ref 118, .ref 119, .ref 120, .ref 121, .ref 122, .ref 123, .ref 124, .ref 125, .ref 126, .ref 127, .ref 128, .ref 129, .int 4, .ref 130, .int 0, .ref 131, .ref 132, .ref 133, .ref 134, .int 0, .ref 135, .ref 136, .ref 137, .ref 138, .ref 139, .ref 140, .ref 141, .ref 142, .int 0, .int 0, .int 0, .ref 143, .ref 144, .ref 145, .ref 146, .ref 147, .ref 148, .int 0, .ref 149, .ref 150, .ref 151, .int 0, .ref 152, .ref 153, .ref 154, .ref 155, .ref 156, .ref 157, .ref 158, .ref 159, .int 0, .ref 160, .int 0, .ref 161, .ref 162, .ref 163, .ref 164, .int 0, .ref 165, .ref 166]) kc_17_2 rfl rfl rfl ((eh1.2.1 115 (by decide)).trans (F 115 _ hl_115)) rfl rfl rfl (Nat.le_of_ble_eq_true rfl) rfl (fun hh2 eh2 => ?_)
      refine xi_iload_n (pc' := 6) (x := a2) kc_17_5 rfl rfl ?_
      refine xi_iconst (pc' := 7) (v := 0) kc_17_6 rfl rfl ?_
      refine xi_iconst (pc' := 8) (v := 1) kc_17_7 rfl rfl ?_
      refine xi_static (mj := 12) (as := [.int a2, .int 0, .int 1]) (st1 := []) (lv0 := [(0, .int a2), (1, .int 0), (2, .int 1)]) kc_17_8 rfl rfl (Nat.le_of_ble_eq_true rfl) rfl rfl (Nat.le_of_ble_eq_true rfl) (hJ _ _ _ _ (by decide)) (xm_le ml_12 rfl) rfl ?_
      refine xi_iload_n (pc' := 1) (x := a2) kc_12_0 rfl rfl ?_
      refine xi_iload_n (pc' := 2) (x := 0) kc_12_1 rfl rfl ?_
      by_cases c61 : a2.toInt < 0
      · refine xi_cmt (pc' := 14) kc_12_2 rfl (xc_lt_t (X := a2.toInt) (Y := 0) rfl (by decide) (by omega)) ?_
        refine xi_iconst (pc' := 15) (v := 0) kc_12_14 rfl rfl ?_
        refine xi_ireturn kc_12_15 mr_12 rfl ?_
        show xw J ov 99 17 (11, [(0, .ref 115), (1, .int a1), (2, .int a2), (3, .int a3)], [.int 0], hh2) _
        refine xi_iff (pc' := 14) kc_17_11 rfl rfl ?_
        refine xi_aload_n (pc' := 15) (x := 115) kc_17_14 rfl rfl ?_
        refine xi_bipush (pc' := 17) (v := (-2)) kc_17_15 rfl rfl ?_
        refine xi_virtual (mj := 18) (as := [.int (-2)]) (st1 := []) (lv0 := [(0, .ref 115), (1, .int (-2))]) kc_17_17 rfl rfl rfl rfl rfl eh2.1 (Nat.le_of_ble_eq_true rfl) (hJ _ _ _ _ (by decide)) (xm_le ml_18 rfl) rfl ?_
        refine xi_aload_n (pc' := 1) (x := 115) kc_18_0 rfl rfl ?_
        refine xi_getfield (pc' := 4) (v := .ref 140) kc_18_1 rfl rfl rfl eh2.1 rfl ?_
        refine xi_iload_n (pc' := 5) (x := (-2)) kc_18_4 rfl rfl ?_
        refine xi_ineg (pc' := 6) (v := 2) kc_18_5 rfl rfl ?_
        refine xi_dup2 (pc' := 7) kc_18_6 rfl ⟨rfl, rfl⟩ ?_
        refine xi_iaload (pc' := 8) (v := 0) kc_18_7 rfl ((eh2.2.1 140 (by decide)).trans ((eh1.2.1 140 (by decide)).trans (F 140 _ hl_140))) (by decide) rfl (xi_in (n := 7) (by decide) (by decide)) rfl ?_
        refine xi_iconst (pc' := 9) (v := 1) kc_18_8 rfl rfl ?_
        refine xi_iadd (pc' := 10) (v := 1) kc_18_9 rfl rfl ?_
        refine xi_iastore (pc' := 11) (x' := [0, 0, 1, 0, 0, 0, 0]) kc_18_10 rfl ((eh2.2.1 140 (by decide)).trans ((eh1.2.1 140 (by decide)).trans (F 140 _ hl_140))) rfl (xi_in (n := 7) (by decide) (by decide)) rfl (fun hh3 eh3 => ?_)
        refine xi_ldc (pc' := 13) (v := 1000000000) kc_18_11 rfl rfl ?_
        refine xi_iload_n (pc' := 14) (x := (-2)) kc_18_13 rfl rfl ?_
        refine xi_isub (pc' := 15) (v := 1000000002) kc_18_14 rfl rfl ?_
        refine xi_ireturn kc_18_15 mr_18 rfl ?_
        show xw J ov 99 17 (20, [(0, .ref 115), (1, .int a1), (2, .int a2), (3, .int a3)], [.int 1000000002], hh3) _
        refine xi_ireturn kc_17_20 mr_17 rfl ?_
        show xw J ov 100 196 (334, [(4, .int 0), (3, .ref 167), (2, .ref 115), (1, .ref 0), (0, .ref 1000000)], [.int 1000000002, .int 1000000002], hh3) _
        refine xi_cmt (pc' := 1528) kc_196_334 rfl rfl ?_
        refine xi_iinc (pc' := 1531) (x := 0) (v := 6) (lv' := [(4, .int 6), (3, .ref 167), (2, .ref 115), (1, .ref 0), (0, .ref 1000000)]) kc_196_1528 rfl rfl rfl rfl (xm_lt ml_196 rfl) ?_
        refine xi_goto (pc' := 23) kc_196_1531 rfl ?_
        refine xi_iload (pc' := 25) (x := 6) kc_196_23 rfl rfl ?_
        refine xi_aload_n (pc' := 26) (x := 1000000) kc_196_25 rfl rfl ?_
        refine xi_arraylength (pc' := 27) (n := 6) (v := 6) kc_196_26 rfl (xl_lenO (by decide) hov0 rfl) rfl ?_
        refine xi_bipush (pc' := 29) (v := 6) kc_196_27 rfl rfl ?_
        refine xi_isub (pc' := 30) (v := 0) kc_196_29 rfl rfl ?_
        refine xi_cmt (pc' := 1534) kc_196_30 rfl rfl ?_
        refine xi_iconst (pc' := 1535) (v := 1) kc_196_1534 rfl rfl ?_
        refine xi_ireturn kc_196_1535 mr_196 rfl ?_
        refine ⟨rfl, ?_, ?_⟩
        · rw [eh3.2.2.1, eh2.2.2.1, eh1.2.2.1]; exact hn0
        · rw [eh3.2.2.2, eh2.2.2.2, eh1.2.2.2]; exact hz0
      · refine xi_cmf (pc' := 5) kc_12_2 rfl (xc_lt_f (X := a2.toInt) (Y := 0) rfl (by decide) (by omega)) ?_
        refine xi_iload_n (pc' := 6) (x := a2) kc_12_5 rfl rfl ?_
        refine xi_iload_n (pc' := 7) (x := 1) kc_12_6 rfl rfl ?_
        refine xi_cmt (pc' := 14) kc_12_7 rfl (xc_gt_t (X := a2.toInt) (Y := 1) rfl (by decide) (by omega)) ?_
        refine xi_iconst (pc' := 15) (v := 0) kc_12_14 rfl rfl ?_
        refine xi_ireturn kc_12_15 mr_12 rfl ?_
        show xw J ov 99 17 (11, [(0, .ref 115), (1, .int a1), (2, .int a2), (3, .int a3)], [.int 0], hh2) _
        refine xi_iff (pc' := 14) kc_17_11 rfl rfl ?_
        refine xi_aload_n (pc' := 15) (x := 115) kc_17_14 rfl rfl ?_
        refine xi_bipush (pc' := 17) (v := (-2)) kc_17_15 rfl rfl ?_
        refine xi_virtual (mj := 18) (as := [.int (-2)]) (st1 := []) (lv0 := [(0, .ref 115), (1, .int (-2))]) kc_17_17 rfl rfl rfl rfl rfl eh2.1 (Nat.le_of_ble_eq_true rfl) (hJ _ _ _ _ (by decide)) (xm_le ml_18 rfl) rfl ?_
        refine xi_aload_n (pc' := 1) (x := 115) kc_18_0 rfl rfl ?_
        refine xi_getfield (pc' := 4) (v := .ref 140) kc_18_1 rfl rfl rfl eh2.1 rfl ?_
        refine xi_iload_n (pc' := 5) (x := (-2)) kc_18_4 rfl rfl ?_
        refine xi_ineg (pc' := 6) (v := 2) kc_18_5 rfl rfl ?_
        refine xi_dup2 (pc' := 7) kc_18_6 rfl ⟨rfl, rfl⟩ ?_
        refine xi_iaload (pc' := 8) (v := 0) kc_18_7 rfl ((eh2.2.1 140 (by decide)).trans ((eh1.2.1 140 (by decide)).trans (F 140 _ hl_140))) (by decide) rfl (xi_in (n := 7) (by decide) (by decide)) rfl ?_
        refine xi_iconst (pc' := 9) (v := 1) kc_18_8 rfl rfl ?_
        refine xi_iadd (pc' := 10) (v := 1) kc_18_9 rfl rfl ?_
        refine xi_iastore (pc' := 11) (x' := [0, 0, 1, 0, 0, 0, 0]) kc_18_10 rfl ((eh2.2.1 140 (by decide)).trans ((eh1.2.1 140 (by decide)).trans (F 140 _ hl_140))) rfl (xi_in (n := 7) (by decide) (by decide)) rfl (fun hh3 eh3 => ?_)
        refine xi_ldc (pc' := 13) (v := 1000000000) kc_18_11 rfl rfl ?_
        refine xi_iload_n (pc' := 14) (x := (-2)) kc_18_13 rfl rfl ?_
        refine xi_isub (pc' := 15) (v := 1000000002) kc_18_14 rfl rfl ?_
        refine xi_ireturn kc_18_15 mr_18 rfl ?_
        show xw J ov 99 17 (20, [(0, .ref 115), (1, .int a1), (2, .int a2), (3, .int a3)], [.int 1000000002], hh3) _
        refine xi_ireturn kc_17_20 mr_17 rfl ?_
        show xw J ov 100 196 (334, [(4, .int 0), (3, .ref 167), (2, .ref 115), (1, .ref 0), (0, .ref 1000000)], [.int 1000000002, .int 1000000002], hh3) _
        refine xi_cmt (pc' := 1528) kc_196_334 rfl rfl ?_
        refine xi_iinc (pc' := 1531) (x := 0) (v := 6) (lv' := [(4, .int 6), (3, .ref 167), (2, .ref 115), (1, .ref 0), (0, .ref 1000000)]) kc_196_1528 rfl rfl rfl rfl (xm_lt ml_196 rfl) ?_
        refine xi_goto (pc' := 23) kc_196_1531 rfl ?_
        refine xi_iload (pc' := 25) (x := 6) kc_196_23 rfl rfl ?_
        refine xi_aload_n (pc' := 26) (x := 1000000) kc_196_25 rfl rfl ?_
        refine xi_arraylength (pc' := 27) (n := 6) (v := 6) kc_196_26 rfl (xl_lenO (by decide) hov0 rfl) rfl ?_
        refine xi_bipush (pc' := 29) (v := 6) kc_196_27 rfl rfl ?_
        refine xi_isub (pc' := 30) (v := 0) kc_196_29 rfl rfl ?_
        refine xi_cmt (pc' := 1534) kc_196_30 rfl rfl ?_
        refine xi_iconst (pc' := 1535) (v := 1) kc_196_1534 rfl rfl ?_
        refine xi_ireturn kc_196_1535 mr_196 rfl ?_
        refine ⟨rfl, ?_, ?_⟩
        · rw [eh3.2.2.1, eh2.2.2.1, eh1.2.2.1]; exact hn0
        · rw [eh3.2.2.2, eh2.2.2.2, eh1.2.2.2]; exact hz0
