set_option maxHeartbeats 8000000 in
theorem lc_1 {J : xe_J} {ov : List (List Int32)} (hJ : ∀ d mj as h, mj ≠ xe_loff → J d mj as h = none) {a0 a1 a2 a3 a4 a5 : Int32} (hov0 : ov[0]? = some [a0, a1, a2, a3, a4, a5]) (hov1 : ov[1]? = some [10, 0, 0, 0, 0, 0]) (hov2 : ov[2]? = some [99, 30, 50, 50, 1, 99999]) {h0 : xe_H} (F : xf_fr h0) (hn0 : h0.length ≤ 600002) (hz0 : xe_sz h0 ≤ 7302232) : xw J ov 100 196 (241, [(4, .int 0), (3, .ref 167), (2, .ref 115), (1, .ref 0), (0, .ref 1000000)], [], h0) xf_Q := by
  have rr1 := xc_rng a1
  have rr2 := xc_rng a2
  have rr3 := xc_rng a3
  have rr4 := xc_rng a4
  have rr5 := xc_rng a5
  refine xi_aload_n (pc' := 242) (x := 0) kc_196_241 rfl rfl ?_
  refine xi_aload_n (pc' := 243) (x := 1000000) kc_196_242 rfl rfl ?_
  refine xi_iload (pc' := 245) (x := 0) kc_196_243 rfl rfl ?_
  refine xi_iconst (pc' := 246) (v := 1) kc_196_245 rfl rfl ?_
  refine xi_iadd (pc' := 247) (v := 1) kc_196_246 rfl rfl ?_
  refine xi_ialoadO (pc' := 248) (v := a1) kc_196_247 rfl (by decide) hov0 (xi_in (n := 6) (by decide) (by decide)) rfl ?_
  refine xi_aload_n (pc' := 249) (x := 1000000) kc_196_248 rfl rfl ?_
  refine xi_iload (pc' := 251) (x := 0) kc_196_249 rfl rfl ?_
  refine xi_iconst (pc' := 252) (v := 2) kc_196_251 rfl rfl ?_
  refine xi_iadd (pc' := 253) (v := 2) kc_196_252 rfl rfl ?_
  refine xi_ialoadO (pc' := 254) (v := a2) kc_196_253 rfl (by decide) hov0 (xi_in (n := 6) (by decide) (by decide)) rfl ?_
  refine xi_aload_n (pc' := 255) (x := 1000000) kc_196_254 rfl rfl ?_
  refine xi_iload (pc' := 257) (x := 0) kc_196_255 rfl rfl ?_
  refine xi_iconst (pc' := 258) (v := 3) kc_196_257 rfl rfl ?_
  refine xi_iadd (pc' := 259) (v := 3) kc_196_258 rfl rfl ?_
  refine xi_ialoadO (pc' := 260) (v := a3) kc_196_259 rfl (by decide) hov0 (xi_in (n := 6) (by decide) (by decide)) rfl ?_
  refine xi_virtual (mj := 95) (as := [.int a1, .int a2, .int a3]) (st1 := []) (lv0 := [(0, .ref 0), (1, .int a1), (2, .int a2), (3, .int a3)]) kc_196_260 rfl rfl rfl rfl rfl (F 0 _ hl_0) (Nat.le_of_ble_eq_true rfl) (hJ _ _ _ _ (by decide)) (xm_le ml_95 rfl) rfl ?_
  refine xi_iload_n (pc' := 1) (x := a1) kc_95_0 rfl rfl ?_
  refine xi_static (mj := 90) (as := [.int a1]) (st1 := []) (lv0 := [(0, .int a1)]) kc_95_1 rfl rfl (Nat.le_of_ble_eq_true rfl) rfl rfl (Nat.le_of_ble_eq_true rfl) (hJ _ _ _ _ (by decide)) (xm_le ml_90 rfl) rfl ?_
  refine xi_iload_n (pc' := 1) (x := a1) kc_90_0 rfl rfl ?_
  by_cases c1 : a1.toInt < 0
  · refine xi_ift (pc' := 14) kc_90_1 rfl (xc_lt_t (X := a1.toInt) (Y := 0) rfl (by decide) (by omega)) ?_
    refine xi_iconst (pc' := 15) (v := 0) kc_90_14 rfl rfl ?_
    refine xi_ireturn kc_90_15 mr_90 rfl ?_
    show xw J ov 99 95 (4, [(0, .ref 0), (1, .int a1), (2, .int a2), (3, .int a3)], [.int 0], h0) _
    refine xi_ift (pc' := 17) kc_95_4 rfl rfl ?_
    refine xi_aload_n (pc' := 18) (x := 0) kc_95_17 rfl rfl ?_
    refine xi_iconst (pc' := 19) (v := (-1)) kc_95_18 rfl rfl ?_
    refine xi_virtual (mj := 91) (as := [.int (-1)]) (st1 := []) (lv0 := [(0, .ref 0), (1, .int (-1))]) kc_95_19 rfl rfl rfl rfl rfl (F 0 _ hl_0) (Nat.le_of_ble_eq_true rfl) (hJ _ _ _ _ (by decide)) (xm_le ml_91 rfl) rfl ?_
    refine xi_iload_n (pc' := 1) (x := (-1)) kc_91_0 rfl rfl ?_
    refine xi_ineg (pc' := 2) (v := 1) kc_91_1 rfl rfl ?_
    refine xi_istore_n (pc' := 3) (lv' := [(2, .int 1), (0, .ref 0), (1, .int (-1))]) kc_91_2 rfl rfl (xm_lt ml_91 rfl) ?_
    refine xi_iload_n (pc' := 4) (x := 1) kc_91_3 rfl rfl ?_
    refine xi_iff (pc' := 7) kc_91_4 rfl rfl ?_
    refine xi_iload_n (pc' := 8) (x := 1) kc_91_7 rfl rfl ?_
    refine xi_aload_n (pc' := 9) (x := 0) kc_91_8 rfl rfl ?_
    refine xi_getfield (pc' := 12) (v := .ref 94) kc_91_9 rfl rfl rfl (F 0 _ hl_0) rfl ?_
    refine xi_arraylength (pc' := 13) (n := 7) (v := 7) kc_91_12 rfl (xl_lenI (by decide) (by decide) (F 94 _ hl_94) (by simp only [List.length_replicate, List.length_cons, List.length_nil])) rfl ?_
    refine xi_cmf (pc' := 16) kc_91_13 rfl rfl ?_
    refine xi_aload_n (pc' := 17) (x := 0) kc_91_16 rfl rfl ?_
    refine xi_getfield (pc' := 20) (v := .ref 94) kc_91_17 rfl rfl rfl (F 0 _ hl_0) rfl ?_
    refine xi_iload_n (pc' := 21) (x := 1) kc_91_20 rfl rfl ?_
    refine xi_dup2 (pc' := 22) kc_91_21 rfl ⟨rfl, rfl⟩ ?_
    refine xi_iaload (pc' := 23) (v := 0) kc_91_22 rfl (F 94 _ hl_94) (by decide) rfl (xi_in (n := 7) (by decide) (by decide)) rfl ?_
    refine xi_iconst (pc' := 24) (v := 1) kc_91_23 rfl rfl ?_
    refine xi_iadd (pc' := 25) (v := 1) kc_91_24 rfl rfl ?_
    refine xi_iastore (pc' := 26) (x' := [0, 1, 0, 0, 0, 0, 0]) kc_91_25 rfl (F 94 _ hl_94) rfl (xi_in (n := 7) (by decide) (by decide)) rfl (fun hh1 eh1 => ?_)
    refine xi_iload_n (pc' := 27) (x := (-1)) kc_91_26 rfl rfl ?_
    refine xi_ireturn kc_91_27 mr_91 rfl ?_
    show xw J ov 99 95 (22, [(0, .ref 0), (1, .int a1), (2, .int a2), (3, .int a3)], [.int (-1)], hh1) _
    refine xi_ireturn kc_95_22 mr_95 rfl ?_
    show xw J ov 100 196 (263, [(4, .int 0), (3, .ref 167), (2, .ref 115), (1, .ref 0), (0, .ref 1000000)], [.int (-1)], hh1) _
    refine xi_aload_n (pc' := 264) (x := 115) kc_196_263 rfl rfl ?_
    refine xi_aload_n (pc' := 265) (x := 1000000) kc_196_264 rfl rfl ?_
    refine xi_iload (pc' := 267) (x := 0) kc_196_265 rfl rfl ?_
    refine xi_iconst (pc' := 268) (v := 1) kc_196_267 rfl rfl ?_
    refine xi_iadd (pc' := 269) (v := 1) kc_196_268 rfl rfl ?_
    refine xi_ialoadO (pc' := 270) (v := a1) kc_196_269 rfl (by decide) hov0 (xi_in (n := 6) (by decide) (by decide)) rfl ?_
    refine xi_aload_n (pc' := 271) (x := 1000000) kc_196_270 rfl rfl ?_
    refine xi_iload (pc' := 273) (x := 0) kc_196_271 rfl rfl ?_
    refine xi_iconst (pc' := 274) (v := 2) kc_196_273 rfl rfl ?_
    refine xi_iadd (pc' := 275) (v := 2) kc_196_274 rfl rfl ?_
    refine xi_ialoadO (pc' := 276) (v := a2) kc_196_275 rfl (by decide) hov0 (xi_in (n := 6) (by decide) (by decide)) rfl ?_
    refine xi_aload_n (pc' := 277) (x := 1000000) kc_196_276 rfl rfl ?_
    refine xi_iload (pc' := 279) (x := 0) kc_196_277 rfl rfl ?_
    refine xi_iconst (pc' := 280) (v := 3) kc_196_279 rfl rfl ?_
    refine xi_iadd (pc' := 281) (v := 3) kc_196_280 rfl rfl ?_
    refine xi_ialoadO (pc' := 282) (v := a3) kc_196_281 rfl (by decide) hov0 (xi_in (n := 6) (by decide) (by decide)) rfl ?_
    refine xi_virtual (mj := 16) (as := [.int a1, .int a2, .int a3]) (st1 := [.int (-1)]) (lv0 := [(0, .ref 115), (1, .int a1), (2, .int a2), (3, .int a3)]) kc_196_282 rfl rfl rfl rfl rfl ((eh1.2.1 115 (by decide)).trans (F 115 _ hl_115)) (Nat.le_of_ble_eq_true rfl) (hJ _ _ _ _ (by decide)) (xm_le ml_16 rfl) rfl ?_
    refine xi_aload_n (pc' := 1) (x := 115) kc_16_0 rfl rfl ?_
    refine xi_iconst (pc' := 2) (v := 0) kc_16_1 rfl rfl ?_
    refine xi_putfield (pc' := 5) (fs' := [.int 0, .int 0, .ref 116, .ref 117, .ref 118, .ref 119, .ref 120, .ref 121, .ref 122, .ref 123, .ref 124, .ref 125, .ref 126, .ref 127, .ref 128, .ref 129, .int 4, .ref 130, .int 0, .ref 131, .ref 132, .ref 133, .ref 134, .int 0, .ref 135, .ref 136, .ref 137, .ref 138, .ref 139, .ref 140, .ref 141, .ref 142, .int 0, .int 0, .int 0, .ref 143, .ref 144, .ref 145, .ref 146, .ref 147, .ref 148, .int 0, .ref 149, .ref 150, .ref 151, .int 0, .ref 152, .ref 153, .ref 154, .ref 155, .ref 156, .ref 157, .ref 158, .ref 159, .int 0, .ref 160, .int 0, .ref 161, .ref 162, .ref 163, .ref 164, .int 0, .ref 165, .ref 166]) kc_16_2 rfl rfl rfl ((eh1.2.1 115 (by decide)).trans (F 115 _ hl_115)) rfl rfl rfl (Nat.le_of_ble_eq_true rfl) rfl (fun hh2 eh2 => ?_)
    refine xi_iload_n (pc' := 6) (x := a1) kc_16_5 rfl rfl ?_
    refine xi_static (mj := 11) (as := [.int a1]) (st1 := []) (lv0 := [(0, .int a1)]) kc_16_6 rfl rfl (Nat.le_of_ble_eq_true rfl) rfl rfl (Nat.le_of_ble_eq_true rfl) (hJ _ _ _ _ (by decide)) (xm_le ml_11 rfl) rfl ?_
    refine xi_iload_n (pc' := 1) (x := a1) kc_11_0 rfl rfl ?_
    refine xi_iconst (pc' := 2) (v := 0) kc_11_1 rfl rfl ?_
    refine xi_iconst (pc' := 3) (v := 5) kc_11_2 rfl rfl ?_
    refine xi_static (mj := 12) (as := [.int a1, .int 0, .int 5]) (st1 := []) (lv0 := [(0, .int a1), (1, .int 0), (2, .int 5)]) kc_11_3 rfl rfl (Nat.le_of_ble_eq_true rfl) rfl rfl (Nat.le_of_ble_eq_true rfl) (hJ _ _ _ _ (by decide)) (xm_le ml_12 rfl) rfl ?_
    refine xi_iload_n (pc' := 1) (x := a1) kc_12_0 rfl rfl ?_
    refine xi_iload_n (pc' := 2) (x := 0) kc_12_1 rfl rfl ?_
    refine xi_cmt (pc' := 14) kc_12_2 rfl (xc_lt_t (X := a1.toInt) (Y := 0) rfl (by decide) (by omega)) ?_
    refine xi_iconst (pc' := 15) (v := 0) kc_12_14 rfl rfl ?_
    refine xi_ireturn kc_12_15 mr_12 rfl ?_
    show xw J ov 98 11 (6, [(0, .int a1)], [.int 0], hh2) _
    refine xi_ireturn kc_11_6 mr_11 rfl ?_
    show xw J ov 99 16 (9, [(0, .ref 115), (1, .int a1), (2, .int a2), (3, .int a3)], [.int 0], hh2) _
    refine xi_ift (pc' := 22) kc_16_9 rfl rfl ?_
    refine xi_aload_n (pc' := 23) (x := 115) kc_16_22 rfl rfl ?_
    refine xi_iconst (pc' := 24) (v := (-1)) kc_16_23 rfl rfl ?_
    refine xi_virtual (mj := 13) (as := [.int (-1)]) (st1 := []) (lv0 := [(0, .ref 115), (1, .int (-1))]) kc_16_24 rfl rfl rfl rfl rfl eh2.1 (Nat.le_of_ble_eq_true rfl) (hJ _ _ _ _ (by decide)) (xm_le ml_13 rfl) rfl ?_
    refine xi_aload_n (pc' := 1) (x := 115) kc_13_0 rfl rfl ?_
    refine xi_getfield (pc' := 4) (v := .ref 140) kc_13_1 rfl rfl rfl eh2.1 rfl ?_
    refine xi_iload_n (pc' := 5) (x := (-1)) kc_13_4 rfl rfl ?_
    refine xi_ineg (pc' := 6) (v := 1) kc_13_5 rfl rfl ?_
    refine xi_dup2 (pc' := 7) kc_13_6 rfl ⟨rfl, rfl⟩ ?_
    refine xi_iaload (pc' := 8) (v := 0) kc_13_7 rfl ((eh2.2.1 140 (by decide)).trans ((eh1.2.1 140 (by decide)).trans (F 140 _ hl_140))) (by decide) rfl (xi_in (n := 7) (by decide) (by decide)) rfl ?_
    refine xi_iconst (pc' := 9) (v := 1) kc_13_8 rfl rfl ?_
    refine xi_iadd (pc' := 10) (v := 1) kc_13_9 rfl rfl ?_
    refine xi_iastore (pc' := 11) (x' := [0, 1, 0, 0, 0, 0, 0]) kc_13_10 rfl ((eh2.2.1 140 (by decide)).trans ((eh1.2.1 140 (by decide)).trans (F 140 _ hl_140))) rfl (xi_in (n := 7) (by decide) (by decide)) rfl (fun hh3 eh3 => ?_)
    refine xi_iload_n (pc' := 12) (x := (-1)) kc_13_11 rfl rfl ?_
    refine xi_ireturn kc_13_12 mr_13 rfl ?_
    show xw J ov 99 16 (27, [(0, .ref 115), (1, .int a1), (2, .int a2), (3, .int a3)], [.int (-1)], hh3) _
    refine xi_ireturn kc_16_27 mr_16 rfl ?_
    show xw J ov 100 196 (285, [(4, .int 0), (3, .ref 167), (2, .ref 115), (1, .ref 0), (0, .ref 1000000)], [.int (-1), .int (-1)], hh3) _
    refine xi_cmt (pc' := 1528) kc_196_285 rfl rfl ?_
    refine xi_iinc (pc' := 1531) (x := 0) (v := 6) (lv' := [(4, .int 6), (3, .ref 167), (2, .ref 115), (1, .ref 0), (0, .ref 1000000)]) kc_196_1528 rfl rfl rfl rfl (xm_lt ml_196 rfl) ?_
    refine xi_goto (pc' := 23) kc_196_1531 rfl ?_
    refine xi_iload (pc' := 25) (x := 6) kc_196_23 rfl rfl ?_
    refine xi_aload_n (pc' := 26) (x := 1000000) kc_196_25 rfl rfl ?_
    refine xi_arraylength (pc' := 27) (n := 6) (v := 6) kc_196_26 rfl (xl_lenO (by decide) hov0 rfl) rfl ?_
    refine xi_bipush (pc' := 29) (v := 6) kc_196_27 rfl rfl ?_
    refine xi_isub (pc' := 30) (v := 0) kc_196_29 rfl rfl ?_
    refine xi_cmt (pc' := 1534) kc_196_30 rfl rfl ?_
    refine xi_iconst (pc' := 1535) (v := 1) kc_196_1534 rfl rfl ?_
    refine xi_ireturn kc_196_1535 mr_196 rfl ?_
    refine ⟨rfl, ?_, ?_⟩
    · rw [eh3.2.2.1, eh2.2.2.1, eh1.2.2.1]; exact hn0
    · rw [eh3.2.2.2, eh2.2.2.2, eh1.2.2.2]; exact hz0
  · refine xi_iff (pc' := 4) kc_90_1 rfl (xc_lt_f (X := a1.toInt) (Y := 0) rfl (by decide) (by omega)) ?_
    refine xi_iload_n (pc' := 5) (x := a1) kc_90_4 rfl rfl ?_
    refine xi_bipush (pc' := 7) (v := 6) kc_90_5 rfl rfl ?_
    by_cases c2 : 6 ≤ a1.toInt
    · refine xi_cmt (pc' := 14) kc_90_7 rfl (xc_ge_t (X := a1.toInt) (Y := 6) rfl (by decide) (by omega)) ?_
      refine xi_iconst (pc' := 15) (v := 0) kc_90_14 rfl rfl ?_
      refine xi_ireturn kc_90_15 mr_90 rfl ?_
      show xw J ov 99 95 (4, [(0, .ref 0), (1, .int a1), (2, .int a2), (3, .int a3)], [.int 0], h0) _
      refine xi_ift (pc' := 17) kc_95_4 rfl rfl ?_
      refine xi_aload_n (pc' := 18) (x := 0) kc_95_17 rfl rfl ?_
      refine xi_iconst (pc' := 19) (v := (-1)) kc_95_18 rfl rfl ?_
      refine xi_virtual (mj := 91) (as := [.int (-1)]) (st1 := []) (lv0 := [(0, .ref 0), (1, .int (-1))]) kc_95_19 rfl rfl rfl rfl rfl (F 0 _ hl_0) (Nat.le_of_ble_eq_true rfl) (hJ _ _ _ _ (by decide)) (xm_le ml_91 rfl) rfl ?_
      refine xi_iload_n (pc' := 1) (x := (-1)) kc_91_0 rfl rfl ?_
      refine xi_ineg (pc' := 2) (v := 1) kc_91_1 rfl rfl ?_
      refine xi_istore_n (pc' := 3) (lv' := [(2, .int 1), (0, .ref 0), (1, .int (-1))]) kc_91_2 rfl rfl (xm_lt ml_91 rfl) ?_
      refine xi_iload_n (pc' := 4) (x := 1) kc_91_3 rfl rfl ?_
      refine xi_iff (pc' := 7) kc_91_4 rfl rfl ?_
      refine xi_iload_n (pc' := 8) (x := 1) kc_91_7 rfl rfl ?_
      refine xi_aload_n (pc' := 9) (x := 0) kc_91_8 rfl rfl ?_
      refine xi_getfield (pc' := 12) (v := .ref 94) kc_91_9 rfl rfl rfl (F 0 _ hl_0) rfl ?_
      refine xi_arraylength (pc' := 13) (n := 7) (v := 7) kc_91_12 rfl (xl_lenI (by decide) (by decide) (F 94 _ hl_94) (by simp only [List.length_replicate, List.length_cons, List.length_nil])) rfl ?_
      refine xi_cmf (pc' := 16) kc_91_13 rfl rfl ?_
      refine xi_aload_n (pc' := 17) (x := 0) kc_91_16 rfl rfl ?_
      refine xi_getfield (pc' := 20) (v := .ref 94) kc_91_17 rfl rfl rfl (F 0 _ hl_0) rfl ?_
      refine xi_iload_n (pc' := 21) (x := 1) kc_91_20 rfl rfl ?_
      refine xi_dup2 (pc' := 22) kc_91_21 rfl ⟨rfl, rfl⟩ ?_
      refine xi_iaload (pc' := 23) (v := 0) kc_91_22 rfl (F 94 _ hl_94) (by decide) rfl (xi_in (n := 7) (by decide) (by decide)) rfl ?_
      refine xi_iconst (pc' := 24) (v := 1) kc_91_23 rfl rfl ?_
      refine xi_iadd (pc' := 25) (v := 1) kc_91_24 rfl rfl ?_
      refine xi_iastore (pc' := 26) (x' := [0, 1, 0, 0, 0, 0, 0]) kc_91_25 rfl (F 94 _ hl_94) rfl (xi_in (n := 7) (by decide) (by decide)) rfl (fun hh1 eh1 => ?_)
      refine xi_iload_n (pc' := 27) (x := (-1)) kc_91_26 rfl rfl ?_
      refine xi_ireturn kc_91_27 mr_91 rfl ?_
      show xw J ov 99 95 (22, [(0, .ref 0), (1, .int a1), (2, .int a2), (3, .int a3)], [.int (-1)], hh1) _
      refine xi_ireturn kc_95_22 mr_95 rfl ?_
      show xw J ov 100 196 (263, [(4, .int 0), (3, .ref 167), (2, .ref 115), (1, .ref 0), (0, .ref 1000000)], [.int (-1)], hh1) _
      refine xi_aload_n (pc' := 264) (x := 115) kc_196_263 rfl rfl ?_
      refine xi_aload_n (pc' := 265) (x := 1000000) kc_196_264 rfl rfl ?_
      refine xi_iload (pc' := 267) (x := 0) kc_196_265 rfl rfl ?_
      refine xi_iconst (pc' := 268) (v := 1) kc_196_267 rfl rfl ?_
      refine xi_iadd (pc' := 269) (v := 1) kc_196_268 rfl rfl ?_
      refine xi_ialoadO (pc' := 270) (v := a1) kc_196_269 rfl (by decide) hov0 (xi_in (n := 6) (by decide) (by decide)) rfl ?_
      refine xi_aload_n (pc' := 271) (x := 1000000) kc_196_270 rfl rfl ?_
      refine xi_iload (pc' := 273) (x := 0) kc_196_271 rfl rfl ?_
      refine xi_iconst (pc' := 274) (v := 2) kc_196_273 rfl rfl ?_
      refine xi_iadd (pc' := 275) (v := 2) kc_196_274 rfl rfl ?_
      refine xi_ialoadO (pc' := 276) (v := a2) kc_196_275 rfl (by decide) hov0 (xi_in (n := 6) (by decide) (by decide)) rfl ?_
      refine xi_aload_n (pc' := 277) (x := 1000000) kc_196_276 rfl rfl ?_
      refine xi_iload (pc' := 279) (x := 0) kc_196_277 rfl rfl ?_
      refine xi_iconst (pc' := 280) (v := 3) kc_196_279 rfl rfl ?_
      refine xi_iadd (pc' := 281) (v := 3) kc_196_280 rfl rfl ?_
      refine xi_ialoadO (pc' := 282) (v := a3) kc_196_281 rfl (by decide) hov0 (xi_in (n := 6) (by decide) (by decide)) rfl ?_
      refine xi_virtual (mj := 16) (as := [.int a1, .int a2, .int a3]) (st1 := [.int (-1)]) (lv0 := [(0, .ref 115), (1, .int a1), (2, .int a2), (3, .int a3)]) kc_196_282 rfl rfl rfl rfl rfl ((eh1.2.1 115 (by decide)).trans (F 115 _ hl_115)) (Nat.le_of_ble_eq_true rfl) (hJ _ _ _ _ (by decide)) (xm_le ml_16 rfl) rfl ?_
      refine xi_aload_n (pc' := 1) (x := 115) kc_16_0 rfl rfl ?_
      refine xi_iconst (pc' := 2) (v := 0) kc_16_1 rfl rfl ?_
      refine xi_putfield (pc' := 5) (fs' := [.int 0, .int 0, .ref 116, .ref 117, .ref 118, .ref 119, .ref 120, .ref 121, .ref 122, .ref 123, .ref 124, .ref 125, .ref 126, .ref 127, .ref 128, .ref 129, .int 4, .ref 130, .int 0, .ref 131, .ref 132, .ref 133, .ref 134, .int 0, .ref 135, .ref 136, .ref 137, .ref 138, .ref 139, .ref 140, .ref 141, .ref 142, .int 0, .int 0, .int 0, .ref 143, .ref 144, .ref 145, .ref 146, .ref 147, .ref 148, .int 0, .ref 149, .ref 150, .ref 151, .int 0, .ref 152, .ref 153, .ref 154, .ref 155, .ref 156, .ref 157, .ref 158, .ref 159, .int 0, .ref 160, .int 0, .ref 161, .ref 162, .ref 163, .ref 164, .int 0, .ref 165, .ref 166]) kc_16_2 rfl rfl rfl ((eh1.2.1 115 (by decide)).trans (F 115 _ hl_115)) rfl rfl rfl (Nat.le_of_ble_eq_true rfl) rfl (fun hh2 eh2 => ?_)
      refine xi_iload_n (pc' := 6) (x := a1) kc_16_5 rfl rfl ?_
      refine xi_static (mj := 11) (as := [.int a1]) (st1 := []) (lv0 := [(0, .int a1)]) kc_16_6 rfl rfl (Nat.le_of_ble_eq_true rfl) rfl rfl (Nat.le_of_ble_eq_true rfl) (hJ _ _ _ _ (by decide)) (xm_le ml_11 rfl) rfl ?_
      refine xi_iload_n (pc' := 1) (x := a1) kc_11_0 rfl rfl ?_
      refine xi_iconst (pc' := 2) (v := 0) kc_11_1 rfl rfl ?_
      refine xi_iconst (pc' := 3) (v := 5) kc_11_2 rfl rfl ?_
      refine xi_static (mj := 12) (as := [.int a1, .int 0, .int 5]) (st1 := []) (lv0 := [(0, .int a1), (1, .int 0), (2, .int 5)]) kc_11_3 rfl rfl (Nat.le_of_ble_eq_true rfl) rfl rfl (Nat.le_of_ble_eq_true rfl) (hJ _ _ _ _ (by decide)) (xm_le ml_12 rfl) rfl ?_
      refine xi_iload_n (pc' := 1) (x := a1) kc_12_0 rfl rfl ?_
      refine xi_iload_n (pc' := 2) (x := 0) kc_12_1 rfl rfl ?_
      refine xi_cmf (pc' := 5) kc_12_2 rfl (xc_lt_f (X := a1.toInt) (Y := 0) rfl (by decide) (by omega)) ?_
      refine xi_iload_n (pc' := 6) (x := a1) kc_12_5 rfl rfl ?_
      refine xi_iload_n (pc' := 7) (x := 5) kc_12_6 rfl rfl ?_
      refine xi_cmt (pc' := 14) kc_12_7 rfl (xc_gt_t (X := a1.toInt) (Y := 5) rfl (by decide) (by omega)) ?_
      refine xi_iconst (pc' := 15) (v := 0) kc_12_14 rfl rfl ?_
      refine xi_ireturn kc_12_15 mr_12 rfl ?_
      show xw J ov 98 11 (6, [(0, .int a1)], [.int 0], hh2) _
      refine xi_ireturn kc_11_6 mr_11 rfl ?_
      show xw J ov 99 16 (9, [(0, .ref 115), (1, .int a1), (2, .int a2), (3, .int a3)], [.int 0], hh2) _
      refine xi_ift (pc' := 22) kc_16_9 rfl rfl ?_
      refine xi_aload_n (pc' := 23) (x := 115) kc_16_22 rfl rfl ?_
      refine xi_iconst (pc' := 24) (v := (-1)) kc_16_23 rfl rfl ?_
      refine xi_virtual (mj := 13) (as := [.int (-1)]) (st1 := []) (lv0 := [(0, .ref 115), (1, .int (-1))]) kc_16_24 rfl rfl rfl rfl rfl eh2.1 (Nat.le_of_ble_eq_true rfl) (hJ _ _ _ _ (by decide)) (xm_le ml_13 rfl) rfl ?_
      refine xi_aload_n (pc' := 1) (x := 115) kc_13_0 rfl rfl ?_
      refine xi_getfield (pc' := 4) (v := .ref 140) kc_13_1 rfl rfl rfl eh2.1 rfl ?_
      refine xi_iload_n (pc' := 5) (x := (-1)) kc_13_4 rfl rfl ?_
      refine xi_ineg (pc' := 6) (v := 1) kc_13_5 rfl rfl ?_
      refine xi_dup2 (pc' := 7) kc_13_6 rfl ⟨rfl, rfl⟩ ?_
      refine xi_iaload (pc' := 8) (v := 0) kc_13_7 rfl ((eh2.2.1 140 (by decide)).trans ((eh1.2.1 140 (by decide)).trans (F 140 _ hl_140))) (by decide) rfl (xi_in (n := 7) (by decide) (by decide)) rfl ?_
      refine xi_iconst (pc' := 9) (v := 1) kc_13_8 rfl rfl ?_
      refine xi_iadd (pc' := 10) (v := 1) kc_13_9 rfl rfl ?_
      refine xi_iastore (pc' := 11) (x' := [0, 1, 0, 0, 0, 0, 0]) kc_13_10 rfl ((eh2.2.1 140 (by decide)).trans ((eh1.2.1 140 (by decide)).trans (F 140 _ hl_140))) rfl (xi_in (n := 7) (by decide) (by decide)) rfl (fun hh3 eh3 => ?_)
      refine xi_iload_n (pc' := 12) (x := (-1)) kc_13_11 rfl rfl ?_
      refine xi_ireturn kc_13_12 mr_13 rfl ?_
      show xw J ov 99 16 (27, [(0, .ref 115), (1, .int a1), (2, .int a2), (3, .int a3)], [.int (-1)], hh3) _
      refine xi_ireturn kc_16_27 mr_16 rfl ?_
      show xw J ov 100 196 (285, [(4, .int 0), (3, .ref 167), (2, .ref 115), (1, .ref 0), (0, .ref 1000000)], [.int (-1), .int (-1)], hh3) _
      refine xi_cmt (pc' := 1528) kc_196_285 rfl rfl ?_
      refine xi_iinc (pc' := 1531) (x := 0) (v := 6) (lv' := [(4, .int 6), (3, .ref 167), (2, .ref 115), (1, .ref 0), (0, .ref 1000000)]) kc_196_1528 rfl rfl rfl rfl (xm_lt ml_196 rfl) ?_
      refine xi_goto (pc' := 23) kc_196_1531 rfl ?_
      refine xi_iload (pc' := 25) (x := 6) kc_196_23 rfl rfl ?_
      refine xi_aload_n (pc' := 26) (x := 1000000) kc_196_25 rfl rfl ?_
      refine xi_arraylength (pc' := 27) (n := 6) (v := 6) kc_196_26 rfl (xl_lenO (by decide) hov0 rfl) rfl ?_
      refine xi_bipush (pc' := 29) (v := 6) kc_196_27 rfl rfl ?_
      refine xi_isub (pc' := 30) (v := 0) kc_196_29 rfl rfl ?_
      refine xi_cmt (pc' := 1534) kc_196_30 rfl rfl ?_
      refine xi_iconst (pc' := 1535) (v := 1) kc_196_1534 rfl rfl ?_
      refine xi_ireturn kc_196_1535 mr_196 rfl ?_
      refine ⟨rfl, ?_, ?_⟩
      · rw [eh3.2.2.1, eh2.2.2.1, eh1.2.2.1]; exact hn0
      · rw [eh3.2.2.2, eh2.2.2.2, eh1.2.2.2]; exact hz0
    · refine xi_cmf (pc' := 10) kc_90_7 rfl (xc_ge_f (X := a1.toInt) (Y := 6) rfl (by decide) (by omega)) ?_
      refine xi_iconst (pc' := 11) (v := 1) kc_90_10 rfl rfl ?_
      refine xi_goto (pc' := 15) kc_90_11 rfl ?_
      refine xi_ireturn kc_90_15 mr_90 rfl ?_
      show xw J ov 99 95 (4, [(0, .ref 0), (1, .int a1), (2, .int a2), (3, .int a3)], [.int 1], h0) _
      refine xi_iff (pc' := 7) kc_95_4 rfl rfl ?_
      refine xi_iload_n (pc' := 8) (x := a2) kc_95_7 rfl rfl ?_
      by_cases c3 : a2.toInt < 0
      · refine xi_ift (pc' := 17) kc_95_8 rfl (xc_lt_t (X := a2.toInt) (Y := 0) rfl (by decide) (by omega)) ?_
        refine xi_aload_n (pc' := 18) (x := 0) kc_95_17 rfl rfl ?_
        refine xi_iconst (pc' := 19) (v := (-1)) kc_95_18 rfl rfl ?_
        refine xi_virtual (mj := 91) (as := [.int (-1)]) (st1 := []) (lv0 := [(0, .ref 0), (1, .int (-1))]) kc_95_19 rfl rfl rfl rfl rfl (F 0 _ hl_0) (Nat.le_of_ble_eq_true rfl) (hJ _ _ _ _ (by decide)) (xm_le ml_91 rfl) rfl ?_
        refine xi_iload_n (pc' := 1) (x := (-1)) kc_91_0 rfl rfl ?_
        refine xi_ineg (pc' := 2) (v := 1) kc_91_1 rfl rfl ?_
        refine xi_istore_n (pc' := 3) (lv' := [(2, .int 1), (0, .ref 0), (1, .int (-1))]) kc_91_2 rfl rfl (xm_lt ml_91 rfl) ?_
        refine xi_iload_n (pc' := 4) (x := 1) kc_91_3 rfl rfl ?_
        refine xi_iff (pc' := 7) kc_91_4 rfl rfl ?_
        refine xi_iload_n (pc' := 8) (x := 1) kc_91_7 rfl rfl ?_
        refine xi_aload_n (pc' := 9) (x := 0) kc_91_8 rfl rfl ?_
        refine xi_getfield (pc' := 12) (v := .ref 94) kc_91_9 rfl rfl rfl (F 0 _ hl_0) rfl ?_
        refine xi_arraylength (pc' := 13) (n := 7) (v := 7) kc_91_12 rfl (xl_lenI (by decide) (by decide) (F 94 _ hl_94) (by simp only [List.length_replicate, List.length_cons, List.length_nil])) rfl ?_
        refine xi_cmf (pc' := 16) kc_91_13 rfl rfl ?_
        refine xi_aload_n (pc' := 17) (x := 0) kc_91_16 rfl rfl ?_
        refine xi_getfield (pc' := 20) (v := .ref 94) kc_91_17 rfl rfl rfl (F 0 _ hl_0) rfl ?_
        refine xi_iload_n (pc' := 21) (x := 1) kc_91_20 rfl rfl ?_
        refine xi_dup2 (pc' := 22) kc_91_21 rfl ⟨rfl, rfl⟩ ?_
        refine xi_iaload (pc' := 23) (v := 0) kc_91_22 rfl (F 94 _ hl_94) (by decide) rfl (xi_in (n := 7) (by decide) (by decide)) rfl ?_
        refine xi_iconst (pc' := 24) (v := 1) kc_91_23 rfl rfl ?_
        refine xi_iadd (pc' := 25) (v := 1) kc_91_24 rfl rfl ?_
        refine xi_iastore (pc' := 26) (x' := [0, 1, 0, 0, 0, 0, 0]) kc_91_25 rfl (F 94 _ hl_94) rfl (xi_in (n := 7) (by decide) (by decide)) rfl (fun hh1 eh1 => ?_)
        refine xi_iload_n (pc' := 27) (x := (-1)) kc_91_26 rfl rfl ?_
        refine xi_ireturn kc_91_27 mr_91 rfl ?_
        show xw J ov 99 95 (22, [(0, .ref 0), (1, .int a1), (2, .int a2), (3, .int a3)], [.int (-1)], hh1) _
        refine xi_ireturn kc_95_22 mr_95 rfl ?_
        show xw J ov 100 196 (263, [(4, .int 0), (3, .ref 167), (2, .ref 115), (1, .ref 0), (0, .ref 1000000)], [.int (-1)], hh1) _
        refine xi_aload_n (pc' := 264) (x := 115) kc_196_263 rfl rfl ?_
        refine xi_aload_n (pc' := 265) (x := 1000000) kc_196_264 rfl rfl ?_
        refine xi_iload (pc' := 267) (x := 0) kc_196_265 rfl rfl ?_
        refine xi_iconst (pc' := 268) (v := 1) kc_196_267 rfl rfl ?_
        refine xi_iadd (pc' := 269) (v := 1) kc_196_268 rfl rfl ?_
        refine xi_ialoadO (pc' := 270) (v := a1) kc_196_269 rfl (by decide) hov0 (xi_in (n := 6) (by decide) (by decide)) rfl ?_
        refine xi_aload_n (pc' := 271) (x := 1000000) kc_196_270 rfl rfl ?_
        refine xi_iload (pc' := 273) (x := 0) kc_196_271 rfl rfl ?_
        refine xi_iconst (pc' := 274) (v := 2) kc_196_273 rfl rfl ?_
        refine xi_iadd (pc' := 275) (v := 2) kc_196_274 rfl rfl ?_
        refine xi_ialoadO (pc' := 276) (v := a2) kc_196_275 rfl (by decide) hov0 (xi_in (n := 6) (by decide) (by decide)) rfl ?_
        refine xi_aload_n (pc' := 277) (x := 1000000) kc_196_276 rfl rfl ?_
        refine xi_iload (pc' := 279) (x := 0) kc_196_277 rfl rfl ?_
        refine xi_iconst (pc' := 280) (v := 3) kc_196_279 rfl rfl ?_
        refine xi_iadd (pc' := 281) (v := 3) kc_196_280 rfl rfl ?_
        refine xi_ialoadO (pc' := 282) (v := a3) kc_196_281 rfl (by decide) hov0 (xi_in (n := 6) (by decide) (by decide)) rfl ?_
        refine xi_virtual (mj := 16) (as := [.int a1, .int a2, .int a3]) (st1 := [.int (-1)]) (lv0 := [(0, .ref 115), (1, .int a1), (2, .int a2), (3, .int a3)]) kc_196_282 rfl rfl rfl rfl rfl ((eh1.2.1 115 (by decide)).trans (F 115 _ hl_115)) (Nat.le_of_ble_eq_true rfl) (hJ _ _ _ _ (by decide)) (xm_le ml_16 rfl) rfl ?_
        refine xi_aload_n (pc' := 1) (x := 115) kc_16_0 rfl rfl ?_
        refine xi_iconst (pc' := 2) (v := 0) kc_16_1 rfl rfl ?_
        refine xi_putfield (pc' := 5) (fs' := [.int 0, .int 0, .ref 116, .ref 117, .ref 118, .ref 119, .ref 120, .ref 121, .ref 122, .ref 123, .ref 124, .ref 125, .ref 126, .ref 127, .ref 128, .ref 129, .int 4, .ref 130, .int 0, .ref 131, .ref 132, .ref 133, .ref 134, .int 0, .ref 135, .ref 136, .ref 137, .ref 138, .ref 139, .ref 140, .ref 141, .ref 142, .int 0, .int 0, .int 0, .ref 143, .ref 144, .ref 145, .ref 146, .ref 147, .ref 148, .int 0, .ref 149, .ref 150, .ref 151, .int 0, .ref 152, .ref 153, .ref 154, .ref 155, .ref 156, .ref 157, .ref 158, .ref 159, .int 0, .ref 160, .int 0, .ref 161, .ref 162, .ref 163, .ref 164, .int 0, .ref 165, .ref 166]) kc_16_2 rfl rfl rfl ((eh1.2.1 115 (by decide)).trans (F 115 _ hl_115)) rfl rfl rfl (Nat.le_of_ble_eq_true rfl) rfl (fun hh2 eh2 => ?_)
        refine xi_iload_n (pc' := 6) (x := a1) kc_16_5 rfl rfl ?_
        refine xi_static (mj := 11) (as := [.int a1]) (st1 := []) (lv0 := [(0, .int a1)]) kc_16_6 rfl rfl (Nat.le_of_ble_eq_true rfl) rfl rfl (Nat.le_of_ble_eq_true rfl) (hJ _ _ _ _ (by decide)) (xm_le ml_11 rfl) rfl ?_
        refine xi_iload_n (pc' := 1) (x := a1) kc_11_0 rfl rfl ?_
        refine xi_iconst (pc' := 2) (v := 0) kc_11_1 rfl rfl ?_
        refine xi_iconst (pc' := 3) (v := 5) kc_11_2 rfl rfl ?_
        refine xi_static (mj := 12) (as := [.int a1, .int 0, .int 5]) (st1 := []) (lv0 := [(0, .int a1), (1, .int 0), (2, .int 5)]) kc_11_3 rfl rfl (Nat.le_of_ble_eq_true rfl) rfl rfl (Nat.le_of_ble_eq_true rfl) (hJ _ _ _ _ (by decide)) (xm_le ml_12 rfl) rfl ?_
        refine xi_iload_n (pc' := 1) (x := a1) kc_12_0 rfl rfl ?_
        refine xi_iload_n (pc' := 2) (x := 0) kc_12_1 rfl rfl ?_
        refine xi_cmf (pc' := 5) kc_12_2 rfl (xc_lt_f (X := a1.toInt) (Y := 0) rfl (by decide) (by omega)) ?_
        refine xi_iload_n (pc' := 6) (x := a1) kc_12_5 rfl rfl ?_
        refine xi_iload_n (pc' := 7) (x := 5) kc_12_6 rfl rfl ?_
        refine xi_cmf (pc' := 10) kc_12_7 rfl (xc_gt_f (X := a1.toInt) (Y := 5) rfl (by decide) (by omega)) ?_
        refine xi_iconst (pc' := 11) (v := 1) kc_12_10 rfl rfl ?_
        refine xi_goto (pc' := 15) kc_12_11 rfl ?_
        refine xi_ireturn kc_12_15 mr_12 rfl ?_
        show xw J ov 98 11 (6, [(0, .int a1)], [.int 1], hh2) _
        refine xi_ireturn kc_11_6 mr_11 rfl ?_
        show xw J ov 99 16 (9, [(0, .ref 115), (1, .int a1), (2, .int a2), (3, .int a3)], [.int 1], hh2) _
        refine xi_iff (pc' := 12) kc_16_9 rfl rfl ?_
        refine xi_iload_n (pc' := 13) (x := a2) kc_16_12 rfl rfl ?_
        refine xi_iconst (pc' := 14) (v := 0) kc_16_13 rfl rfl ?_
        refine xi_bipush (pc' := 16) (v := 23) kc_16_14 rfl rfl ?_
        refine xi_static (mj := 12) (as := [.int a2, .int 0, .int 23]) (st1 := []) (lv0 := [(0, .int a2), (1, .int 0), (2, .int 23)]) kc_16_16 rfl rfl (Nat.le_of_ble_eq_true rfl) rfl rfl (Nat.le_of_ble_eq_true rfl) (hJ _ _ _ _ (by decide)) (xm_le ml_12 rfl) rfl ?_
        refine xi_iload_n (pc' := 1) (x := a2) kc_12_0 rfl rfl ?_
        refine xi_iload_n (pc' := 2) (x := 0) kc_12_1 rfl rfl ?_
        refine xi_cmt (pc' := 14) kc_12_2 rfl (xc_lt_t (X := a2.toInt) (Y := 0) rfl (by decide) (by omega)) ?_
        refine xi_iconst (pc' := 15) (v := 0) kc_12_14 rfl rfl ?_
        refine xi_ireturn kc_12_15 mr_12 rfl ?_
        show xw J ov 99 16 (19, [(0, .ref 115), (1, .int a1), (2, .int a2), (3, .int a3)], [.int 0], hh2) _
        refine xi_iff (pc' := 22) kc_16_19 rfl rfl ?_
        refine xi_aload_n (pc' := 23) (x := 115) kc_16_22 rfl rfl ?_
        refine xi_iconst (pc' := 24) (v := (-1)) kc_16_23 rfl rfl ?_
        refine xi_virtual (mj := 13) (as := [.int (-1)]) (st1 := []) (lv0 := [(0, .ref 115), (1, .int (-1))]) kc_16_24 rfl rfl rfl rfl rfl eh2.1 (Nat.le_of_ble_eq_true rfl) (hJ _ _ _ _ (by decide)) (xm_le ml_13 rfl) rfl ?_
        refine xi_aload_n (pc' := 1) (x := 115) kc_13_0 rfl rfl ?_
        refine xi_getfield (pc' := 4) (v := .ref 140) kc_13_1 rfl rfl rfl eh2.1 rfl ?_
        refine xi_iload_n (pc' := 5) (x := (-1)) kc_13_4 rfl rfl ?_
        refine xi_ineg (pc' := 6) (v := 1) kc_13_5 rfl rfl ?_
        refine xi_dup2 (pc' := 7) kc_13_6 rfl ⟨rfl, rfl⟩ ?_
        refine xi_iaload (pc' := 8) (v := 0) kc_13_7 rfl ((eh2.2.1 140 (by decide)).trans ((eh1.2.1 140 (by decide)).trans (F 140 _ hl_140))) (by decide) rfl (xi_in (n := 7) (by decide) (by decide)) rfl ?_
        refine xi_iconst (pc' := 9) (v := 1) kc_13_8 rfl rfl ?_
        refine xi_iadd (pc' := 10) (v := 1) kc_13_9 rfl rfl ?_
        refine xi_iastore (pc' := 11) (x' := [0, 1, 0, 0, 0, 0, 0]) kc_13_10 rfl ((eh2.2.1 140 (by decide)).trans ((eh1.2.1 140 (by decide)).trans (F 140 _ hl_140))) rfl (xi_in (n := 7) (by decide) (by decide)) rfl (fun hh3 eh3 => ?_)
        refine xi_iload_n (pc' := 12) (x := (-1)) kc_13_11 rfl rfl ?_
        refine xi_ireturn kc_13_12 mr_13 rfl ?_
        show xw J ov 99 16 (27, [(0, .ref 115), (1, .int a1), (2, .int a2), (3, .int a3)], [.int (-1)], hh3) _
        refine xi_ireturn kc_16_27 mr_16 rfl ?_
        show xw J ov 100 196 (285, [(4, .int 0), (3, .ref 167), (2, .ref 115), (1, .ref 0), (0, .ref 1000000)], [.int (-1), .int (-1)], hh3) _
        refine xi_cmt (pc' := 1528) kc_196_285 rfl rfl ?_
        refine xi_iinc (pc' := 1531) (x := 0) (v := 6) (lv' := [(4, .int 6), (3, .ref 167), (2, .ref 115), (1, .ref 0), (0, .ref 1000000)]) kc_196_1528 rfl rfl rfl rfl (xm_lt ml_196 rfl) ?_
        refine xi_goto (pc' := 23) kc_196_1531 rfl ?_
        refine xi_iload (pc' := 25) (x := 6) kc_196_23 rfl rfl ?_
        refine xi_aload_n (pc' := 26) (x := 1000000) kc_196_25 rfl rfl ?_
        refine xi_arraylength (pc' := 27) (n := 6) (v := 6) kc_196_26 rfl (xl_lenO (by decide) hov0 rfl) rfl ?_
        refine xi_bipush (pc' := 29) (v := 6) kc_196_27 rfl rfl ?_
        refine xi_isub (pc' := 30) (v := 0) kc_196_29 rfl rfl ?_
        refine xi_cmt (pc' := 1534) kc_196_30 rfl rfl ?_
        refine xi_iconst (pc' := 1535) (v := 1) kc_196_1534 rfl rfl ?_
        refine xi_ireturn kc_196_1535 mr_196 rfl ?_
        refine ⟨rfl, ?_, ?_⟩
        · rw [eh3.2.2.1, eh2.2.2.1, eh1.2.2.1]; exact hn0
        · rw [eh3.2.2.2, eh2.2.2.2, eh1.2.2.2]; exact hz0
      · refine xi_iff (pc' := 11) kc_95_8 rfl (xc_lt_f (X := a2.toInt) (Y := 0) rfl (by decide) (by omega)) ?_
        refine xi_iload_n (pc' := 12) (x := a2) kc_95_11 rfl rfl ?_
        refine xi_bipush (pc' := 14) (v := 24) kc_95_12 rfl rfl ?_
        by_cases c4 : a2.toInt < 24
        · refine xi_cmt (pc' := 23) kc_95_14 rfl (xc_lt_t (X := a2.toInt) (Y := 24) rfl (by decide) (by omega)) ?_
          refine xi_iload_n (pc' := 24) (x := a3) kc_95_23 rfl rfl ?_
          by_cases c5 : 0 ≤ a3.toInt
          · refine xi_ift (pc' := 34) kc_95_24 rfl (xc_ge_t (X := a3.toInt) (Y := 0) rfl (by decide) (by omega)) ?_
            refine xi_iload_n (pc' := 35) (x := a3) kc_95_34 rfl rfl ?_
            refine xi_sipush (pc' := 38) (v := 999) kc_95_35 rfl rfl ?_
            by_cases c6 : a3.toInt ≤ 999
            · refine xi_cmt (pc' := 48) kc_95_38 rfl (xc_le_t (X := a3.toInt) (Y := 999) rfl (by decide) (by omega)) ?_
              refine xi_aload_n (pc' := 49) (x := 0) kc_95_48 rfl rfl ?_
              refine xi_getfield (pc' := 52) (v := .ref 66) kc_95_49 rfl rfl rfl (F 0 _ hl_0) rfl ?_
              refine xi_virtual (mj := 92) (as := []) (st1 := []) (lv0 := [(0, .ref 66)]) kc_95_52 rfl rfl rfl rfl rfl (F 66 _ hl_66) (Nat.le_of_ble_eq_true rfl) (hJ _ _ _ _ (by decide)) (xm_le ml_92 rfl) rfl ?_
              refine xi_aload_n (pc' := 1) (x := 66) kc_92_0 rfl rfl ?_
              refine xi_lconst (pc' := 2) (v := 0) kc_92_1 rfl rfl ?_
              refine xi_putfield (pc' := 5) (fs' := [.ref 1, .ref 67, .ref 70, .ref 71, .ref 72, .ref 73, .ref 74, .long 0, .int 0]) kc_92_2 rfl rfl rfl (F 66 _ hl_66) rfl rfl rfl (Nat.le_of_ble_eq_true rfl) rfl (fun hh1 eh1 => ?_)
              refine xi_return kc_92_5 mr_92 ?_
              show xw J ov 99 95 (55, [(0, .ref 0), (1, .int a1), (2, .int a2), (3, .int a3)], [], hh1) _
              refine xi_aload_n (pc' := 56) (x := 0) kc_95_55 rfl rfl ?_
              refine xi_getfield (pc' := 59) (v := .ref 1) kc_95_56 rfl rfl rfl ((eh1.2.1 0 (by decide)).trans (F 0 _ hl_0)) rfl ?_
              refine xi_getfield (pc' := 62) (v := .ref 2) kc_95_59 rfl rfl rfl ((eh1.2.1 1 (by decide)).trans (F 1 _ hl_1)) rfl ?_
              refine xi_iload_n (pc' := 63) (x := a1) kc_95_62 rfl rfl ?_
              by_cases c7 : a1.toInt = 0
              · have qa1 : a1 = 0 := xc_of (Eq.trans (by omega) (show (0 : Int) = (0 : Int32).toInt by decide))
                subst qa1
                refine xi_aaload (pc' := 64) (b := 11) kc_95_63 rfl ((eh1.2.1 2 (by decide)).trans (F 2 _ hl_2)) rfl (xi_in (n := 6) (by decide) (by decide)) rfl ?_
                refine xi_getfield (pc' := 67) (v := .ref 13) kc_95_64 rfl rfl rfl ((eh1.2.1 11 (by decide)).trans (F 11 _ hl_11)) rfl ?_
                refine xi_astore (pc' := 69) (lv' := [(4, .ref 13), (0, .ref 0), (1, .int 0), (2, .int a2), (3, .int a3)]) kc_95_67 rfl rfl (xm_lt ml_95 rfl) ?_
                refine xi_aload (pc' := 71) (x := 13) kc_95_69 rfl rfl ?_
                refine xi_iload_n (pc' := 72) (x := a2) kc_95_71 rfl rfl ?_
                refine xi_iaload (pc' := 73) (v := 0) kc_95_72 rfl ((eh1.2.1 13 (by decide)).trans (F 13 _ hl_13)) (by decide) rfl (xi_in (by omega) (by simp only [List.length_replicate]; omega)) (xa_rep (by omega) (by omega)) ?_
                refine xi_istore (pc' := 75) (lv' := [(5, .int 0), (4, .ref 13), (0, .ref 0), (1, .int 0), (2, .int a2), (3, .int a3)]) kc_95_73 rfl rfl (xm_lt ml_95 rfl) ?_
                refine xi_aload (pc' := 77) (x := 13) kc_95_75 rfl rfl ?_
                refine xi_iload_n (pc' := 78) (x := a2) kc_95_77 rfl rfl ?_
                refine xi_iload_n (pc' := 79) (x := a3) kc_95_78 rfl rfl ?_
                have lq9 : (List.replicate 24 0 : List Int32).length = 24 := by simp only [List.length_replicate, List.length_cons, List.length_nil, List.length_set]
                obtain ⟨x8, hx8⟩ : ∃ q, (List.replicate 24 0 : List Int32).set (Int32.toNatClampNeg a2) (a3) = q := ⟨_, rfl⟩
                have lx8 : x8.length = 24 := by rw [← hx8, List.length_set]; exact lq9
                refine xi_iastore (pc' := 80) (x' := x8) kc_95_79 rfl ((eh1.2.1 13 (by decide)).trans (F 13 _ hl_13)) rfl (xi_in (by omega) (by rw [lq9]; omega)) hx8 (fun hh2 eh2 => ?_)
                refine xi_iload (pc' := 82) (x := 0) kc_95_80 rfl rfl ?_
                refine xi_ireturn kc_95_82 mr_95 rfl ?_
                show xw J ov 100 196 (263, [(4, .int 0), (3, .ref 167), (2, .ref 115), (1, .ref 0), (0, .ref 1000000)], [.int 0], hh2) _
                refine xi_aload_n (pc' := 264) (x := 115) kc_196_263 rfl rfl ?_
                refine xi_aload_n (pc' := 265) (x := 1000000) kc_196_264 rfl rfl ?_
                refine xi_iload (pc' := 267) (x := 0) kc_196_265 rfl rfl ?_
                refine xi_iconst (pc' := 268) (v := 1) kc_196_267 rfl rfl ?_
                refine xi_iadd (pc' := 269) (v := 1) kc_196_268 rfl rfl ?_
                refine xi_ialoadO (pc' := 270) (v := 0) kc_196_269 rfl (by decide) hov0 (xi_in (n := 6) (by decide) (by decide)) rfl ?_
                refine xi_aload_n (pc' := 271) (x := 1000000) kc_196_270 rfl rfl ?_
                refine xi_iload (pc' := 273) (x := 0) kc_196_271 rfl rfl ?_
                refine xi_iconst (pc' := 274) (v := 2) kc_196_273 rfl rfl ?_
                refine xi_iadd (pc' := 275) (v := 2) kc_196_274 rfl rfl ?_
                refine xi_ialoadO (pc' := 276) (v := a2) kc_196_275 rfl (by decide) hov0 (xi_in (n := 6) (by decide) (by decide)) rfl ?_
                refine xi_aload_n (pc' := 277) (x := 1000000) kc_196_276 rfl rfl ?_
                refine xi_iload (pc' := 279) (x := 0) kc_196_277 rfl rfl ?_
                refine xi_iconst (pc' := 280) (v := 3) kc_196_279 rfl rfl ?_
                refine xi_iadd (pc' := 281) (v := 3) kc_196_280 rfl rfl ?_
                refine xi_ialoadO (pc' := 282) (v := a3) kc_196_281 rfl (by decide) hov0 (xi_in (n := 6) (by decide) (by decide)) rfl ?_
                refine xi_virtual (mj := 16) (as := [.int 0, .int a2, .int a3]) (st1 := [.int 0]) (lv0 := [(0, .ref 115), (1, .int 0), (2, .int a2), (3, .int a3)]) kc_196_282 rfl rfl rfl rfl rfl ((eh2.2.1 115 (by decide)).trans ((eh1.2.1 115 (by decide)).trans (F 115 _ hl_115))) (Nat.le_of_ble_eq_true rfl) (hJ _ _ _ _ (by decide)) (xm_le ml_16 rfl) rfl ?_
                refine xi_aload_n (pc' := 1) (x := 115) kc_16_0 rfl rfl ?_
                refine xi_iconst (pc' := 2) (v := 0) kc_16_1 rfl rfl ?_
                refine xi_putfield (pc' := 5) (fs' := [.int 0, .int 0, .ref 116, .ref 117, .ref 118, .ref 119, .ref 120, .ref 121, .ref 122, .ref 123, .ref 124, .ref 125, .ref 126, .ref 127, .ref 128, .ref 129, .int 4, .ref 130, .int 0, .ref 131, .ref 132, .ref 133, .ref 134, .int 0, .ref 135, .ref 136, .ref 137, .ref 138, .ref 139, .ref 140, .ref 141, .ref 142, .int 0, .int 0, .int 0, .ref 143, .ref 144, .ref 145, .ref 146, .ref 147, .ref 148, .int 0, .ref 149, .ref 150, .ref 151, .int 0, .ref 152, .ref 153, .ref 154, .ref 155, .ref 156, .ref 157, .ref 158, .ref 159, .int 0, .ref 160, .int 0, .ref 161, .ref 162, .ref 163, .ref 164, .int 0, .ref 165, .ref 166]) kc_16_2 rfl rfl rfl ((eh2.2.1 115 (by decide)).trans ((eh1.2.1 115 (by decide)).trans (F 115 _ hl_115))) rfl rfl rfl (Nat.le_of_ble_eq_true rfl) rfl (fun hh3 eh3 => ?_)
                refine xi_iload_n (pc' := 6) (x := 0) kc_16_5 rfl rfl ?_
                refine xi_static (mj := 11) (as := [.int 0]) (st1 := []) (lv0 := [(0, .int 0)]) kc_16_6 rfl rfl (Nat.le_of_ble_eq_true rfl) rfl rfl (Nat.le_of_ble_eq_true rfl) (hJ _ _ _ _ (by decide)) (xm_le ml_11 rfl) rfl ?_
                refine xi_iload_n (pc' := 1) (x := 0) kc_11_0 rfl rfl ?_
                refine xi_iconst (pc' := 2) (v := 0) kc_11_1 rfl rfl ?_
                refine xi_iconst (pc' := 3) (v := 5) kc_11_2 rfl rfl ?_
                refine xi_static (mj := 12) (as := [.int 0, .int 0, .int 5]) (st1 := []) (lv0 := [(0, .int 0), (1, .int 0), (2, .int 5)]) kc_11_3 rfl rfl (Nat.le_of_ble_eq_true rfl) rfl rfl (Nat.le_of_ble_eq_true rfl) (hJ _ _ _ _ (by decide)) (xm_le ml_12 rfl) rfl ?_
                refine xi_iload_n (pc' := 1) (x := 0) kc_12_0 rfl rfl ?_
                refine xi_iload_n (pc' := 2) (x := 0) kc_12_1 rfl rfl ?_
                refine xi_cmf (pc' := 5) kc_12_2 rfl rfl ?_
                refine xi_iload_n (pc' := 6) (x := 0) kc_12_5 rfl rfl ?_
                refine xi_iload_n (pc' := 7) (x := 5) kc_12_6 rfl rfl ?_
                refine xi_cmf (pc' := 10) kc_12_7 rfl rfl ?_
                refine xi_iconst (pc' := 11) (v := 1) kc_12_10 rfl rfl ?_
                refine xi_goto (pc' := 15) kc_12_11 rfl ?_
                refine xi_ireturn kc_12_15 mr_12 rfl ?_
                show xw J ov 98 11 (6, [(0, .int 0)], [.int 1], hh3) _
                refine xi_ireturn kc_11_6 mr_11 rfl ?_
                show xw J ov 99 16 (9, [(0, .ref 115), (1, .int 0), (2, .int a2), (3, .int a3)], [.int 1], hh3) _
                refine xi_iff (pc' := 12) kc_16_9 rfl rfl ?_
                refine xi_iload_n (pc' := 13) (x := a2) kc_16_12 rfl rfl ?_
                refine xi_iconst (pc' := 14) (v := 0) kc_16_13 rfl rfl ?_
                refine xi_bipush (pc' := 16) (v := 23) kc_16_14 rfl rfl ?_
                refine xi_static (mj := 12) (as := [.int a2, .int 0, .int 23]) (st1 := []) (lv0 := [(0, .int a2), (1, .int 0), (2, .int 23)]) kc_16_16 rfl rfl (Nat.le_of_ble_eq_true rfl) rfl rfl (Nat.le_of_ble_eq_true rfl) (hJ _ _ _ _ (by decide)) (xm_le ml_12 rfl) rfl ?_
                refine xi_iload_n (pc' := 1) (x := a2) kc_12_0 rfl rfl ?_
                refine xi_iload_n (pc' := 2) (x := 0) kc_12_1 rfl rfl ?_
                refine xi_cmf (pc' := 5) kc_12_2 rfl (xc_lt_f (X := a2.toInt) (Y := 0) rfl (by decide) (by omega)) ?_
                refine xi_iload_n (pc' := 6) (x := a2) kc_12_5 rfl rfl ?_
                refine xi_iload_n (pc' := 7) (x := 23) kc_12_6 rfl rfl ?_
                refine xi_cmf (pc' := 10) kc_12_7 rfl (xc_gt_f (X := a2.toInt) (Y := 23) rfl (by decide) (by omega)) ?_
                refine xi_iconst (pc' := 11) (v := 1) kc_12_10 rfl rfl ?_
                refine xi_goto (pc' := 15) kc_12_11 rfl ?_
                refine xi_ireturn kc_12_15 mr_12 rfl ?_
                show xw J ov 99 16 (19, [(0, .ref 115), (1, .int 0), (2, .int a2), (3, .int a3)], [.int 1], hh3) _
                refine xi_ift (pc' := 28) kc_16_19 rfl rfl ?_
                refine xi_iload_n (pc' := 29) (x := a3) kc_16_28 rfl rfl ?_
                refine xi_ift (pc' := 39) kc_16_29 rfl (xc_ge_t (X := a3.toInt) (Y := 0) rfl (by decide) (by omega)) ?_
                refine xi_iload_n (pc' := 40) (x := a3) kc_16_39 rfl rfl ?_
                refine xi_sipush (pc' := 43) (v := 999) kc_16_40 rfl rfl ?_
                refine xi_cmt (pc' := 53) kc_16_43 rfl (xc_le_t (X := a3.toInt) (Y := 999) rfl (by decide) (by omega)) ?_
                refine xi_aload_n (pc' := 54) (x := 115) kc_16_53 rfl rfl ?_
                refine xi_getfield (pc' := 57) (v := .ref 122) kc_16_54 rfl rfl rfl eh3.1 rfl ?_
                refine xi_bipush (pc' := 59) (v := 24) kc_16_57 rfl rfl ?_
                refine xi_iload_n (pc' := 60) (x := 0) kc_16_59 rfl rfl ?_
                refine xi_imul (pc' := 61) (v := 0) kc_16_60 rfl rfl ?_
                refine xi_iload_n (pc' := 62) (x := a2) kc_16_61 rfl rfl ?_
                obtain ⟨v10, ev10⟩ : ∃ q : Int32, 0 + a2 = q := ⟨_, rfl⟩
                have zv10 : v10.toInt = a2.toInt := by rw [← ev10]; exact (xz_add (X := 0) (Y := a2.toInt) (by decide) rfl (by omega) (by omega)).trans (by omega)
                refine xi_iadd (pc' := 63) (v := v10) kc_16_62 rfl ev10 ?_
                refine xi_iaload (pc' := 64) (v := 0) kc_16_63 rfl ((eh3.2.1 122 (by decide)).trans ((eh2.2.1 122 (by decide)).trans ((eh1.2.1 122 (by decide)).trans (F 122 _ hl_122)))) (by decide) rfl (xi_in (by rw [zv10]; omega) (by rw [zv10]; simp only [List.length_replicate]; omega)) (xa_rep (by rw [zv10]; omega) (by rw [zv10]; omega)) ?_
                refine xi_istore (pc' := 66) (lv' := [(4, .int 0), (0, .ref 115), (1, .int 0), (2, .int a2), (3, .int a3)]) kc_16_64 rfl rfl (xm_lt ml_16 rfl) ?_
                refine xi_aload_n (pc' := 67) (x := 115) kc_16_66 rfl rfl ?_
                refine xi_getfield (pc' := 70) (v := .ref 122) kc_16_67 rfl rfl rfl eh3.1 rfl ?_
                refine xi_bipush (pc' := 72) (v := 24) kc_16_70 rfl rfl ?_
                refine xi_iload_n (pc' := 73) (x := 0) kc_16_72 rfl rfl ?_
                refine xi_imul (pc' := 74) (v := 0) kc_16_73 rfl rfl ?_
                refine xi_iload_n (pc' := 75) (x := a2) kc_16_74 rfl rfl ?_
                obtain ⟨v11, ev11⟩ : ∃ q : Int32, 0 + a2 = q := ⟨_, rfl⟩
                have zv11 : v11.toInt = a2.toInt := by rw [← ev11]; exact (xz_add (X := 0) (Y := a2.toInt) (by decide) rfl (by omega) (by omega)).trans (by omega)
                refine xi_iadd (pc' := 76) (v := v11) kc_16_75 rfl ev11 ?_
                refine xi_iload_n (pc' := 77) (x := a3) kc_16_76 rfl rfl ?_
                have lq13 : (List.replicate 144 0 : List Int32).length = 144 := by simp only [List.length_replicate, List.length_cons, List.length_nil, List.length_set]
                obtain ⟨x12, hx12⟩ : ∃ q, (List.replicate 144 0 : List Int32).set (Int32.toNatClampNeg v11) (a3) = q := ⟨_, rfl⟩
                have lx12 : x12.length = 144 := by rw [← hx12, List.length_set]; exact lq13
                refine xi_iastore (pc' := 78) (x' := x12) kc_16_77 rfl ((eh3.2.1 122 (by decide)).trans ((eh2.2.1 122 (by decide)).trans ((eh1.2.1 122 (by decide)).trans (F 122 _ hl_122)))) rfl (xi_in (by rw [zv11]; omega) (by rw [lq13]; rw [zv11]; omega)) hx12 (fun hh4 eh4 => ?_)
                refine xi_aload_n (pc' := 79) (x := 115) kc_16_78 rfl rfl ?_
                refine xi_iconst (pc' := 80) (v := 0) kc_16_79 rfl rfl ?_
                refine xi_putfield (pc' := 83) (fs' := [.int 0, .int 0, .ref 116, .ref 117, .ref 118, .ref 119, .ref 120, .ref 121, .ref 122, .ref 123, .ref 124, .ref 125, .ref 126, .ref 127, .ref 128, .ref 129, .int 4, .ref 130, .int 0, .ref 131, .ref 132, .ref 133, .ref 134, .int 0, .ref 135, .ref 136, .ref 137, .ref 138, .ref 139, .ref 140, .ref 141, .ref 142, .int 0, .int 0, .int 0, .ref 143, .ref 144, .ref 145, .ref 146, .ref 147, .ref 148, .int 0, .ref 149, .ref 150, .ref 151, .int 0, .ref 152, .ref 153, .ref 154, .ref 155, .ref 156, .ref 157, .ref 158, .ref 159, .int 0, .ref 160, .int 0, .ref 161, .ref 162, .ref 163, .ref 164, .int 0, .ref 165, .ref 166]) kc_16_80 rfl rfl rfl ((eh4.2.1 115 (by decide)).trans eh3.1) rfl rfl rfl (Nat.le_of_ble_eq_true rfl) rfl (fun hh5 eh5 => ?_)
                refine xi_iload (pc' := 85) (x := 0) kc_16_83 rfl rfl ?_
                refine xi_ireturn kc_16_85 mr_16 rfl ?_
                show xw J ov 100 196 (285, [(4, .int 0), (3, .ref 167), (2, .ref 115), (1, .ref 0), (0, .ref 1000000)], [.int 0, .int 0], hh5) _
                refine xi_cmt (pc' := 1528) kc_196_285 rfl rfl ?_
                refine xi_iinc (pc' := 1531) (x := 0) (v := 6) (lv' := [(4, .int 6), (3, .ref 167), (2, .ref 115), (1, .ref 0), (0, .ref 1000000)]) kc_196_1528 rfl rfl rfl rfl (xm_lt ml_196 rfl) ?_
                refine xi_goto (pc' := 23) kc_196_1531 rfl ?_
                refine xi_iload (pc' := 25) (x := 6) kc_196_23 rfl rfl ?_
                refine xi_aload_n (pc' := 26) (x := 1000000) kc_196_25 rfl rfl ?_
                refine xi_arraylength (pc' := 27) (n := 6) (v := 6) kc_196_26 rfl (xl_lenO (by decide) hov0 rfl) rfl ?_
                refine xi_bipush (pc' := 29) (v := 6) kc_196_27 rfl rfl ?_
                refine xi_isub (pc' := 30) (v := 0) kc_196_29 rfl rfl ?_
                refine xi_cmt (pc' := 1534) kc_196_30 rfl rfl ?_
                refine xi_iconst (pc' := 1535) (v := 1) kc_196_1534 rfl rfl ?_
                refine xi_ireturn kc_196_1535 mr_196 rfl ?_
                refine ⟨rfl, ?_, ?_⟩
                · rw [eh5.2.2.1, eh4.2.2.1, eh3.2.2.1, eh2.2.2.1, eh1.2.2.1]; exact hn0
                · rw [eh5.2.2.2, eh4.2.2.2, eh3.2.2.2, eh2.2.2.2, eh1.2.2.2]; exact hz0
              by_cases c14 : a1.toInt = 1
              · have qa1 : a1 = 1 := xc_of (Eq.trans (by omega) (show (1 : Int) = (1 : Int32).toInt by decide))
                subst qa1
                refine xi_aaload (pc' := 64) (b := 14) kc_95_63 rfl ((eh1.2.1 2 (by decide)).trans (F 2 _ hl_2)) rfl (xi_in (n := 6) (by decide) (by decide)) rfl ?_
                refine xi_getfield (pc' := 67) (v := .ref 16) kc_95_64 rfl rfl rfl ((eh1.2.1 14 (by decide)).trans (F 14 _ hl_14)) rfl ?_
                refine xi_astore (pc' := 69) (lv' := [(4, .ref 16), (0, .ref 0), (1, .int 1), (2, .int a2), (3, .int a3)]) kc_95_67 rfl rfl (xm_lt ml_95 rfl) ?_
                refine xi_aload (pc' := 71) (x := 16) kc_95_69 rfl rfl ?_
                refine xi_iload_n (pc' := 72) (x := a2) kc_95_71 rfl rfl ?_
                refine xi_iaload (pc' := 73) (v := 0) kc_95_72 rfl ((eh1.2.1 16 (by decide)).trans (F 16 _ hl_16)) (by decide) rfl (xi_in (by omega) (by simp only [List.length_replicate]; omega)) (xa_rep (by omega) (by omega)) ?_
                refine xi_istore (pc' := 75) (lv' := [(5, .int 0), (4, .ref 16), (0, .ref 0), (1, .int 1), (2, .int a2), (3, .int a3)]) kc_95_73 rfl rfl (xm_lt ml_95 rfl) ?_
                refine xi_aload (pc' := 77) (x := 16) kc_95_75 rfl rfl ?_
                refine xi_iload_n (pc' := 78) (x := a2) kc_95_77 rfl rfl ?_
                refine xi_iload_n (pc' := 79) (x := a3) kc_95_78 rfl rfl ?_
                have lq16 : (List.replicate 24 0 : List Int32).length = 24 := by simp only [List.length_replicate, List.length_cons, List.length_nil, List.length_set]
                obtain ⟨x15, hx15⟩ : ∃ q, (List.replicate 24 0 : List Int32).set (Int32.toNatClampNeg a2) (a3) = q := ⟨_, rfl⟩
                have lx15 : x15.length = 24 := by rw [← hx15, List.length_set]; exact lq16
                refine xi_iastore (pc' := 80) (x' := x15) kc_95_79 rfl ((eh1.2.1 16 (by decide)).trans (F 16 _ hl_16)) rfl (xi_in (by omega) (by rw [lq16]; omega)) hx15 (fun hh2 eh2 => ?_)
                refine xi_iload (pc' := 82) (x := 0) kc_95_80 rfl rfl ?_
                refine xi_ireturn kc_95_82 mr_95 rfl ?_
                show xw J ov 100 196 (263, [(4, .int 0), (3, .ref 167), (2, .ref 115), (1, .ref 0), (0, .ref 1000000)], [.int 0], hh2) _
                refine xi_aload_n (pc' := 264) (x := 115) kc_196_263 rfl rfl ?_
                refine xi_aload_n (pc' := 265) (x := 1000000) kc_196_264 rfl rfl ?_
                refine xi_iload (pc' := 267) (x := 0) kc_196_265 rfl rfl ?_
                refine xi_iconst (pc' := 268) (v := 1) kc_196_267 rfl rfl ?_
                refine xi_iadd (pc' := 269) (v := 1) kc_196_268 rfl rfl ?_
                refine xi_ialoadO (pc' := 270) (v := 1) kc_196_269 rfl (by decide) hov0 (xi_in (n := 6) (by decide) (by decide)) rfl ?_
                refine xi_aload_n (pc' := 271) (x := 1000000) kc_196_270 rfl rfl ?_
                refine xi_iload (pc' := 273) (x := 0) kc_196_271 rfl rfl ?_
                refine xi_iconst (pc' := 274) (v := 2) kc_196_273 rfl rfl ?_
                refine xi_iadd (pc' := 275) (v := 2) kc_196_274 rfl rfl ?_
                refine xi_ialoadO (pc' := 276) (v := a2) kc_196_275 rfl (by decide) hov0 (xi_in (n := 6) (by decide) (by decide)) rfl ?_
                refine xi_aload_n (pc' := 277) (x := 1000000) kc_196_276 rfl rfl ?_
                refine xi_iload (pc' := 279) (x := 0) kc_196_277 rfl rfl ?_
                refine xi_iconst (pc' := 280) (v := 3) kc_196_279 rfl rfl ?_
                refine xi_iadd (pc' := 281) (v := 3) kc_196_280 rfl rfl ?_
                refine xi_ialoadO (pc' := 282) (v := a3) kc_196_281 rfl (by decide) hov0 (xi_in (n := 6) (by decide) (by decide)) rfl ?_
                refine xi_virtual (mj := 16) (as := [.int 1, .int a2, .int a3]) (st1 := [.int 0]) (lv0 := [(0, .ref 115), (1, .int 1), (2, .int a2), (3, .int a3)]) kc_196_282 rfl rfl rfl rfl rfl ((eh2.2.1 115 (by decide)).trans ((eh1.2.1 115 (by decide)).trans (F 115 _ hl_115))) (Nat.le_of_ble_eq_true rfl) (hJ _ _ _ _ (by decide)) (xm_le ml_16 rfl) rfl ?_
                refine xi_aload_n (pc' := 1) (x := 115) kc_16_0 rfl rfl ?_
                refine xi_iconst (pc' := 2) (v := 0) kc_16_1 rfl rfl ?_
                refine xi_putfield (pc' := 5) (fs' := [.int 0, .int 0, .ref 116, .ref 117, .ref 118, .ref 119, .ref 120, .ref 121, .ref 122, .ref 123, .ref 124, .ref 125, .ref 126, .ref 127, .ref 128, .ref 129, .int 4, .ref 130, .int 0, .ref 131, .ref 132, .ref 133, .ref 134, .int 0, .ref 135, .ref 136, .ref 137, .ref 138, .ref 139, .ref 140, .ref 141, .ref 142, .int 0, .int 0, .int 0, .ref 143, .ref 144, .ref 145, .ref 146, .ref 147, .ref 148, .int 0, .ref 149, .ref 150, .ref 151, .int 0, .ref 152, .ref 153, .ref 154, .ref 155, .ref 156, .ref 157, .ref 158, .ref 159, .int 0, .ref 160, .int 0, .ref 161, .ref 162, .ref 163, .ref 164, .int 0, .ref 165, .ref 166]) kc_16_2 rfl rfl rfl ((eh2.2.1 115 (by decide)).trans ((eh1.2.1 115 (by decide)).trans (F 115 _ hl_115))) rfl rfl rfl (Nat.le_of_ble_eq_true rfl) rfl (fun hh3 eh3 => ?_)
                refine xi_iload_n (pc' := 6) (x := 1) kc_16_5 rfl rfl ?_
                refine xi_static (mj := 11) (as := [.int 1]) (st1 := []) (lv0 := [(0, .int 1)]) kc_16_6 rfl rfl (Nat.le_of_ble_eq_true rfl) rfl rfl (Nat.le_of_ble_eq_true rfl) (hJ _ _ _ _ (by decide)) (xm_le ml_11 rfl) rfl ?_
                refine xi_iload_n (pc' := 1) (x := 1) kc_11_0 rfl rfl ?_
                refine xi_iconst (pc' := 2) (v := 0) kc_11_1 rfl rfl ?_
                refine xi_iconst (pc' := 3) (v := 5) kc_11_2 rfl rfl ?_
                refine xi_static (mj := 12) (as := [.int 1, .int 0, .int 5]) (st1 := []) (lv0 := [(0, .int 1), (1, .int 0), (2, .int 5)]) kc_11_3 rfl rfl (Nat.le_of_ble_eq_true rfl) rfl rfl (Nat.le_of_ble_eq_true rfl) (hJ _ _ _ _ (by decide)) (xm_le ml_12 rfl) rfl ?_
                refine xi_iload_n (pc' := 1) (x := 1) kc_12_0 rfl rfl ?_
                refine xi_iload_n (pc' := 2) (x := 0) kc_12_1 rfl rfl ?_
                refine xi_cmf (pc' := 5) kc_12_2 rfl rfl ?_
                refine xi_iload_n (pc' := 6) (x := 1) kc_12_5 rfl rfl ?_
                refine xi_iload_n (pc' := 7) (x := 5) kc_12_6 rfl rfl ?_
                refine xi_cmf (pc' := 10) kc_12_7 rfl rfl ?_
                refine xi_iconst (pc' := 11) (v := 1) kc_12_10 rfl rfl ?_
                refine xi_goto (pc' := 15) kc_12_11 rfl ?_
                refine xi_ireturn kc_12_15 mr_12 rfl ?_
                show xw J ov 98 11 (6, [(0, .int 1)], [.int 1], hh3) _
                refine xi_ireturn kc_11_6 mr_11 rfl ?_
                show xw J ov 99 16 (9, [(0, .ref 115), (1, .int 1), (2, .int a2), (3, .int a3)], [.int 1], hh3) _
                refine xi_iff (pc' := 12) kc_16_9 rfl rfl ?_
                refine xi_iload_n (pc' := 13) (x := a2) kc_16_12 rfl rfl ?_
                refine xi_iconst (pc' := 14) (v := 0) kc_16_13 rfl rfl ?_
                refine xi_bipush (pc' := 16) (v := 23) kc_16_14 rfl rfl ?_
                refine xi_static (mj := 12) (as := [.int a2, .int 0, .int 23]) (st1 := []) (lv0 := [(0, .int a2), (1, .int 0), (2, .int 23)]) kc_16_16 rfl rfl (Nat.le_of_ble_eq_true rfl) rfl rfl (Nat.le_of_ble_eq_true rfl) (hJ _ _ _ _ (by decide)) (xm_le ml_12 rfl) rfl ?_
                refine xi_iload_n (pc' := 1) (x := a2) kc_12_0 rfl rfl ?_
                refine xi_iload_n (pc' := 2) (x := 0) kc_12_1 rfl rfl ?_
                refine xi_cmf (pc' := 5) kc_12_2 rfl (xc_lt_f (X := a2.toInt) (Y := 0) rfl (by decide) (by omega)) ?_
                refine xi_iload_n (pc' := 6) (x := a2) kc_12_5 rfl rfl ?_
                refine xi_iload_n (pc' := 7) (x := 23) kc_12_6 rfl rfl ?_
                refine xi_cmf (pc' := 10) kc_12_7 rfl (xc_gt_f (X := a2.toInt) (Y := 23) rfl (by decide) (by omega)) ?_
                refine xi_iconst (pc' := 11) (v := 1) kc_12_10 rfl rfl ?_
                refine xi_goto (pc' := 15) kc_12_11 rfl ?_
                refine xi_ireturn kc_12_15 mr_12 rfl ?_
                show xw J ov 99 16 (19, [(0, .ref 115), (1, .int 1), (2, .int a2), (3, .int a3)], [.int 1], hh3) _
                refine xi_ift (pc' := 28) kc_16_19 rfl rfl ?_
                refine xi_iload_n (pc' := 29) (x := a3) kc_16_28 rfl rfl ?_
                refine xi_ift (pc' := 39) kc_16_29 rfl (xc_ge_t (X := a3.toInt) (Y := 0) rfl (by decide) (by omega)) ?_
                refine xi_iload_n (pc' := 40) (x := a3) kc_16_39 rfl rfl ?_
                refine xi_sipush (pc' := 43) (v := 999) kc_16_40 rfl rfl ?_
                refine xi_cmt (pc' := 53) kc_16_43 rfl (xc_le_t (X := a3.toInt) (Y := 999) rfl (by decide) (by omega)) ?_
                refine xi_aload_n (pc' := 54) (x := 115) kc_16_53 rfl rfl ?_
                refine xi_getfield (pc' := 57) (v := .ref 122) kc_16_54 rfl rfl rfl eh3.1 rfl ?_
                refine xi_bipush (pc' := 59) (v := 24) kc_16_57 rfl rfl ?_
                refine xi_iload_n (pc' := 60) (x := 1) kc_16_59 rfl rfl ?_
                refine xi_imul (pc' := 61) (v := 24) kc_16_60 rfl rfl ?_
                refine xi_iload_n (pc' := 62) (x := a2) kc_16_61 rfl rfl ?_
                obtain ⟨v17, ev17⟩ : ∃ q : Int32, 24 + a2 = q := ⟨_, rfl⟩
                have zv17 : v17.toInt = (a2.toInt + 24) := by rw [← ev17]; exact (xz_add (X := 24) (Y := a2.toInt) (by decide) rfl (by omega) (by omega)).trans (by omega)
                refine xi_iadd (pc' := 63) (v := v17) kc_16_62 rfl ev17 ?_
                refine xi_iaload (pc' := 64) (v := 0) kc_16_63 rfl ((eh3.2.1 122 (by decide)).trans ((eh2.2.1 122 (by decide)).trans ((eh1.2.1 122 (by decide)).trans (F 122 _ hl_122)))) (by decide) rfl (xi_in (by rw [zv17]; omega) (by rw [zv17]; simp only [List.length_replicate]; omega)) (xa_rep (by rw [zv17]; omega) (by rw [zv17]; omega)) ?_
                refine xi_istore (pc' := 66) (lv' := [(4, .int 0), (0, .ref 115), (1, .int 1), (2, .int a2), (3, .int a3)]) kc_16_64 rfl rfl (xm_lt ml_16 rfl) ?_
                refine xi_aload_n (pc' := 67) (x := 115) kc_16_66 rfl rfl ?_
                refine xi_getfield (pc' := 70) (v := .ref 122) kc_16_67 rfl rfl rfl eh3.1 rfl ?_
                refine xi_bipush (pc' := 72) (v := 24) kc_16_70 rfl rfl ?_
                refine xi_iload_n (pc' := 73) (x := 1) kc_16_72 rfl rfl ?_
                refine xi_imul (pc' := 74) (v := 24) kc_16_73 rfl rfl ?_
                refine xi_iload_n (pc' := 75) (x := a2) kc_16_74 rfl rfl ?_
                obtain ⟨v18, ev18⟩ : ∃ q : Int32, 24 + a2 = q := ⟨_, rfl⟩
                have zv18 : v18.toInt = (a2.toInt + 24) := by rw [← ev18]; exact (xz_add (X := 24) (Y := a2.toInt) (by decide) rfl (by omega) (by omega)).trans (by omega)
                refine xi_iadd (pc' := 76) (v := v18) kc_16_75 rfl ev18 ?_
                refine xi_iload_n (pc' := 77) (x := a3) kc_16_76 rfl rfl ?_
                have lq20 : (List.replicate 144 0 : List Int32).length = 144 := by simp only [List.length_replicate, List.length_cons, List.length_nil, List.length_set]
                obtain ⟨x19, hx19⟩ : ∃ q, (List.replicate 144 0 : List Int32).set (Int32.toNatClampNeg v18) (a3) = q := ⟨_, rfl⟩
                have lx19 : x19.length = 144 := by rw [← hx19, List.length_set]; exact lq20
                refine xi_iastore (pc' := 78) (x' := x19) kc_16_77 rfl ((eh3.2.1 122 (by decide)).trans ((eh2.2.1 122 (by decide)).trans ((eh1.2.1 122 (by decide)).trans (F 122 _ hl_122)))) rfl (xi_in (by rw [zv18]; omega) (by rw [lq20]; rw [zv18]; omega)) hx19 (fun hh4 eh4 => ?_)
                refine xi_aload_n (pc' := 79) (x := 115) kc_16_78 rfl rfl ?_
                refine xi_iconst (pc' := 80) (v := 0) kc_16_79 rfl rfl ?_
                refine xi_putfield (pc' := 83) (fs' := [.int 0, .int 0, .ref 116, .ref 117, .ref 118, .ref 119, .ref 120, .ref 121, .ref 122, .ref 123, .ref 124, .ref 125, .ref 126, .ref 127, .ref 128, .ref 129, .int 4, .ref 130, .int 0, .ref 131, .ref 132, .ref 133, .ref 134, .int 0, .ref 135, .ref 136, .ref 137, .ref 138, .ref 139, .ref 140, .ref 141, .ref 142, .int 0, .int 0, .int 0, .ref 143, .ref 144, .ref 145, .ref 146, .ref 147, .ref 148, .int 0, .ref 149, .ref 150, .ref 151, .int 0, .ref 152, .ref 153, .ref 154, .ref 155, .ref 156, .ref 157, .ref 158, .ref 159, .int 0, .ref 160, .int 0, .ref 161, .ref 162, .ref 163, .ref 164, .int 0, .ref 165, .ref 166]) kc_16_80 rfl rfl rfl ((eh4.2.1 115 (by decide)).trans eh3.1) rfl rfl rfl (Nat.le_of_ble_eq_true rfl) rfl (fun hh5 eh5 => ?_)
                refine xi_iload (pc' := 85) (x := 0) kc_16_83 rfl rfl ?_
                refine xi_ireturn kc_16_85 mr_16 rfl ?_
                show xw J ov 100 196 (285, [(4, .int 0), (3, .ref 167), (2, .ref 115), (1, .ref 0), (0, .ref 1000000)], [.int 0, .int 0], hh5) _
                refine xi_cmt (pc' := 1528) kc_196_285 rfl rfl ?_
                refine xi_iinc (pc' := 1531) (x := 0) (v := 6) (lv' := [(4, .int 6), (3, .ref 167), (2, .ref 115), (1, .ref 0), (0, .ref 1000000)]) kc_196_1528 rfl rfl rfl rfl (xm_lt ml_196 rfl) ?_
                refine xi_goto (pc' := 23) kc_196_1531 rfl ?_
                refine xi_iload (pc' := 25) (x := 6) kc_196_23 rfl rfl ?_
                refine xi_aload_n (pc' := 26) (x := 1000000) kc_196_25 rfl rfl ?_
                refine xi_arraylength (pc' := 27) (n := 6) (v := 6) kc_196_26 rfl (xl_lenO (by decide) hov0 rfl) rfl ?_
                refine xi_bipush (pc' := 29) (v := 6) kc_196_27 rfl rfl ?_
                refine xi_isub (pc' := 30) (v := 0) kc_196_29 rfl rfl ?_
                refine xi_cmt (pc' := 1534) kc_196_30 rfl rfl ?_
                refine xi_iconst (pc' := 1535) (v := 1) kc_196_1534 rfl rfl ?_
                refine xi_ireturn kc_196_1535 mr_196 rfl ?_
                refine ⟨rfl, ?_, ?_⟩
                · rw [eh5.2.2.1, eh4.2.2.1, eh3.2.2.1, eh2.2.2.1, eh1.2.2.1]; exact hn0
                · rw [eh5.2.2.2, eh4.2.2.2, eh3.2.2.2, eh2.2.2.2, eh1.2.2.2]; exact hz0
              by_cases c21 : a1.toInt = 2
              · have qa1 : a1 = 2 := xc_of (Eq.trans (by omega) (show (2 : Int) = (2 : Int32).toInt by decide))
                subst qa1
                refine xi_aaload (pc' := 64) (b := 17) kc_95_63 rfl ((eh1.2.1 2 (by decide)).trans (F 2 _ hl_2)) rfl (xi_in (n := 6) (by decide) (by decide)) rfl ?_
                refine xi_getfield (pc' := 67) (v := .ref 19) kc_95_64 rfl rfl rfl ((eh1.2.1 17 (by decide)).trans (F 17 _ hl_17)) rfl ?_
                refine xi_astore (pc' := 69) (lv' := [(4, .ref 19), (0, .ref 0), (1, .int 2), (2, .int a2), (3, .int a3)]) kc_95_67 rfl rfl (xm_lt ml_95 rfl) ?_
                refine xi_aload (pc' := 71) (x := 19) kc_95_69 rfl rfl ?_
                refine xi_iload_n (pc' := 72) (x := a2) kc_95_71 rfl rfl ?_
                refine xi_iaload (pc' := 73) (v := 0) kc_95_72 rfl ((eh1.2.1 19 (by decide)).trans (F 19 _ hl_19)) (by decide) rfl (xi_in (by omega) (by simp only [List.length_replicate]; omega)) (xa_rep (by omega) (by omega)) ?_
                refine xi_istore (pc' := 75) (lv' := [(5, .int 0), (4, .ref 19), (0, .ref 0), (1, .int 2), (2, .int a2), (3, .int a3)]) kc_95_73 rfl rfl (xm_lt ml_95 rfl) ?_
                refine xi_aload (pc' := 77) (x := 19) kc_95_75 rfl rfl ?_
                refine xi_iload_n (pc' := 78) (x := a2) kc_95_77 rfl rfl ?_
                refine xi_iload_n (pc' := 79) (x := a3) kc_95_78 rfl rfl ?_
                have lq23 : (List.replicate 24 0 : List Int32).length = 24 := by simp only [List.length_replicate, List.length_cons, List.length_nil, List.length_set]
                obtain ⟨x22, hx22⟩ : ∃ q, (List.replicate 24 0 : List Int32).set (Int32.toNatClampNeg a2) (a3) = q := ⟨_, rfl⟩
                have lx22 : x22.length = 24 := by rw [← hx22, List.length_set]; exact lq23
                refine xi_iastore (pc' := 80) (x' := x22) kc_95_79 rfl ((eh1.2.1 19 (by decide)).trans (F 19 _ hl_19)) rfl (xi_in (by omega) (by rw [lq23]; omega)) hx22 (fun hh2 eh2 => ?_)
                refine xi_iload (pc' := 82) (x := 0) kc_95_80 rfl rfl ?_
                refine xi_ireturn kc_95_82 mr_95 rfl ?_
                show xw J ov 100 196 (263, [(4, .int 0), (3, .ref 167), (2, .ref 115), (1, .ref 0), (0, .ref 1000000)], [.int 0], hh2) _
                refine xi_aload_n (pc' := 264) (x := 115) kc_196_263 rfl rfl ?_
                refine xi_aload_n (pc' := 265) (x := 1000000) kc_196_264 rfl rfl ?_
                refine xi_iload (pc' := 267) (x := 0) kc_196_265 rfl rfl ?_
                refine xi_iconst (pc' := 268) (v := 1) kc_196_267 rfl rfl ?_
                refine xi_iadd (pc' := 269) (v := 1) kc_196_268 rfl rfl ?_
                refine xi_ialoadO (pc' := 270) (v := 2) kc_196_269 rfl (by decide) hov0 (xi_in (n := 6) (by decide) (by decide)) rfl ?_
                refine xi_aload_n (pc' := 271) (x := 1000000) kc_196_270 rfl rfl ?_
                refine xi_iload (pc' := 273) (x := 0) kc_196_271 rfl rfl ?_
                refine xi_iconst (pc' := 274) (v := 2) kc_196_273 rfl rfl ?_
                refine xi_iadd (pc' := 275) (v := 2) kc_196_274 rfl rfl ?_
                refine xi_ialoadO (pc' := 276) (v := a2) kc_196_275 rfl (by decide) hov0 (xi_in (n := 6) (by decide) (by decide)) rfl ?_
                refine xi_aload_n (pc' := 277) (x := 1000000) kc_196_276 rfl rfl ?_
                refine xi_iload (pc' := 279) (x := 0) kc_196_277 rfl rfl ?_
                refine xi_iconst (pc' := 280) (v := 3) kc_196_279 rfl rfl ?_
                refine xi_iadd (pc' := 281) (v := 3) kc_196_280 rfl rfl ?_
                refine xi_ialoadO (pc' := 282) (v := a3) kc_196_281 rfl (by decide) hov0 (xi_in (n := 6) (by decide) (by decide)) rfl ?_
                refine xi_virtual (mj := 16) (as := [.int 2, .int a2, .int a3]) (st1 := [.int 0]) (lv0 := [(0, .ref 115), (1, .int 2), (2, .int a2), (3, .int a3)]) kc_196_282 rfl rfl rfl rfl rfl ((eh2.2.1 115 (by decide)).trans ((eh1.2.1 115 (by decide)).trans (F 115 _ hl_115))) (Nat.le_of_ble_eq_true rfl) (hJ _ _ _ _ (by decide)) (xm_le ml_16 rfl) rfl ?_
                refine xi_aload_n (pc' := 1) (x := 115) kc_16_0 rfl rfl ?_
                refine xi_iconst (pc' := 2) (v := 0) kc_16_1 rfl rfl ?_
                refine xi_putfield (pc' := 5) (fs' := [.int 0, .int 0, .ref 116, .ref 117, .ref 118, .ref 119, .ref 120, .ref 121, .ref 122, .ref 123, .ref 124, .ref 125, .ref 126, .ref 127, .ref 128, .ref 129, .int 4, .ref 130, .int 0, .ref 131, .ref 132, .ref 133, .ref 134, .int 0, .ref 135, .ref 136, .ref 137, .ref 138, .ref 139, .ref 140, .ref 141, .ref 142, .int 0, .int 0, .int 0, .ref 143, .ref 144, .ref 145, .ref 146, .ref 147, .ref 148, .int 0, .ref 149, .ref 150, .ref 151, .int 0, .ref 152, .ref 153, .ref 154, .ref 155, .ref 156, .ref 157, .ref 158, .ref 159, .int 0, .ref 160, .int 0, .ref 161, .ref 162, .ref 163, .ref 164, .int 0, .ref 165, .ref 166]) kc_16_2 rfl rfl rfl ((eh2.2.1 115 (by decide)).trans ((eh1.2.1 115 (by decide)).trans (F 115 _ hl_115))) rfl rfl rfl (Nat.le_of_ble_eq_true rfl) rfl (fun hh3 eh3 => ?_)
                refine xi_iload_n (pc' := 6) (x := 2) kc_16_5 rfl rfl ?_
                refine xi_static (mj := 11) (as := [.int 2]) (st1 := []) (lv0 := [(0, .int 2)]) kc_16_6 rfl rfl (Nat.le_of_ble_eq_true rfl) rfl rfl (Nat.le_of_ble_eq_true rfl) (hJ _ _ _ _ (by decide)) (xm_le ml_11 rfl) rfl ?_
                refine xi_iload_n (pc' := 1) (x := 2) kc_11_0 rfl rfl ?_
                refine xi_iconst (pc' := 2) (v := 0) kc_11_1 rfl rfl ?_
                refine xi_iconst (pc' := 3) (v := 5) kc_11_2 rfl rfl ?_
                refine xi_static (mj := 12) (as := [.int 2, .int 0, .int 5]) (st1 := []) (lv0 := [(0, .int 2), (1, .int 0), (2, .int 5)]) kc_11_3 rfl rfl (Nat.le_of_ble_eq_true rfl) rfl rfl (Nat.le_of_ble_eq_true rfl) (hJ _ _ _ _ (by decide)) (xm_le ml_12 rfl) rfl ?_
                refine xi_iload_n (pc' := 1) (x := 2) kc_12_0 rfl rfl ?_
                refine xi_iload_n (pc' := 2) (x := 0) kc_12_1 rfl rfl ?_
                refine xi_cmf (pc' := 5) kc_12_2 rfl rfl ?_
                refine xi_iload_n (pc' := 6) (x := 2) kc_12_5 rfl rfl ?_
                refine xi_iload_n (pc' := 7) (x := 5) kc_12_6 rfl rfl ?_
                refine xi_cmf (pc' := 10) kc_12_7 rfl rfl ?_
                refine xi_iconst (pc' := 11) (v := 1) kc_12_10 rfl rfl ?_
                refine xi_goto (pc' := 15) kc_12_11 rfl ?_
                refine xi_ireturn kc_12_15 mr_12 rfl ?_
                show xw J ov 98 11 (6, [(0, .int 2)], [.int 1], hh3) _
                refine xi_ireturn kc_11_6 mr_11 rfl ?_
                show xw J ov 99 16 (9, [(0, .ref 115), (1, .int 2), (2, .int a2), (3, .int a3)], [.int 1], hh3) _
                refine xi_iff (pc' := 12) kc_16_9 rfl rfl ?_
                refine xi_iload_n (pc' := 13) (x := a2) kc_16_12 rfl rfl ?_
                refine xi_iconst (pc' := 14) (v := 0) kc_16_13 rfl rfl ?_
                refine xi_bipush (pc' := 16) (v := 23) kc_16_14 rfl rfl ?_
                refine xi_static (mj := 12) (as := [.int a2, .int 0, .int 23]) (st1 := []) (lv0 := [(0, .int a2), (1, .int 0), (2, .int 23)]) kc_16_16 rfl rfl (Nat.le_of_ble_eq_true rfl) rfl rfl (Nat.le_of_ble_eq_true rfl) (hJ _ _ _ _ (by decide)) (xm_le ml_12 rfl) rfl ?_
                refine xi_iload_n (pc' := 1) (x := a2) kc_12_0 rfl rfl ?_
                refine xi_iload_n (pc' := 2) (x := 0) kc_12_1 rfl rfl ?_
                refine xi_cmf (pc' := 5) kc_12_2 rfl (xc_lt_f (X := a2.toInt) (Y := 0) rfl (by decide) (by omega)) ?_
                refine xi_iload_n (pc' := 6) (x := a2) kc_12_5 rfl rfl ?_
                refine xi_iload_n (pc' := 7) (x := 23) kc_12_6 rfl rfl ?_
                refine xi_cmf (pc' := 10) kc_12_7 rfl (xc_gt_f (X := a2.toInt) (Y := 23) rfl (by decide) (by omega)) ?_
                refine xi_iconst (pc' := 11) (v := 1) kc_12_10 rfl rfl ?_
                refine xi_goto (pc' := 15) kc_12_11 rfl ?_
                refine xi_ireturn kc_12_15 mr_12 rfl ?_
                show xw J ov 99 16 (19, [(0, .ref 115), (1, .int 2), (2, .int a2), (3, .int a3)], [.int 1], hh3) _
                refine xi_ift (pc' := 28) kc_16_19 rfl rfl ?_
                refine xi_iload_n (pc' := 29) (x := a3) kc_16_28 rfl rfl ?_
                refine xi_ift (pc' := 39) kc_16_29 rfl (xc_ge_t (X := a3.toInt) (Y := 0) rfl (by decide) (by omega)) ?_
                refine xi_iload_n (pc' := 40) (x := a3) kc_16_39 rfl rfl ?_
                refine xi_sipush (pc' := 43) (v := 999) kc_16_40 rfl rfl ?_
                refine xi_cmt (pc' := 53) kc_16_43 rfl (xc_le_t (X := a3.toInt) (Y := 999) rfl (by decide) (by omega)) ?_
                refine xi_aload_n (pc' := 54) (x := 115) kc_16_53 rfl rfl ?_
                refine xi_getfield (pc' := 57) (v := .ref 122) kc_16_54 rfl rfl rfl eh3.1 rfl ?_
                refine xi_bipush (pc' := 59) (v := 24) kc_16_57 rfl rfl ?_
                refine xi_iload_n (pc' := 60) (x := 2) kc_16_59 rfl rfl ?_
                refine xi_imul (pc' := 61) (v := 48) kc_16_60 rfl rfl ?_
                refine xi_iload_n (pc' := 62) (x := a2) kc_16_61 rfl rfl ?_
                obtain ⟨v24, ev24⟩ : ∃ q : Int32, 48 + a2 = q := ⟨_, rfl⟩
                have zv24 : v24.toInt = (a2.toInt + 48) := by rw [← ev24]; exact (xz_add (X := 48) (Y := a2.toInt) (by decide) rfl (by omega) (by omega)).trans (by omega)
                refine xi_iadd (pc' := 63) (v := v24) kc_16_62 rfl ev24 ?_
                refine xi_iaload (pc' := 64) (v := 0) kc_16_63 rfl ((eh3.2.1 122 (by decide)).trans ((eh2.2.1 122 (by decide)).trans ((eh1.2.1 122 (by decide)).trans (F 122 _ hl_122)))) (by decide) rfl (xi_in (by rw [zv24]; omega) (by rw [zv24]; simp only [List.length_replicate]; omega)) (xa_rep (by rw [zv24]; omega) (by rw [zv24]; omega)) ?_
                refine xi_istore (pc' := 66) (lv' := [(4, .int 0), (0, .ref 115), (1, .int 2), (2, .int a2), (3, .int a3)]) kc_16_64 rfl rfl (xm_lt ml_16 rfl) ?_
                refine xi_aload_n (pc' := 67) (x := 115) kc_16_66 rfl rfl ?_
                refine xi_getfield (pc' := 70) (v := .ref 122) kc_16_67 rfl rfl rfl eh3.1 rfl ?_
                refine xi_bipush (pc' := 72) (v := 24) kc_16_70 rfl rfl ?_
                refine xi_iload_n (pc' := 73) (x := 2) kc_16_72 rfl rfl ?_
                refine xi_imul (pc' := 74) (v := 48) kc_16_73 rfl rfl ?_
                refine xi_iload_n (pc' := 75) (x := a2) kc_16_74 rfl rfl ?_
                obtain ⟨v25, ev25⟩ : ∃ q : Int32, 48 + a2 = q := ⟨_, rfl⟩
                have zv25 : v25.toInt = (a2.toInt + 48) := by rw [← ev25]; exact (xz_add (X := 48) (Y := a2.toInt) (by decide) rfl (by omega) (by omega)).trans (by omega)
                refine xi_iadd (pc' := 76) (v := v25) kc_16_75 rfl ev25 ?_
                refine xi_iload_n (pc' := 77) (x := a3) kc_16_76 rfl rfl ?_
                have lq27 : (List.replicate 144 0 : List Int32).length = 144 := by simp only [List.length_replicate, List.length_cons, List.length_nil, List.length_set]
                obtain ⟨x26, hx26⟩ : ∃ q, (List.replicate 144 0 : List Int32).set (Int32.toNatClampNeg v25) (a3) = q := ⟨_, rfl⟩
                have lx26 : x26.length = 144 := by rw [← hx26, List.length_set]; exact lq27
                refine xi_iastore (pc' := 78) (x' := x26) kc_16_77 rfl ((eh3.2.1 122 (by decide)).trans ((eh2.2.1 122 (by decide)).trans ((eh1.2.1 122 (by decide)).trans (F 122 _ hl_122)))) rfl (xi_in (by rw [zv25]; omega) (by rw [lq27]; rw [zv25]; omega)) hx26 (fun hh4 eh4 => ?_)
                refine xi_aload_n (pc' := 79) (x := 115) kc_16_78 rfl rfl ?_
                refine xi_iconst (pc' := 80) (v := 0) kc_16_79 rfl rfl ?_
                refine xi_putfield (pc' := 83) (fs' := [.int 0, .int 0, .ref 116, .ref 117, .ref 118, .ref 119, .ref 120, .ref 121, .ref 122, .ref 123, .ref 124, .ref 125, .ref 126, .ref 127, .ref 128, .ref 129, .int 4, .ref 130, .int 0, .ref 131, .ref 132, .ref 133, .ref 134, .int 0, .ref 135, .ref 136, .ref 137, .ref 138, .ref 139, .ref 140, .ref 141, .ref 142, .int 0, .int 0, .int 0, .ref 143, .ref 144, .ref 145, .ref 146, .ref 147, .ref 148, .int 0, .ref 149, .ref 150, .ref 151, .int 0, .ref 152, .ref 153, .ref 154, .ref 155, .ref 156, .ref 157, .ref 158, .ref 159, .int 0, .ref 160, .int 0, .ref 161, .ref 162, .ref 163, .ref 164, .int 0, .ref 165, .ref 166]) kc_16_80 rfl rfl rfl ((eh4.2.1 115 (by decide)).trans eh3.1) rfl rfl rfl (Nat.le_of_ble_eq_true rfl) rfl (fun hh5 eh5 => ?_)
                refine xi_iload (pc' := 85) (x := 0) kc_16_83 rfl rfl ?_
                refine xi_ireturn kc_16_85 mr_16 rfl ?_
                show xw J ov 100 196 (285, [(4, .int 0), (3, .ref 167), (2, .ref 115), (1, .ref 0), (0, .ref 1000000)], [.int 0, .int 0], hh5) _
                refine xi_cmt (pc' := 1528) kc_196_285 rfl rfl ?_
                refine xi_iinc (pc' := 1531) (x := 0) (v := 6) (lv' := [(4, .int 6), (3, .ref 167), (2, .ref 115), (1, .ref 0), (0, .ref 1000000)]) kc_196_1528 rfl rfl rfl rfl (xm_lt ml_196 rfl) ?_
                refine xi_goto (pc' := 23) kc_196_1531 rfl ?_
                refine xi_iload (pc' := 25) (x := 6) kc_196_23 rfl rfl ?_
                refine xi_aload_n (pc' := 26) (x := 1000000) kc_196_25 rfl rfl ?_
                refine xi_arraylength (pc' := 27) (n := 6) (v := 6) kc_196_26 rfl (xl_lenO (by decide) hov0 rfl) rfl ?_
                refine xi_bipush (pc' := 29) (v := 6) kc_196_27 rfl rfl ?_
                refine xi_isub (pc' := 30) (v := 0) kc_196_29 rfl rfl ?_
                refine xi_cmt (pc' := 1534) kc_196_30 rfl rfl ?_
                refine xi_iconst (pc' := 1535) (v := 1) kc_196_1534 rfl rfl ?_
                refine xi_ireturn kc_196_1535 mr_196 rfl ?_
                refine ⟨rfl, ?_, ?_⟩
                · rw [eh5.2.2.1, eh4.2.2.1, eh3.2.2.1, eh2.2.2.1, eh1.2.2.1]; exact hn0
                · rw [eh5.2.2.2, eh4.2.2.2, eh3.2.2.2, eh2.2.2.2, eh1.2.2.2]; exact hz0
              by_cases c28 : a1.toInt = 3
              · have qa1 : a1 = 3 := xc_of (Eq.trans (by omega) (show (3 : Int) = (3 : Int32).toInt by decide))
                subst qa1
                refine xi_aaload (pc' := 64) (b := 20) kc_95_63 rfl ((eh1.2.1 2 (by decide)).trans (F 2 _ hl_2)) rfl (xi_in (n := 6) (by decide) (by decide)) rfl ?_
                refine xi_getfield (pc' := 67) (v := .ref 22) kc_95_64 rfl rfl rfl ((eh1.2.1 20 (by decide)).trans (F 20 _ hl_20)) rfl ?_
                refine xi_astore (pc' := 69) (lv' := [(4, .ref 22), (0, .ref 0), (1, .int 3), (2, .int a2), (3, .int a3)]) kc_95_67 rfl rfl (xm_lt ml_95 rfl) ?_
                refine xi_aload (pc' := 71) (x := 22) kc_95_69 rfl rfl ?_
                refine xi_iload_n (pc' := 72) (x := a2) kc_95_71 rfl rfl ?_
                refine xi_iaload (pc' := 73) (v := 0) kc_95_72 rfl ((eh1.2.1 22 (by decide)).trans (F 22 _ hl_22)) (by decide) rfl (xi_in (by omega) (by simp only [List.length_replicate]; omega)) (xa_rep (by omega) (by omega)) ?_
                refine xi_istore (pc' := 75) (lv' := [(5, .int 0), (4, .ref 22), (0, .ref 0), (1, .int 3), (2, .int a2), (3, .int a3)]) kc_95_73 rfl rfl (xm_lt ml_95 rfl) ?_
                refine xi_aload (pc' := 77) (x := 22) kc_95_75 rfl rfl ?_
                refine xi_iload_n (pc' := 78) (x := a2) kc_95_77 rfl rfl ?_
                refine xi_iload_n (pc' := 79) (x := a3) kc_95_78 rfl rfl ?_
                have lq30 : (List.replicate 24 0 : List Int32).length = 24 := by simp only [List.length_replicate, List.length_cons, List.length_nil, List.length_set]
                obtain ⟨x29, hx29⟩ : ∃ q, (List.replicate 24 0 : List Int32).set (Int32.toNatClampNeg a2) (a3) = q := ⟨_, rfl⟩
                have lx29 : x29.length = 24 := by rw [← hx29, List.length_set]; exact lq30
                refine xi_iastore (pc' := 80) (x' := x29) kc_95_79 rfl ((eh1.2.1 22 (by decide)).trans (F 22 _ hl_22)) rfl (xi_in (by omega) (by rw [lq30]; omega)) hx29 (fun hh2 eh2 => ?_)
                refine xi_iload (pc' := 82) (x := 0) kc_95_80 rfl rfl ?_
                refine xi_ireturn kc_95_82 mr_95 rfl ?_
                show xw J ov 100 196 (263, [(4, .int 0), (3, .ref 167), (2, .ref 115), (1, .ref 0), (0, .ref 1000000)], [.int 0], hh2) _
                refine xi_aload_n (pc' := 264) (x := 115) kc_196_263 rfl rfl ?_
                refine xi_aload_n (pc' := 265) (x := 1000000) kc_196_264 rfl rfl ?_
                refine xi_iload (pc' := 267) (x := 0) kc_196_265 rfl rfl ?_
                refine xi_iconst (pc' := 268) (v := 1) kc_196_267 rfl rfl ?_
                refine xi_iadd (pc' := 269) (v := 1) kc_196_268 rfl rfl ?_
                refine xi_ialoadO (pc' := 270) (v := 3) kc_196_269 rfl (by decide) hov0 (xi_in (n := 6) (by decide) (by decide)) rfl ?_
                refine xi_aload_n (pc' := 271) (x := 1000000) kc_196_270 rfl rfl ?_
                refine xi_iload (pc' := 273) (x := 0) kc_196_271 rfl rfl ?_
                refine xi_iconst (pc' := 274) (v := 2) kc_196_273 rfl rfl ?_
                refine xi_iadd (pc' := 275) (v := 2) kc_196_274 rfl rfl ?_
                refine xi_ialoadO (pc' := 276) (v := a2) kc_196_275 rfl (by decide) hov0 (xi_in (n := 6) (by decide) (by decide)) rfl ?_
                refine xi_aload_n (pc' := 277) (x := 1000000) kc_196_276 rfl rfl ?_
                refine xi_iload (pc' := 279) (x := 0) kc_196_277 rfl rfl ?_
                refine xi_iconst (pc' := 280) (v := 3) kc_196_279 rfl rfl ?_
                refine xi_iadd (pc' := 281) (v := 3) kc_196_280 rfl rfl ?_
                refine xi_ialoadO (pc' := 282) (v := a3) kc_196_281 rfl (by decide) hov0 (xi_in (n := 6) (by decide) (by decide)) rfl ?_
                refine xi_virtual (mj := 16) (as := [.int 3, .int a2, .int a3]) (st1 := [.int 0]) (lv0 := [(0, .ref 115), (1, .int 3), (2, .int a2), (3, .int a3)]) kc_196_282 rfl rfl rfl rfl rfl ((eh2.2.1 115 (by decide)).trans ((eh1.2.1 115 (by decide)).trans (F 115 _ hl_115))) (Nat.le_of_ble_eq_true rfl) (hJ _ _ _ _ (by decide)) (xm_le ml_16 rfl) rfl ?_
                refine xi_aload_n (pc' := 1) (x := 115) kc_16_0 rfl rfl ?_
                refine xi_iconst (pc' := 2) (v := 0) kc_16_1 rfl rfl ?_
                refine xi_putfield (pc' := 5) (fs' := [.int 0, .int 0, .ref 116, .ref 117, .ref 118, .ref 119, .ref 120, .ref 121, .ref 122, .ref 123, .ref 124, .ref 125, .ref 126, .ref 127, .ref 128, .ref 129, .int 4, .ref 130, .int 0, .ref 131, .ref 132, .ref 133, .ref 134, .int 0, .ref 135, .ref 136, .ref 137, .ref 138, .ref 139, .ref 140, .ref 141, .ref 142, .int 0, .int 0, .int 0, .ref 143, .ref 144, .ref 145, .ref 146, .ref 147, .ref 148, .int 0, .ref 149, .ref 150, .ref 151, .int 0, .ref 152, .ref 153, .ref 154, .ref 155, .ref 156, .ref 157, .ref 158, .ref 159, .int 0, .ref 160, .int 0, .ref 161, .ref 162, .ref 163, .ref 164, .int 0, .ref 165, .ref 166]) kc_16_2 rfl rfl rfl ((eh2.2.1 115 (by decide)).trans ((eh1.2.1 115 (by decide)).trans (F 115 _ hl_115))) rfl rfl rfl (Nat.le_of_ble_eq_true rfl) rfl (fun hh3 eh3 => ?_)
                refine xi_iload_n (pc' := 6) (x := 3) kc_16_5 rfl rfl ?_
                refine xi_static (mj := 11) (as := [.int 3]) (st1 := []) (lv0 := [(0, .int 3)]) kc_16_6 rfl rfl (Nat.le_of_ble_eq_true rfl) rfl rfl (Nat.le_of_ble_eq_true rfl) (hJ _ _ _ _ (by decide)) (xm_le ml_11 rfl) rfl ?_
                refine xi_iload_n (pc' := 1) (x := 3) kc_11_0 rfl rfl ?_
                refine xi_iconst (pc' := 2) (v := 0) kc_11_1 rfl rfl ?_
                refine xi_iconst (pc' := 3) (v := 5) kc_11_2 rfl rfl ?_
                refine xi_static (mj := 12) (as := [.int 3, .int 0, .int 5]) (st1 := []) (lv0 := [(0, .int 3), (1, .int 0), (2, .int 5)]) kc_11_3 rfl rfl (Nat.le_of_ble_eq_true rfl) rfl rfl (Nat.le_of_ble_eq_true rfl) (hJ _ _ _ _ (by decide)) (xm_le ml_12 rfl) rfl ?_
                refine xi_iload_n (pc' := 1) (x := 3) kc_12_0 rfl rfl ?_
                refine xi_iload_n (pc' := 2) (x := 0) kc_12_1 rfl rfl ?_
                refine xi_cmf (pc' := 5) kc_12_2 rfl rfl ?_
                refine xi_iload_n (pc' := 6) (x := 3) kc_12_5 rfl rfl ?_
                refine xi_iload_n (pc' := 7) (x := 5) kc_12_6 rfl rfl ?_
                refine xi_cmf (pc' := 10) kc_12_7 rfl rfl ?_
                refine xi_iconst (pc' := 11) (v := 1) kc_12_10 rfl rfl ?_
                refine xi_goto (pc' := 15) kc_12_11 rfl ?_
                refine xi_ireturn kc_12_15 mr_12 rfl ?_
                show xw J ov 98 11 (6, [(0, .int 3)], [.int 1], hh3) _
                refine xi_ireturn kc_11_6 mr_11 rfl ?_
                show xw J ov 99 16 (9, [(0, .ref 115), (1, .int 3), (2, .int a2), (3, .int a3)], [.int 1], hh3) _
                refine xi_iff (pc' := 12) kc_16_9 rfl rfl ?_
                refine xi_iload_n (pc' := 13) (x := a2) kc_16_12 rfl rfl ?_
                refine xi_iconst (pc' := 14) (v := 0) kc_16_13 rfl rfl ?_
                refine xi_bipush (pc' := 16) (v := 23) kc_16_14 rfl rfl ?_
                refine xi_static (mj := 12) (as := [.int a2, .int 0, .int 23]) (st1 := []) (lv0 := [(0, .int a2), (1, .int 0), (2, .int 23)]) kc_16_16 rfl rfl (Nat.le_of_ble_eq_true rfl) rfl rfl (Nat.le_of_ble_eq_true rfl) (hJ _ _ _ _ (by decide)) (xm_le ml_12 rfl) rfl ?_
                refine xi_iload_n (pc' := 1) (x := a2) kc_12_0 rfl rfl ?_
                refine xi_iload_n (pc' := 2) (x := 0) kc_12_1 rfl rfl ?_
                refine xi_cmf (pc' := 5) kc_12_2 rfl (xc_lt_f (X := a2.toInt) (Y := 0) rfl (by decide) (by omega)) ?_
                refine xi_iload_n (pc' := 6) (x := a2) kc_12_5 rfl rfl ?_
                refine xi_iload_n (pc' := 7) (x := 23) kc_12_6 rfl rfl ?_
                refine xi_cmf (pc' := 10) kc_12_7 rfl (xc_gt_f (X := a2.toInt) (Y := 23) rfl (by decide) (by omega)) ?_
                refine xi_iconst (pc' := 11) (v := 1) kc_12_10 rfl rfl ?_
                refine xi_goto (pc' := 15) kc_12_11 rfl ?_
                refine xi_ireturn kc_12_15 mr_12 rfl ?_
                show xw J ov 99 16 (19, [(0, .ref 115), (1, .int 3), (2, .int a2), (3, .int a3)], [.int 1], hh3) _
                refine xi_ift (pc' := 28) kc_16_19 rfl rfl ?_
                refine xi_iload_n (pc' := 29) (x := a3) kc_16_28 rfl rfl ?_
                refine xi_ift (pc' := 39) kc_16_29 rfl (xc_ge_t (X := a3.toInt) (Y := 0) rfl (by decide) (by omega)) ?_
                refine xi_iload_n (pc' := 40) (x := a3) kc_16_39 rfl rfl ?_
                refine xi_sipush (pc' := 43) (v := 999) kc_16_40 rfl rfl ?_
                refine xi_cmt (pc' := 53) kc_16_43 rfl (xc_le_t (X := a3.toInt) (Y := 999) rfl (by decide) (by omega)) ?_
                refine xi_aload_n (pc' := 54) (x := 115) kc_16_53 rfl rfl ?_
                refine xi_getfield (pc' := 57) (v := .ref 122) kc_16_54 rfl rfl rfl eh3.1 rfl ?_
                refine xi_bipush (pc' := 59) (v := 24) kc_16_57 rfl rfl ?_
                refine xi_iload_n (pc' := 60) (x := 3) kc_16_59 rfl rfl ?_
                refine xi_imul (pc' := 61) (v := 72) kc_16_60 rfl rfl ?_
                refine xi_iload_n (pc' := 62) (x := a2) kc_16_61 rfl rfl ?_
                obtain ⟨v31, ev31⟩ : ∃ q : Int32, 72 + a2 = q := ⟨_, rfl⟩
                have zv31 : v31.toInt = (a2.toInt + 72) := by rw [← ev31]; exact (xz_add (X := 72) (Y := a2.toInt) (by decide) rfl (by omega) (by omega)).trans (by omega)
                refine xi_iadd (pc' := 63) (v := v31) kc_16_62 rfl ev31 ?_
                refine xi_iaload (pc' := 64) (v := 0) kc_16_63 rfl ((eh3.2.1 122 (by decide)).trans ((eh2.2.1 122 (by decide)).trans ((eh1.2.1 122 (by decide)).trans (F 122 _ hl_122)))) (by decide) rfl (xi_in (by rw [zv31]; omega) (by rw [zv31]; simp only [List.length_replicate]; omega)) (xa_rep (by rw [zv31]; omega) (by rw [zv31]; omega)) ?_
                refine xi_istore (pc' := 66) (lv' := [(4, .int 0), (0, .ref 115), (1, .int 3), (2, .int a2), (3, .int a3)]) kc_16_64 rfl rfl (xm_lt ml_16 rfl) ?_
                refine xi_aload_n (pc' := 67) (x := 115) kc_16_66 rfl rfl ?_
                refine xi_getfield (pc' := 70) (v := .ref 122) kc_16_67 rfl rfl rfl eh3.1 rfl ?_
                refine xi_bipush (pc' := 72) (v := 24) kc_16_70 rfl rfl ?_
                refine xi_iload_n (pc' := 73) (x := 3) kc_16_72 rfl rfl ?_
                refine xi_imul (pc' := 74) (v := 72) kc_16_73 rfl rfl ?_
                refine xi_iload_n (pc' := 75) (x := a2) kc_16_74 rfl rfl ?_
                obtain ⟨v32, ev32⟩ : ∃ q : Int32, 72 + a2 = q := ⟨_, rfl⟩
                have zv32 : v32.toInt = (a2.toInt + 72) := by rw [← ev32]; exact (xz_add (X := 72) (Y := a2.toInt) (by decide) rfl (by omega) (by omega)).trans (by omega)
                refine xi_iadd (pc' := 76) (v := v32) kc_16_75 rfl ev32 ?_
                refine xi_iload_n (pc' := 77) (x := a3) kc_16_76 rfl rfl ?_
                have lq34 : (List.replicate 144 0 : List Int32).length = 144 := by simp only [List.length_replicate, List.length_cons, List.length_nil, List.length_set]
                obtain ⟨x33, hx33⟩ : ∃ q, (List.replicate 144 0 : List Int32).set (Int32.toNatClampNeg v32) (a3) = q := ⟨_, rfl⟩
                have lx33 : x33.length = 144 := by rw [← hx33, List.length_set]; exact lq34
                refine xi_iastore (pc' := 78) (x' := x33) kc_16_77 rfl ((eh3.2.1 122 (by decide)).trans ((eh2.2.1 122 (by decide)).trans ((eh1.2.1 122 (by decide)).trans (F 122 _ hl_122)))) rfl (xi_in (by rw [zv32]; omega) (by rw [lq34]; rw [zv32]; omega)) hx33 (fun hh4 eh4 => ?_)
                refine xi_aload_n (pc' := 79) (x := 115) kc_16_78 rfl rfl ?_
                refine xi_iconst (pc' := 80) (v := 0) kc_16_79 rfl rfl ?_
                refine xi_putfield (pc' := 83) (fs' := [.int 0, .int 0, .ref 116, .ref 117, .ref 118, .ref 119, .ref 120, .ref 121, .ref 122, .ref 123, .ref 124, .ref 125, .ref 126, .ref 127, .ref 128, .ref 129, .int 4, .ref 130, .int 0, .ref 131, .ref 132, .ref 133, .ref 134, .int 0, .ref 135, .ref 136, .ref 137, .ref 138, .ref 139, .ref 140, .ref 141, .ref 142, .int 0, .int 0, .int 0, .ref 143, .ref 144, .ref 145, .ref 146, .ref 147, .ref 148, .int 0, .ref 149, .ref 150, .ref 151, .int 0, .ref 152, .ref 153, .ref 154, .ref 155, .ref 156, .ref 157, .ref 158, .ref 159, .int 0, .ref 160, .int 0, .ref 161, .ref 162, .ref 163, .ref 164, .int 0, .ref 165, .ref 166]) kc_16_80 rfl rfl rfl ((eh4.2.1 115 (by decide)).trans eh3.1) rfl rfl rfl (Nat.le_of_ble_eq_true rfl) rfl (fun hh5 eh5 => ?_)
                refine xi_iload (pc' := 85) (x := 0) kc_16_83 rfl rfl ?_
                refine xi_ireturn kc_16_85 mr_16 rfl ?_
                show xw J ov 100 196 (285, [(4, .int 0), (3, .ref 167), (2, .ref 115), (1, .ref 0), (0, .ref 1000000)], [.int 0, .int 0], hh5) _
                refine xi_cmt (pc' := 1528) kc_196_285 rfl rfl ?_
                refine xi_iinc (pc' := 1531) (x := 0) (v := 6) (lv' := [(4, .int 6), (3, .ref 167), (2, .ref 115), (1, .ref 0), (0, .ref 1000000)]) kc_196_1528 rfl rfl rfl rfl (xm_lt ml_196 rfl) ?_
                refine xi_goto (pc' := 23) kc_196_1531 rfl ?_
                refine xi_iload (pc' := 25) (x := 6) kc_196_23 rfl rfl ?_
                refine xi_aload_n (pc' := 26) (x := 1000000) kc_196_25 rfl rfl ?_
                refine xi_arraylength (pc' := 27) (n := 6) (v := 6) kc_196_26 rfl (xl_lenO (by decide) hov0 rfl) rfl ?_
                refine xi_bipush (pc' := 29) (v := 6) kc_196_27 rfl rfl ?_
                refine xi_isub (pc' := 30) (v := 0) kc_196_29 rfl rfl ?_
                refine xi_cmt (pc' := 1534) kc_196_30 rfl rfl ?_
                refine xi_iconst (pc' := 1535) (v := 1) kc_196_1534 rfl rfl ?_
                refine xi_ireturn kc_196_1535 mr_196 rfl ?_
                refine ⟨rfl, ?_, ?_⟩
                · rw [eh5.2.2.1, eh4.2.2.1, eh3.2.2.1, eh2.2.2.1, eh1.2.2.1]; exact hn0
                · rw [eh5.2.2.2, eh4.2.2.2, eh3.2.2.2, eh2.2.2.2, eh1.2.2.2]; exact hz0
              by_cases c35 : a1.toInt = 4
              · have qa1 : a1 = 4 := xc_of (Eq.trans (by omega) (show (4 : Int) = (4 : Int32).toInt by decide))
                subst qa1
                refine xi_aaload (pc' := 64) (b := 23) kc_95_63 rfl ((eh1.2.1 2 (by decide)).trans (F 2 _ hl_2)) rfl (xi_in (n := 6) (by decide) (by decide)) rfl ?_
                refine xi_getfield (pc' := 67) (v := .ref 25) kc_95_64 rfl rfl rfl ((eh1.2.1 23 (by decide)).trans (F 23 _ hl_23)) rfl ?_
                refine xi_astore (pc' := 69) (lv' := [(4, .ref 25), (0, .ref 0), (1, .int 4), (2, .int a2), (3, .int a3)]) kc_95_67 rfl rfl (xm_lt ml_95 rfl) ?_
                refine xi_aload (pc' := 71) (x := 25) kc_95_69 rfl rfl ?_
                refine xi_iload_n (pc' := 72) (x := a2) kc_95_71 rfl rfl ?_
                refine xi_iaload (pc' := 73) (v := 0) kc_95_72 rfl ((eh1.2.1 25 (by decide)).trans (F 25 _ hl_25)) (by decide) rfl (xi_in (by omega) (by simp only [List.length_replicate]; omega)) (xa_rep (by omega) (by omega)) ?_
                refine xi_istore (pc' := 75) (lv' := [(5, .int 0), (4, .ref 25), (0, .ref 0), (1, .int 4), (2, .int a2), (3, .int a3)]) kc_95_73 rfl rfl (xm_lt ml_95 rfl) ?_
                refine xi_aload (pc' := 77) (x := 25) kc_95_75 rfl rfl ?_
                refine xi_iload_n (pc' := 78) (x := a2) kc_95_77 rfl rfl ?_
                refine xi_iload_n (pc' := 79) (x := a3) kc_95_78 rfl rfl ?_
                have lq37 : (List.replicate 24 0 : List Int32).length = 24 := by simp only [List.length_replicate, List.length_cons, List.length_nil, List.length_set]
                obtain ⟨x36, hx36⟩ : ∃ q, (List.replicate 24 0 : List Int32).set (Int32.toNatClampNeg a2) (a3) = q := ⟨_, rfl⟩
                have lx36 : x36.length = 24 := by rw [← hx36, List.length_set]; exact lq37
                refine xi_iastore (pc' := 80) (x' := x36) kc_95_79 rfl ((eh1.2.1 25 (by decide)).trans (F 25 _ hl_25)) rfl (xi_in (by omega) (by rw [lq37]; omega)) hx36 (fun hh2 eh2 => ?_)
                refine xi_iload (pc' := 82) (x := 0) kc_95_80 rfl rfl ?_
                refine xi_ireturn kc_95_82 mr_95 rfl ?_
                show xw J ov 100 196 (263, [(4, .int 0), (3, .ref 167), (2, .ref 115), (1, .ref 0), (0, .ref 1000000)], [.int 0], hh2) _
                refine xi_aload_n (pc' := 264) (x := 115) kc_196_263 rfl rfl ?_
                refine xi_aload_n (pc' := 265) (x := 1000000) kc_196_264 rfl rfl ?_
                refine xi_iload (pc' := 267) (x := 0) kc_196_265 rfl rfl ?_
                refine xi_iconst (pc' := 268) (v := 1) kc_196_267 rfl rfl ?_
                refine xi_iadd (pc' := 269) (v := 1) kc_196_268 rfl rfl ?_
                refine xi_ialoadO (pc' := 270) (v := 4) kc_196_269 rfl (by decide) hov0 (xi_in (n := 6) (by decide) (by decide)) rfl ?_
                refine xi_aload_n (pc' := 271) (x := 1000000) kc_196_270 rfl rfl ?_
                refine xi_iload (pc' := 273) (x := 0) kc_196_271 rfl rfl ?_
                refine xi_iconst (pc' := 274) (v := 2) kc_196_273 rfl rfl ?_
                refine xi_iadd (pc' := 275) (v := 2) kc_196_274 rfl rfl ?_
                refine xi_ialoadO (pc' := 276) (v := a2) kc_196_275 rfl (by decide) hov0 (xi_in (n := 6) (by decide) (by decide)) rfl ?_
                refine xi_aload_n (pc' := 277) (x := 1000000) kc_196_276 rfl rfl ?_
                refine xi_iload (pc' := 279) (x := 0) kc_196_277 rfl rfl ?_
                refine xi_iconst (pc' := 280) (v := 3) kc_196_279 rfl rfl ?_
                refine xi_iadd (pc' := 281) (v := 3) kc_196_280 rfl rfl ?_
                refine xi_ialoadO (pc' := 282) (v := a3) kc_196_281 rfl (by decide) hov0 (xi_in (n := 6) (by decide) (by decide)) rfl ?_
                refine xi_virtual (mj := 16) (as := [.int 4, .int a2, .int a3]) (st1 := [.int 0]) (lv0 := [(0, .ref 115), (1, .int 4), (2, .int a2), (3, .int a3)]) kc_196_282 rfl rfl rfl rfl rfl ((eh2.2.1 115 (by decide)).trans ((eh1.2.1 115 (by decide)).trans (F 115 _ hl_115))) (Nat.le_of_ble_eq_true rfl) (hJ _ _ _ _ (by decide)) (xm_le ml_16 rfl) rfl ?_
                refine xi_aload_n (pc' := 1) (x := 115) kc_16_0 rfl rfl ?_
                refine xi_iconst (pc' := 2) (v := 0) kc_16_1 rfl rfl ?_
                refine xi_putfield (pc' := 5) (fs' := [.int 0, .int 0, .ref 116, .ref 117, .ref 118, .ref 119, .ref 120, .ref 121, .ref 122, .ref 123, .ref 124, .ref 125, .ref 126, .ref 127, .ref 128, .ref 129, .int 4, .ref 130, .int 0, .ref 131, .ref 132, .ref 133, .ref 134, .int 0, .ref 135, .ref 136, .ref 137, .ref 138, .ref 139, .ref 140, .ref 141, .ref 142, .int 0, .int 0, .int 0, .ref 143, .ref 144, .ref 145, .ref 146, .ref 147, .ref 148, .int 0, .ref 149, .ref 150, .ref 151, .int 0, .ref 152, .ref 153, .ref 154, .ref 155, .ref 156, .ref 157, .ref 158, .ref 159, .int 0, .ref 160, .int 0, .ref 161, .ref 162, .ref 163, .ref 164, .int 0, .ref 165, .ref 166]) kc_16_2 rfl rfl rfl ((eh2.2.1 115 (by decide)).trans ((eh1.2.1 115 (by decide)).trans (F 115 _ hl_115))) rfl rfl rfl (Nat.le_of_ble_eq_true rfl) rfl (fun hh3 eh3 => ?_)
                refine xi_iload_n (pc' := 6) (x := 4) kc_16_5 rfl rfl ?_
                refine xi_static (mj := 11) (as := [.int 4]) (st1 := []) (lv0 := [(0, .int 4)]) kc_16_6 rfl rfl (Nat.le_of_ble_eq_true rfl) rfl rfl (Nat.le_of_ble_eq_true rfl) (hJ _ _ _ _ (by decide)) (xm_le ml_11 rfl) rfl ?_
                refine xi_iload_n (pc' := 1) (x := 4) kc_11_0 rfl rfl ?_
                refine xi_iconst (pc' := 2) (v := 0) kc_11_1 rfl rfl ?_
                refine xi_iconst (pc' := 3) (v := 5) kc_11_2 rfl rfl ?_
                refine xi_static (mj := 12) (as := [.int 4, .int 0, .int 5]) (st1 := []) (lv0 := [(0, .int 4), (1, .int 0), (2, .int 5)]) kc_11_3 rfl rfl (Nat.le_of_ble_eq_true rfl) rfl rfl (Nat.le_of_ble_eq_true rfl) (hJ _ _ _ _ (by decide)) (xm_le ml_12 rfl) rfl ?_
                refine xi_iload_n (pc' := 1) (x := 4) kc_12_0 rfl rfl ?_
                refine xi_iload_n (pc' := 2) (x := 0) kc_12_1 rfl rfl ?_
                refine xi_cmf (pc' := 5) kc_12_2 rfl rfl ?_
                refine xi_iload_n (pc' := 6) (x := 4) kc_12_5 rfl rfl ?_
                refine xi_iload_n (pc' := 7) (x := 5) kc_12_6 rfl rfl ?_
                refine xi_cmf (pc' := 10) kc_12_7 rfl rfl ?_
                refine xi_iconst (pc' := 11) (v := 1) kc_12_10 rfl rfl ?_
                refine xi_goto (pc' := 15) kc_12_11 rfl ?_
                refine xi_ireturn kc_12_15 mr_12 rfl ?_
                show xw J ov 98 11 (6, [(0, .int 4)], [.int 1], hh3) _
                refine xi_ireturn kc_11_6 mr_11 rfl ?_
                show xw J ov 99 16 (9, [(0, .ref 115), (1, .int 4), (2, .int a2), (3, .int a3)], [.int 1], hh3) _
                refine xi_iff (pc' := 12) kc_16_9 rfl rfl ?_
                refine xi_iload_n (pc' := 13) (x := a2) kc_16_12 rfl rfl ?_
                refine xi_iconst (pc' := 14) (v := 0) kc_16_13 rfl rfl ?_
                refine xi_bipush (pc' := 16) (v := 23) kc_16_14 rfl rfl ?_
                refine xi_static (mj := 12) (as := [.int a2, .int 0, .int 23]) (st1 := []) (lv0 := [(0, .int a2), (1, .int 0), (2, .int 23)]) kc_16_16 rfl rfl (Nat.le_of_ble_eq_true rfl) rfl rfl (Nat.le_of_ble_eq_true rfl) (hJ _ _ _ _ (by decide)) (xm_le ml_12 rfl) rfl ?_
                refine xi_iload_n (pc' := 1) (x := a2) kc_12_0 rfl rfl ?_
                refine xi_iload_n (pc' := 2) (x := 0) kc_12_1 rfl rfl ?_
                refine xi_cmf (pc' := 5) kc_12_2 rfl (xc_lt_f (X := a2.toInt) (Y := 0) rfl (by decide) (by omega)) ?_
                refine xi_iload_n (pc' := 6) (x := a2) kc_12_5 rfl rfl ?_
                refine xi_iload_n (pc' := 7) (x := 23) kc_12_6 rfl rfl ?_
                refine xi_cmf (pc' := 10) kc_12_7 rfl (xc_gt_f (X := a2.toInt) (Y := 23) rfl (by decide) (by omega)) ?_
                refine xi_iconst (pc' := 11) (v := 1) kc_12_10 rfl rfl ?_
                refine xi_goto (pc' := 15) kc_12_11 rfl ?_
                refine xi_ireturn kc_12_15 mr_12 rfl ?_
                show xw J ov 99 16 (19, [(0, .ref 115), (1, .int 4), (2, .int a2), (3, .int a3)], [.int 1], hh3) _
                refine xi_ift (pc' := 28) kc_16_19 rfl rfl ?_
                refine xi_iload_n (pc' := 29) (x := a3) kc_16_28 rfl rfl ?_
                refine xi_ift (pc' := 39) kc_16_29 rfl (xc_ge_t (X := a3.toInt) (Y := 0) rfl (by decide) (by omega)) ?_
                refine xi_iload_n (pc' := 40) (x := a3) kc_16_39 rfl rfl ?_
                refine xi_sipush (pc' := 43) (v := 999) kc_16_40 rfl rfl ?_
                refine xi_cmt (pc' := 53) kc_16_43 rfl (xc_le_t (X := a3.toInt) (Y := 999) rfl (by decide) (by omega)) ?_
                refine xi_aload_n (pc' := 54) (x := 115) kc_16_53 rfl rfl ?_
                refine xi_getfield (pc' := 57) (v := .ref 122) kc_16_54 rfl rfl rfl eh3.1 rfl ?_
                refine xi_bipush (pc' := 59) (v := 24) kc_16_57 rfl rfl ?_
                refine xi_iload_n (pc' := 60) (x := 4) kc_16_59 rfl rfl ?_
                refine xi_imul (pc' := 61) (v := 96) kc_16_60 rfl rfl ?_
                refine xi_iload_n (pc' := 62) (x := a2) kc_16_61 rfl rfl ?_
                obtain ⟨v38, ev38⟩ : ∃ q : Int32, 96 + a2 = q := ⟨_, rfl⟩
                have zv38 : v38.toInt = (a2.toInt + 96) := by rw [← ev38]; exact (xz_add (X := 96) (Y := a2.toInt) (by decide) rfl (by omega) (by omega)).trans (by omega)
                refine xi_iadd (pc' := 63) (v := v38) kc_16_62 rfl ev38 ?_
                refine xi_iaload (pc' := 64) (v := 0) kc_16_63 rfl ((eh3.2.1 122 (by decide)).trans ((eh2.2.1 122 (by decide)).trans ((eh1.2.1 122 (by decide)).trans (F 122 _ hl_122)))) (by decide) rfl (xi_in (by rw [zv38]; omega) (by rw [zv38]; simp only [List.length_replicate]; omega)) (xa_rep (by rw [zv38]; omega) (by rw [zv38]; omega)) ?_
                refine xi_istore (pc' := 66) (lv' := [(4, .int 0), (0, .ref 115), (1, .int 4), (2, .int a2), (3, .int a3)]) kc_16_64 rfl rfl (xm_lt ml_16 rfl) ?_
                refine xi_aload_n (pc' := 67) (x := 115) kc_16_66 rfl rfl ?_
                refine xi_getfield (pc' := 70) (v := .ref 122) kc_16_67 rfl rfl rfl eh3.1 rfl ?_
                refine xi_bipush (pc' := 72) (v := 24) kc_16_70 rfl rfl ?_
                refine xi_iload_n (pc' := 73) (x := 4) kc_16_72 rfl rfl ?_
                refine xi_imul (pc' := 74) (v := 96) kc_16_73 rfl rfl ?_
                refine xi_iload_n (pc' := 75) (x := a2) kc_16_74 rfl rfl ?_
                obtain ⟨v39, ev39⟩ : ∃ q : Int32, 96 + a2 = q := ⟨_, rfl⟩
                have zv39 : v39.toInt = (a2.toInt + 96) := by rw [← ev39]; exact (xz_add (X := 96) (Y := a2.toInt) (by decide) rfl (by omega) (by omega)).trans (by omega)
                refine xi_iadd (pc' := 76) (v := v39) kc_16_75 rfl ev39 ?_
                refine xi_iload_n (pc' := 77) (x := a3) kc_16_76 rfl rfl ?_
                have lq41 : (List.replicate 144 0 : List Int32).length = 144 := by simp only [List.length_replicate, List.length_cons, List.length_nil, List.length_set]
                obtain ⟨x40, hx40⟩ : ∃ q, (List.replicate 144 0 : List Int32).set (Int32.toNatClampNeg v39) (a3) = q := ⟨_, rfl⟩
                have lx40 : x40.length = 144 := by rw [← hx40, List.length_set]; exact lq41
                refine xi_iastore (pc' := 78) (x' := x40) kc_16_77 rfl ((eh3.2.1 122 (by decide)).trans ((eh2.2.1 122 (by decide)).trans ((eh1.2.1 122 (by decide)).trans (F 122 _ hl_122)))) rfl (xi_in (by rw [zv39]; omega) (by rw [lq41]; rw [zv39]; omega)) hx40 (fun hh4 eh4 => ?_)
                refine xi_aload_n (pc' := 79) (x := 115) kc_16_78 rfl rfl ?_
                refine xi_iconst (pc' := 80) (v := 0) kc_16_79 rfl rfl ?_
                refine xi_putfield (pc' := 83) (fs' := [.int 0, .int 0, .ref 116, .ref 117, .ref 118, .ref 119, .ref 120, .ref 121, .ref 122, .ref 123, .ref 124, .ref 125, .ref 126, .ref 127, .ref 128, .ref 129, .int 4, .ref 130, .int 0, .ref 131, .ref 132, .ref 133, .ref 134, .int 0, .ref 135, .ref 136, .ref 137, .ref 138, .ref 139, .ref 140, .ref 141, .ref 142, .int 0, .int 0, .int 0, .ref 143, .ref 144, .ref 145, .ref 146, .ref 147, .ref 148, .int 0, .ref 149, .ref 150, .ref 151, .int 0, .ref 152, .ref 153, .ref 154, .ref 155, .ref 156, .ref 157, .ref 158, .ref 159, .int 0, .ref 160, .int 0, .ref 161, .ref 162, .ref 163, .ref 164, .int 0, .ref 165, .ref 166]) kc_16_80 rfl rfl rfl ((eh4.2.1 115 (by decide)).trans eh3.1) rfl rfl rfl (Nat.le_of_ble_eq_true rfl) rfl (fun hh5 eh5 => ?_)
                refine xi_iload (pc' := 85) (x := 0) kc_16_83 rfl rfl ?_
                refine xi_ireturn kc_16_85 mr_16 rfl ?_
                show xw J ov 100 196 (285, [(4, .int 0), (3, .ref 167), (2, .ref 115), (1, .ref 0), (0, .ref 1000000)], [.int 0, .int 0], hh5) _
                refine xi_cmt (pc' := 1528) kc_196_285 rfl rfl ?_
                refine xi_iinc (pc' := 1531) (x := 0) (v := 6) (lv' := [(4, .int 6), (3, .ref 167), (2, .ref 115), (1, .ref 0), (0, .ref 1000000)]) kc_196_1528 rfl rfl rfl rfl (xm_lt ml_196 rfl) ?_
                refine xi_goto (pc' := 23) kc_196_1531 rfl ?_
                refine xi_iload (pc' := 25) (x := 6) kc_196_23 rfl rfl ?_
                refine xi_aload_n (pc' := 26) (x := 1000000) kc_196_25 rfl rfl ?_
                refine xi_arraylength (pc' := 27) (n := 6) (v := 6) kc_196_26 rfl (xl_lenO (by decide) hov0 rfl) rfl ?_
                refine xi_bipush (pc' := 29) (v := 6) kc_196_27 rfl rfl ?_
                refine xi_isub (pc' := 30) (v := 0) kc_196_29 rfl rfl ?_
                refine xi_cmt (pc' := 1534) kc_196_30 rfl rfl ?_
                refine xi_iconst (pc' := 1535) (v := 1) kc_196_1534 rfl rfl ?_
                refine xi_ireturn kc_196_1535 mr_196 rfl ?_
                refine ⟨rfl, ?_, ?_⟩
                · rw [eh5.2.2.1, eh4.2.2.1, eh3.2.2.1, eh2.2.2.1, eh1.2.2.1]; exact hn0
                · rw [eh5.2.2.2, eh4.2.2.2, eh3.2.2.2, eh2.2.2.2, eh1.2.2.2]; exact hz0
              have qa1 : a1 = 5 := xc_of (Eq.trans (by omega) (show (5 : Int) = (5 : Int32).toInt by decide))
              subst qa1
              refine xi_aaload (pc' := 64) (b := 26) kc_95_63 rfl ((eh1.2.1 2 (by decide)).trans (F 2 _ hl_2)) rfl (xi_in (n := 6) (by decide) (by decide)) rfl ?_
              refine xi_getfield (pc' := 67) (v := .ref 28) kc_95_64 rfl rfl rfl ((eh1.2.1 26 (by decide)).trans (F 26 _ hl_26)) rfl ?_
              refine xi_astore (pc' := 69) (lv' := [(4, .ref 28), (0, .ref 0), (1, .int 5), (2, .int a2), (3, .int a3)]) kc_95_67 rfl rfl (xm_lt ml_95 rfl) ?_
              refine xi_aload (pc' := 71) (x := 28) kc_95_69 rfl rfl ?_
              refine xi_iload_n (pc' := 72) (x := a2) kc_95_71 rfl rfl ?_
              refine xi_iaload (pc' := 73) (v := 0) kc_95_72 rfl ((eh1.2.1 28 (by decide)).trans (F 28 _ hl_28)) (by decide) rfl (xi_in (by omega) (by simp only [List.length_replicate]; omega)) (xa_rep (by omega) (by omega)) ?_
              refine xi_istore (pc' := 75) (lv' := [(5, .int 0), (4, .ref 28), (0, .ref 0), (1, .int 5), (2, .int a2), (3, .int a3)]) kc_95_73 rfl rfl (xm_lt ml_95 rfl) ?_
              refine xi_aload (pc' := 77) (x := 28) kc_95_75 rfl rfl ?_
              refine xi_iload_n (pc' := 78) (x := a2) kc_95_77 rfl rfl ?_
              refine xi_iload_n (pc' := 79) (x := a3) kc_95_78 rfl rfl ?_
              have lq43 : (List.replicate 24 0 : List Int32).length = 24 := by simp only [List.length_replicate, List.length_cons, List.length_nil, List.length_set]
              obtain ⟨x42, hx42⟩ : ∃ q, (List.replicate 24 0 : List Int32).set (Int32.toNatClampNeg a2) (a3) = q := ⟨_, rfl⟩
              have lx42 : x42.length = 24 := by rw [← hx42, List.length_set]; exact lq43
              refine xi_iastore (pc' := 80) (x' := x42) kc_95_79 rfl ((eh1.2.1 28 (by decide)).trans (F 28 _ hl_28)) rfl (xi_in (by omega) (by rw [lq43]; omega)) hx42 (fun hh2 eh2 => ?_)
              refine xi_iload (pc' := 82) (x := 0) kc_95_80 rfl rfl ?_
              refine xi_ireturn kc_95_82 mr_95 rfl ?_
              show xw J ov 100 196 (263, [(4, .int 0), (3, .ref 167), (2, .ref 115), (1, .ref 0), (0, .ref 1000000)], [.int 0], hh2) _
              refine xi_aload_n (pc' := 264) (x := 115) kc_196_263 rfl rfl ?_
              refine xi_aload_n (pc' := 265) (x := 1000000) kc_196_264 rfl rfl ?_
              refine xi_iload (pc' := 267) (x := 0) kc_196_265 rfl rfl ?_
              refine xi_iconst (pc' := 268) (v := 1) kc_196_267 rfl rfl ?_
              refine xi_iadd (pc' := 269) (v := 1) kc_196_268 rfl rfl ?_
              refine xi_ialoadO (pc' := 270) (v := 5) kc_196_269 rfl (by decide) hov0 (xi_in (n := 6) (by decide) (by decide)) rfl ?_
              refine xi_aload_n (pc' := 271) (x := 1000000) kc_196_270 rfl rfl ?_
              refine xi_iload (pc' := 273) (x := 0) kc_196_271 rfl rfl ?_
              refine xi_iconst (pc' := 274) (v := 2) kc_196_273 rfl rfl ?_
              refine xi_iadd (pc' := 275) (v := 2) kc_196_274 rfl rfl ?_
              refine xi_ialoadO (pc' := 276) (v := a2) kc_196_275 rfl (by decide) hov0 (xi_in (n := 6) (by decide) (by decide)) rfl ?_
              refine xi_aload_n (pc' := 277) (x := 1000000) kc_196_276 rfl rfl ?_
              refine xi_iload (pc' := 279) (x := 0) kc_196_277 rfl rfl ?_
              refine xi_iconst (pc' := 280) (v := 3) kc_196_279 rfl rfl ?_
              refine xi_iadd (pc' := 281) (v := 3) kc_196_280 rfl rfl ?_
              refine xi_ialoadO (pc' := 282) (v := a3) kc_196_281 rfl (by decide) hov0 (xi_in (n := 6) (by decide) (by decide)) rfl ?_
              refine xi_virtual (mj := 16) (as := [.int 5, .int a2, .int a3]) (st1 := [.int 0]) (lv0 := [(0, .ref 115), (1, .int 5), (2, .int a2), (3, .int a3)]) kc_196_282 rfl rfl rfl rfl rfl ((eh2.2.1 115 (by decide)).trans ((eh1.2.1 115 (by decide)).trans (F 115 _ hl_115))) (Nat.le_of_ble_eq_true rfl) (hJ _ _ _ _ (by decide)) (xm_le ml_16 rfl) rfl ?_
              refine xi_aload_n (pc' := 1) (x := 115) kc_16_0 rfl rfl ?_
              refine xi_iconst (pc' := 2) (v := 0) kc_16_1 rfl rfl ?_
              refine xi_putfield (pc' := 5) (fs' := [.int 0, .int 0, .ref 116, .ref 117, .ref 118, .ref 119, .ref 120, .ref 121, .ref 122, .ref 123, .ref 124, .ref 125, .ref 126, .ref 127, .ref 128, .ref 129, .int 4, .ref 130, .int 0, .ref 131, .ref 132, .ref 133, .ref 134, .int 0, .ref 135, .ref 136, .ref 137, .ref 138, .ref 139, .ref 140, .ref 141, .ref 142, .int 0, .int 0, .int 0, .ref 143, .ref 144, .ref 145, .ref 146, .ref 147, .ref 148, .int 0, .ref 149, .ref 150, .ref 151, .int 0, .ref 152, .ref 153, .ref 154, .ref 155, .ref 156, .ref 157, .ref 158, .ref 159, .int 0, .ref 160, .int 0, .ref 161, .ref 162, .ref 163, .ref 164, .int 0, .ref 165, .ref 166]) kc_16_2 rfl rfl rfl ((eh2.2.1 115 (by decide)).trans ((eh1.2.1 115 (by decide)).trans (F 115 _ hl_115))) rfl rfl rfl (Nat.le_of_ble_eq_true rfl) rfl (fun hh3 eh3 => ?_)
              refine xi_iload_n (pc' := 6) (x := 5) kc_16_5 rfl rfl ?_
              refine xi_static (mj := 11) (as := [.int 5]) (st1 := []) (lv0 := [(0, .int 5)]) kc_16_6 rfl rfl (Nat.le_of_ble_eq_true rfl) rfl rfl (Nat.le_of_ble_eq_true rfl) (hJ _ _ _ _ (by decide)) (xm_le ml_11 rfl) rfl ?_
              refine xi_iload_n (pc' := 1) (x := 5) kc_11_0 rfl rfl ?_
              refine xi_iconst (pc' := 2) (v := 0) kc_11_1 rfl rfl ?_
              refine xi_iconst (pc' := 3) (v := 5) kc_11_2 rfl rfl ?_
              refine xi_static (mj := 12) (as := [.int 5, .int 0, .int 5]) (st1 := []) (lv0 := [(0, .int 5), (1, .int 0), (2, .int 5)]) kc_11_3 rfl rfl (Nat.le_of_ble_eq_true rfl) rfl rfl (Nat.le_of_ble_eq_true rfl) (hJ _ _ _ _ (by decide)) (xm_le ml_12 rfl) rfl ?_
              refine xi_iload_n (pc' := 1) (x := 5) kc_12_0 rfl rfl ?_
              refine xi_iload_n (pc' := 2) (x := 0) kc_12_1 rfl rfl ?_
              refine xi_cmf (pc' := 5) kc_12_2 rfl rfl ?_
              refine xi_iload_n (pc' := 6) (x := 5) kc_12_5 rfl rfl ?_
              refine xi_iload_n (pc' := 7) (x := 5) kc_12_6 rfl rfl ?_
              refine xi_cmf (pc' := 10) kc_12_7 rfl rfl ?_
              refine xi_iconst (pc' := 11) (v := 1) kc_12_10 rfl rfl ?_
              refine xi_goto (pc' := 15) kc_12_11 rfl ?_
              refine xi_ireturn kc_12_15 mr_12 rfl ?_
              show xw J ov 98 11 (6, [(0, .int 5)], [.int 1], hh3) _
              refine xi_ireturn kc_11_6 mr_11 rfl ?_
              show xw J ov 99 16 (9, [(0, .ref 115), (1, .int 5), (2, .int a2), (3, .int a3)], [.int 1], hh3) _
              refine xi_iff (pc' := 12) kc_16_9 rfl rfl ?_
              refine xi_iload_n (pc' := 13) (x := a2) kc_16_12 rfl rfl ?_
              refine xi_iconst (pc' := 14) (v := 0) kc_16_13 rfl rfl ?_
              refine xi_bipush (pc' := 16) (v := 23) kc_16_14 rfl rfl ?_
              refine xi_static (mj := 12) (as := [.int a2, .int 0, .int 23]) (st1 := []) (lv0 := [(0, .int a2), (1, .int 0), (2, .int 23)]) kc_16_16 rfl rfl (Nat.le_of_ble_eq_true rfl) rfl rfl (Nat.le_of_ble_eq_true rfl) (hJ _ _ _ _ (by decide)) (xm_le ml_12 rfl) rfl ?_
              refine xi_iload_n (pc' := 1) (x := a2) kc_12_0 rfl rfl ?_
              refine xi_iload_n (pc' := 2) (x := 0) kc_12_1 rfl rfl ?_
              refine xi_cmf (pc' := 5) kc_12_2 rfl (xc_lt_f (X := a2.toInt) (Y := 0) rfl (by decide) (by omega)) ?_
              refine xi_iload_n (pc' := 6) (x := a2) kc_12_5 rfl rfl ?_
              refine xi_iload_n (pc' := 7) (x := 23) kc_12_6 rfl rfl ?_
              refine xi_cmf (pc' := 10) kc_12_7 rfl (xc_gt_f (X := a2.toInt) (Y := 23) rfl (by decide) (by omega)) ?_
              refine xi_iconst (pc' := 11) (v := 1) kc_12_10 rfl rfl ?_
              refine xi_goto (pc' := 15) kc_12_11 rfl ?_
              refine xi_ireturn kc_12_15 mr_12 rfl ?_
              show xw J ov 99 16 (19, [(0, .ref 115), (1, .int 5), (2, .int a2), (3, .int a3)], [.int 1], hh3) _
              refine xi_ift (pc' := 28) kc_16_19 rfl rfl ?_
              refine xi_iload_n (pc' := 29) (x := a3) kc_16_28 rfl rfl ?_
              refine xi_ift (pc' := 39) kc_16_29 rfl (xc_ge_t (X := a3.toInt) (Y := 0) rfl (by decide) (by omega)) ?_
              refine xi_iload_n (pc' := 40) (x := a3) kc_16_39 rfl rfl ?_
              refine xi_sipush (pc' := 43) (v := 999) kc_16_40 rfl rfl ?_
              refine xi_cmt (pc' := 53) kc_16_43 rfl (xc_le_t (X := a3.toInt) (Y := 999) rfl (by decide) (by omega)) ?_
              refine xi_aload_n (pc' := 54) (x := 115) kc_16_53 rfl rfl ?_
              refine xi_getfield (pc' := 57) (v := .ref 122) kc_16_54 rfl rfl rfl eh3.1 rfl ?_
              refine xi_bipush (pc' := 59) (v := 24) kc_16_57 rfl rfl ?_
              refine xi_iload_n (pc' := 60) (x := 5) kc_16_59 rfl rfl ?_
              refine xi_imul (pc' := 61) (v := 120) kc_16_60 rfl rfl ?_
              refine xi_iload_n (pc' := 62) (x := a2) kc_16_61 rfl rfl ?_
              obtain ⟨v44, ev44⟩ : ∃ q : Int32, 120 + a2 = q := ⟨_, rfl⟩
              have zv44 : v44.toInt = (a2.toInt + 120) := by rw [← ev44]; exact (xz_add (X := 120) (Y := a2.toInt) (by decide) rfl (by omega) (by omega)).trans (by omega)
              refine xi_iadd (pc' := 63) (v := v44) kc_16_62 rfl ev44 ?_
              refine xi_iaload (pc' := 64) (v := 0) kc_16_63 rfl ((eh3.2.1 122 (by decide)).trans ((eh2.2.1 122 (by decide)).trans ((eh1.2.1 122 (by decide)).trans (F 122 _ hl_122)))) (by decide) rfl (xi_in (by rw [zv44]; omega) (by rw [zv44]; simp only [List.length_replicate]; omega)) (xa_rep (by rw [zv44]; omega) (by rw [zv44]; omega)) ?_
              refine xi_istore (pc' := 66) (lv' := [(4, .int 0), (0, .ref 115), (1, .int 5), (2, .int a2), (3, .int a3)]) kc_16_64 rfl rfl (xm_lt ml_16 rfl) ?_
              refine xi_aload_n (pc' := 67) (x := 115) kc_16_66 rfl rfl ?_
              refine xi_getfield (pc' := 70) (v := .ref 122) kc_16_67 rfl rfl rfl eh3.1 rfl ?_
              refine xi_bipush (pc' := 72) (v := 24) kc_16_70 rfl rfl ?_
              refine xi_iload_n (pc' := 73) (x := 5) kc_16_72 rfl rfl ?_
              refine xi_imul (pc' := 74) (v := 120) kc_16_73 rfl rfl ?_
              refine xi_iload_n (pc' := 75) (x := a2) kc_16_74 rfl rfl ?_
              obtain ⟨v45, ev45⟩ : ∃ q : Int32, 120 + a2 = q := ⟨_, rfl⟩
              have zv45 : v45.toInt = (a2.toInt + 120) := by rw [← ev45]; exact (xz_add (X := 120) (Y := a2.toInt) (by decide) rfl (by omega) (by omega)).trans (by omega)
              refine xi_iadd (pc' := 76) (v := v45) kc_16_75 rfl ev45 ?_
              refine xi_iload_n (pc' := 77) (x := a3) kc_16_76 rfl rfl ?_
              have lq47 : (List.replicate 144 0 : List Int32).length = 144 := by simp only [List.length_replicate, List.length_cons, List.length_nil, List.length_set]
              obtain ⟨x46, hx46⟩ : ∃ q, (List.replicate 144 0 : List Int32).set (Int32.toNatClampNeg v45) (a3) = q := ⟨_, rfl⟩
              have lx46 : x46.length = 144 := by rw [← hx46, List.length_set]; exact lq47
              refine xi_iastore (pc' := 78) (x' := x46) kc_16_77 rfl ((eh3.2.1 122 (by decide)).trans ((eh2.2.1 122 (by decide)).trans ((eh1.2.1 122 (by decide)).trans (F 122 _ hl_122)))) rfl (xi_in (by rw [zv45]; omega) (by rw [lq47]; rw [zv45]; omega)) hx46 (fun hh4 eh4 => ?_)
              refine xi_aload_n (pc' := 79) (x := 115) kc_16_78 rfl rfl ?_
              refine xi_iconst (pc' := 80) (v := 0) kc_16_79 rfl rfl ?_
              refine xi_putfield (pc' := 83) (fs' := [.int 0, .int 0, .ref 116, .ref 117, .ref 118, .ref 119, .ref 120, .ref 121, .ref 122, .ref 123, .ref 124, .ref 125, .ref 126, .ref 127, .ref 128, .ref 129, .int 4, .ref 130, .int 0, .ref 131, .ref 132, .ref 133, .ref 134, .int 0, .ref 135, .ref 136, .ref 137, .ref 138, .ref 139, .ref 140, .ref 141, .ref 142, .int 0, .int 0, .int 0, .ref 143, .ref 144, .ref 145, .ref 146, .ref 147, .ref 148, .int 0, .ref 149, .ref 150, .ref 151, .int 0, .ref 152, .ref 153, .ref 154, .ref 155, .ref 156, .ref 157, .ref 158, .ref 159, .int 0, .ref 160, .int 0, .ref 161, .ref 162, .ref 163, .ref 164, .int 0, .ref 165, .ref 166]) kc_16_80 rfl rfl rfl ((eh4.2.1 115 (by decide)).trans eh3.1) rfl rfl rfl (Nat.le_of_ble_eq_true rfl) rfl (fun hh5 eh5 => ?_)
              refine xi_iload (pc' := 85) (x := 0) kc_16_83 rfl rfl ?_
              refine xi_ireturn kc_16_85 mr_16 rfl ?_
              show xw J ov 100 196 (285, [(4, .int 0), (3, .ref 167), (2, .ref 115), (1, .ref 0), (0, .ref 1000000)], [.int 0, .int 0], hh5) _
              refine xi_cmt (pc' := 1528) kc_196_285 rfl rfl ?_
              refine xi_iinc (pc' := 1531) (x := 0) (v := 6) (lv' := [(4, .int 6), (3, .ref 167), (2, .ref 115), (1, .ref 0), (0, .ref 1000000)]) kc_196_1528 rfl rfl rfl rfl (xm_lt ml_196 rfl) ?_
              refine xi_goto (pc' := 23) kc_196_1531 rfl ?_
              refine xi_iload (pc' := 25) (x := 6) kc_196_23 rfl rfl ?_
              refine xi_aload_n (pc' := 26) (x := 1000000) kc_196_25 rfl rfl ?_
              refine xi_arraylength (pc' := 27) (n := 6) (v := 6) kc_196_26 rfl (xl_lenO (by decide) hov0 rfl) rfl ?_
              refine xi_bipush (pc' := 29) (v := 6) kc_196_27 rfl rfl ?_
              refine xi_isub (pc' := 30) (v := 0) kc_196_29 rfl rfl ?_
              refine xi_cmt (pc' := 1534) kc_196_30 rfl rfl ?_
              refine xi_iconst (pc' := 1535) (v := 1) kc_196_1534 rfl rfl ?_
              refine xi_ireturn kc_196_1535 mr_196 rfl ?_
              refine ⟨rfl, ?_, ?_⟩
              · rw [eh5.2.2.1, eh4.2.2.1, eh3.2.2.1, eh2.2.2.1, eh1.2.2.1]; exact hn0
              · rw [eh5.2.2.2, eh4.2.2.2, eh3.2.2.2, eh2.2.2.2, eh1.2.2.2]; exact hz0
            · refine xi_cmf (pc' := 41) kc_95_38 rfl (xc_le_f (X := a3.toInt) (Y := 999) rfl (by decide) (by omega)) ?_
              refine xi_aload_n (pc' := 42) (x := 0) kc_95_41 rfl rfl ?_
              refine xi_bipush (pc' := 44) (v := (-6)) kc_95_42 rfl rfl ?_
              refine xi_virtual (mj := 91) (as := [.int (-6)]) (st1 := []) (lv0 := [(0, .ref 0), (1, .int (-6))]) kc_95_44 rfl rfl rfl rfl rfl (F 0 _ hl_0) (Nat.le_of_ble_eq_true rfl) (hJ _ _ _ _ (by decide)) (xm_le ml_91 rfl) rfl ?_
              refine xi_iload_n (pc' := 1) (x := (-6)) kc_91_0 rfl rfl ?_
              refine xi_ineg (pc' := 2) (v := 6) kc_91_1 rfl rfl ?_
              refine xi_istore_n (pc' := 3) (lv' := [(2, .int 6), (0, .ref 0), (1, .int (-6))]) kc_91_2 rfl rfl (xm_lt ml_91 rfl) ?_
              refine xi_iload_n (pc' := 4) (x := 6) kc_91_3 rfl rfl ?_
              refine xi_iff (pc' := 7) kc_91_4 rfl rfl ?_
              refine xi_iload_n (pc' := 8) (x := 6) kc_91_7 rfl rfl ?_
              refine xi_aload_n (pc' := 9) (x := 0) kc_91_8 rfl rfl ?_
              refine xi_getfield (pc' := 12) (v := .ref 94) kc_91_9 rfl rfl rfl (F 0 _ hl_0) rfl ?_
              refine xi_arraylength (pc' := 13) (n := 7) (v := 7) kc_91_12 rfl (xl_lenI (by decide) (by decide) (F 94 _ hl_94) (by simp only [List.length_replicate, List.length_cons, List.length_nil])) rfl ?_
              refine xi_cmf (pc' := 16) kc_91_13 rfl rfl ?_
              refine xi_aload_n (pc' := 17) (x := 0) kc_91_16 rfl rfl ?_
              refine xi_getfield (pc' := 20) (v := .ref 94) kc_91_17 rfl rfl rfl (F 0 _ hl_0) rfl ?_
              refine xi_iload_n (pc' := 21) (x := 6) kc_91_20 rfl rfl ?_
              refine xi_dup2 (pc' := 22) kc_91_21 rfl ⟨rfl, rfl⟩ ?_
              refine xi_iaload (pc' := 23) (v := 0) kc_91_22 rfl (F 94 _ hl_94) (by decide) rfl (xi_in (n := 7) (by decide) (by decide)) rfl ?_
              refine xi_iconst (pc' := 24) (v := 1) kc_91_23 rfl rfl ?_
              refine xi_iadd (pc' := 25) (v := 1) kc_91_24 rfl rfl ?_
              refine xi_iastore (pc' := 26) (x' := [0, 0, 0, 0, 0, 0, 1]) kc_91_25 rfl (F 94 _ hl_94) rfl (xi_in (n := 7) (by decide) (by decide)) rfl (fun hh1 eh1 => ?_)
              refine xi_iload_n (pc' := 27) (x := (-6)) kc_91_26 rfl rfl ?_
              refine xi_ireturn kc_91_27 mr_91 rfl ?_
              show xw J ov 99 95 (47, [(0, .ref 0), (1, .int a1), (2, .int a2), (3, .int a3)], [.int (-6)], hh1) _
              refine xi_ireturn kc_95_47 mr_95 rfl ?_
              show xw J ov 100 196 (263, [(4, .int 0), (3, .ref 167), (2, .ref 115), (1, .ref 0), (0, .ref 1000000)], [.int (-6)], hh1) _
              refine xi_aload_n (pc' := 264) (x := 115) kc_196_263 rfl rfl ?_
              refine xi_aload_n (pc' := 265) (x := 1000000) kc_196_264 rfl rfl ?_
              refine xi_iload (pc' := 267) (x := 0) kc_196_265 rfl rfl ?_
              refine xi_iconst (pc' := 268) (v := 1) kc_196_267 rfl rfl ?_
              refine xi_iadd (pc' := 269) (v := 1) kc_196_268 rfl rfl ?_
              refine xi_ialoadO (pc' := 270) (v := a1) kc_196_269 rfl (by decide) hov0 (xi_in (n := 6) (by decide) (by decide)) rfl ?_
              refine xi_aload_n (pc' := 271) (x := 1000000) kc_196_270 rfl rfl ?_
              refine xi_iload (pc' := 273) (x := 0) kc_196_271 rfl rfl ?_
              refine xi_iconst (pc' := 274) (v := 2) kc_196_273 rfl rfl ?_
              refine xi_iadd (pc' := 275) (v := 2) kc_196_274 rfl rfl ?_
              refine xi_ialoadO (pc' := 276) (v := a2) kc_196_275 rfl (by decide) hov0 (xi_in (n := 6) (by decide) (by decide)) rfl ?_
              refine xi_aload_n (pc' := 277) (x := 1000000) kc_196_276 rfl rfl ?_
              refine xi_iload (pc' := 279) (x := 0) kc_196_277 rfl rfl ?_
              refine xi_iconst (pc' := 280) (v := 3) kc_196_279 rfl rfl ?_
              refine xi_iadd (pc' := 281) (v := 3) kc_196_280 rfl rfl ?_
              refine xi_ialoadO (pc' := 282) (v := a3) kc_196_281 rfl (by decide) hov0 (xi_in (n := 6) (by decide) (by decide)) rfl ?_
              refine xi_virtual (mj := 16) (as := [.int a1, .int a2, .int a3]) (st1 := [.int (-6)]) (lv0 := [(0, .ref 115), (1, .int a1), (2, .int a2), (3, .int a3)]) kc_196_282 rfl rfl rfl rfl rfl ((eh1.2.1 115 (by decide)).trans (F 115 _ hl_115)) (Nat.le_of_ble_eq_true rfl) (hJ _ _ _ _ (by decide)) (xm_le ml_16 rfl) rfl ?_
              refine xi_aload_n (pc' := 1) (x := 115) kc_16_0 rfl rfl ?_
              refine xi_iconst (pc' := 2) (v := 0) kc_16_1 rfl rfl ?_
              refine xi_putfield (pc' := 5) (fs' := [.int 0, .int 0, .ref 116, .ref 117, .ref 118, .ref 119, .ref 120, .ref 121, .ref 122, .ref 123, .ref 124, .ref 125, .ref 126, .ref 127, .ref 128, .ref 129, .int 4, .ref 130, .int 0, .ref 131, .ref 132, .ref 133, .ref 134, .int 0, .ref 135, .ref 136, .ref 137, .ref 138, .ref 139, .ref 140, .ref 141, .ref 142, .int 0, .int 0, .int 0, .ref 143, .ref 144, .ref 145, .ref 146, .ref 147, .ref 148, .int 0, .ref 149, .ref 150, .ref 151, .int 0, .ref 152, .ref 153, .ref 154, .ref 155, .ref 156, .ref 157, .ref 158, .ref 159, .int 0, .ref 160, .int 0, .ref 161, .ref 162, .ref 163, .ref 164, .int 0, .ref 165, .ref 166]) kc_16_2 rfl rfl rfl ((eh1.2.1 115 (by decide)).trans (F 115 _ hl_115)) rfl rfl rfl (Nat.le_of_ble_eq_true rfl) rfl (fun hh2 eh2 => ?_)
              refine xi_iload_n (pc' := 6) (x := a1) kc_16_5 rfl rfl ?_
              refine xi_static (mj := 11) (as := [.int a1]) (st1 := []) (lv0 := [(0, .int a1)]) kc_16_6 rfl rfl (Nat.le_of_ble_eq_true rfl) rfl rfl (Nat.le_of_ble_eq_true rfl) (hJ _ _ _ _ (by decide)) (xm_le ml_11 rfl) rfl ?_
              refine xi_iload_n (pc' := 1) (x := a1) kc_11_0 rfl rfl ?_
              refine xi_iconst (pc' := 2) (v := 0) kc_11_1 rfl rfl ?_
              refine xi_iconst (pc' := 3) (v := 5) kc_11_2 rfl rfl ?_
              refine xi_static (mj := 12) (as := [.int a1, .int 0, .int 5]) (st1 := []) (lv0 := [(0, .int a1), (1, .int 0), (2, .int 5)]) kc_11_3 rfl rfl (Nat.le_of_ble_eq_true rfl) rfl rfl (Nat.le_of_ble_eq_true rfl) (hJ _ _ _ _ (by decide)) (xm_le ml_12 rfl) rfl ?_
              refine xi_iload_n (pc' := 1) (x := a1) kc_12_0 rfl rfl ?_
              refine xi_iload_n (pc' := 2) (x := 0) kc_12_1 rfl rfl ?_
              refine xi_cmf (pc' := 5) kc_12_2 rfl (xc_lt_f (X := a1.toInt) (Y := 0) rfl (by decide) (by omega)) ?_
              refine xi_iload_n (pc' := 6) (x := a1) kc_12_5 rfl rfl ?_
              refine xi_iload_n (pc' := 7) (x := 5) kc_12_6 rfl rfl ?_
              refine xi_cmf (pc' := 10) kc_12_7 rfl (xc_gt_f (X := a1.toInt) (Y := 5) rfl (by decide) (by omega)) ?_
              refine xi_iconst (pc' := 11) (v := 1) kc_12_10 rfl rfl ?_
              refine xi_goto (pc' := 15) kc_12_11 rfl ?_
              refine xi_ireturn kc_12_15 mr_12 rfl ?_
              show xw J ov 98 11 (6, [(0, .int a1)], [.int 1], hh2) _
              refine xi_ireturn kc_11_6 mr_11 rfl ?_
              show xw J ov 99 16 (9, [(0, .ref 115), (1, .int a1), (2, .int a2), (3, .int a3)], [.int 1], hh2) _
              refine xi_iff (pc' := 12) kc_16_9 rfl rfl ?_
              refine xi_iload_n (pc' := 13) (x := a2) kc_16_12 rfl rfl ?_
              refine xi_iconst (pc' := 14) (v := 0) kc_16_13 rfl rfl ?_
              refine xi_bipush (pc' := 16) (v := 23) kc_16_14 rfl rfl ?_
              refine xi_static (mj := 12) (as := [.int a2, .int 0, .int 23]) (st1 := []) (lv0 := [(0, .int a2), (1, .int 0), (2, .int 23)]) kc_16_16 rfl rfl (Nat.le_of_ble_eq_true rfl) rfl rfl (Nat.le_of_ble_eq_true rfl) (hJ _ _ _ _ (by decide)) (xm_le ml_12 rfl) rfl ?_
              refine xi_iload_n (pc' := 1) (x := a2) kc_12_0 rfl rfl ?_
              refine xi_iload_n (pc' := 2) (x := 0) kc_12_1 rfl rfl ?_
              refine xi_cmf (pc' := 5) kc_12_2 rfl (xc_lt_f (X := a2.toInt) (Y := 0) rfl (by decide) (by omega)) ?_
              refine xi_iload_n (pc' := 6) (x := a2) kc_12_5 rfl rfl ?_
              refine xi_iload_n (pc' := 7) (x := 23) kc_12_6 rfl rfl ?_
              refine xi_cmf (pc' := 10) kc_12_7 rfl (xc_gt_f (X := a2.toInt) (Y := 23) rfl (by decide) (by omega)) ?_
              refine xi_iconst (pc' := 11) (v := 1) kc_12_10 rfl rfl ?_
              refine xi_goto (pc' := 15) kc_12_11 rfl ?_
              refine xi_ireturn kc_12_15 mr_12 rfl ?_
              show xw J ov 99 16 (19, [(0, .ref 115), (1, .int a1), (2, .int a2), (3, .int a3)], [.int 1], hh2) _
              refine xi_ift (pc' := 28) kc_16_19 rfl rfl ?_
              refine xi_iload_n (pc' := 29) (x := a3) kc_16_28 rfl rfl ?_
              refine xi_ift (pc' := 39) kc_16_29 rfl (xc_ge_t (X := a3.toInt) (Y := 0) rfl (by decide) (by omega)) ?_
              refine xi_iload_n (pc' := 40) (x := a3) kc_16_39 rfl rfl ?_
              refine xi_sipush (pc' := 43) (v := 999) kc_16_40 rfl rfl ?_
              refine xi_cmf (pc' := 46) kc_16_43 rfl (xc_le_f (X := a3.toInt) (Y := 999) rfl (by decide) (by omega)) ?_
              refine xi_aload_n (pc' := 47) (x := 115) kc_16_46 rfl rfl ?_
              refine xi_bipush (pc' := 49) (v := (-6)) kc_16_47 rfl rfl ?_
              refine xi_virtual (mj := 13) (as := [.int (-6)]) (st1 := []) (lv0 := [(0, .ref 115), (1, .int (-6))]) kc_16_49 rfl rfl rfl rfl rfl eh2.1 (Nat.le_of_ble_eq_true rfl) (hJ _ _ _ _ (by decide)) (xm_le ml_13 rfl) rfl ?_
              refine xi_aload_n (pc' := 1) (x := 115) kc_13_0 rfl rfl ?_
              refine xi_getfield (pc' := 4) (v := .ref 140) kc_13_1 rfl rfl rfl eh2.1 rfl ?_
              refine xi_iload_n (pc' := 5) (x := (-6)) kc_13_4 rfl rfl ?_
              refine xi_ineg (pc' := 6) (v := 6) kc_13_5 rfl rfl ?_
              refine xi_dup2 (pc' := 7) kc_13_6 rfl ⟨rfl, rfl⟩ ?_
              refine xi_iaload (pc' := 8) (v := 0) kc_13_7 rfl ((eh2.2.1 140 (by decide)).trans ((eh1.2.1 140 (by decide)).trans (F 140 _ hl_140))) (by decide) rfl (xi_in (n := 7) (by decide) (by decide)) rfl ?_
              refine xi_iconst (pc' := 9) (v := 1) kc_13_8 rfl rfl ?_
              refine xi_iadd (pc' := 10) (v := 1) kc_13_9 rfl rfl ?_
              refine xi_iastore (pc' := 11) (x' := [0, 0, 0, 0, 0, 0, 1]) kc_13_10 rfl ((eh2.2.1 140 (by decide)).trans ((eh1.2.1 140 (by decide)).trans (F 140 _ hl_140))) rfl (xi_in (n := 7) (by decide) (by decide)) rfl (fun hh3 eh3 => ?_)
              refine xi_iload_n (pc' := 12) (x := (-6)) kc_13_11 rfl rfl ?_
              refine xi_ireturn kc_13_12 mr_13 rfl ?_
              show xw J ov 99 16 (52, [(0, .ref 115), (1, .int a1), (2, .int a2), (3, .int a3)], [.int (-6)], hh3) _
              refine xi_ireturn kc_16_52 mr_16 rfl ?_
              show xw J ov 100 196 (285, [(4, .int 0), (3, .ref 167), (2, .ref 115), (1, .ref 0), (0, .ref 1000000)], [.int (-6), .int (-6)], hh3) _
              refine xi_cmt (pc' := 1528) kc_196_285 rfl rfl ?_
              refine xi_iinc (pc' := 1531) (x := 0) (v := 6) (lv' := [(4, .int 6), (3, .ref 167), (2, .ref 115), (1, .ref 0), (0, .ref 1000000)]) kc_196_1528 rfl rfl rfl rfl (xm_lt ml_196 rfl) ?_
              refine xi_goto (pc' := 23) kc_196_1531 rfl ?_
              refine xi_iload (pc' := 25) (x := 6) kc_196_23 rfl rfl ?_
              refine xi_aload_n (pc' := 26) (x := 1000000) kc_196_25 rfl rfl ?_
              refine xi_arraylength (pc' := 27) (n := 6) (v := 6) kc_196_26 rfl (xl_lenO (by decide) hov0 rfl) rfl ?_
              refine xi_bipush (pc' := 29) (v := 6) kc_196_27 rfl rfl ?_
              refine xi_isub (pc' := 30) (v := 0) kc_196_29 rfl rfl ?_
              refine xi_cmt (pc' := 1534) kc_196_30 rfl rfl ?_
              refine xi_iconst (pc' := 1535) (v := 1) kc_196_1534 rfl rfl ?_
              refine xi_ireturn kc_196_1535 mr_196 rfl ?_
              refine ⟨rfl, ?_, ?_⟩
              · rw [eh3.2.2.1, eh2.2.2.1, eh1.2.2.1]; exact hn0
              · rw [eh3.2.2.2, eh2.2.2.2, eh1.2.2.2]; exact hz0
          · refine xi_iff (pc' := 27) kc_95_24 rfl (xc_ge_f (X := a3.toInt) (Y := 0) rfl (by decide) (by omega)) ?_
            refine xi_aload_n (pc' := 28) (x := 0) kc_95_27 rfl rfl ?_
            refine xi_bipush (pc' := 30) (v := (-4)) kc_95_28 rfl rfl ?_
            refine xi_virtual (mj := 91) (as := [.int (-4)]) (st1 := []) (lv0 := [(0, .ref 0), (1, .int (-4))]) kc_95_30 rfl rfl rfl rfl rfl (F 0 _ hl_0) (Nat.le_of_ble_eq_true rfl) (hJ _ _ _ _ (by decide)) (xm_le ml_91 rfl) rfl ?_
            refine xi_iload_n (pc' := 1) (x := (-4)) kc_91_0 rfl rfl ?_
            refine xi_ineg (pc' := 2) (v := 4) kc_91_1 rfl rfl ?_
            refine xi_istore_n (pc' := 3) (lv' := [(2, .int 4), (0, .ref 0), (1, .int (-4))]) kc_91_2 rfl rfl (xm_lt ml_91 rfl) ?_
            refine xi_iload_n (pc' := 4) (x := 4) kc_91_3 rfl rfl ?_
            refine xi_iff (pc' := 7) kc_91_4 rfl rfl ?_
            refine xi_iload_n (pc' := 8) (x := 4) kc_91_7 rfl rfl ?_
            refine xi_aload_n (pc' := 9) (x := 0) kc_91_8 rfl rfl ?_
            refine xi_getfield (pc' := 12) (v := .ref 94) kc_91_9 rfl rfl rfl (F 0 _ hl_0) rfl ?_
            refine xi_arraylength (pc' := 13) (n := 7) (v := 7) kc_91_12 rfl (xl_lenI (by decide) (by decide) (F 94 _ hl_94) (by simp only [List.length_replicate, List.length_cons, List.length_nil])) rfl ?_
            refine xi_cmf (pc' := 16) kc_91_13 rfl rfl ?_
            refine xi_aload_n (pc' := 17) (x := 0) kc_91_16 rfl rfl ?_
            refine xi_getfield (pc' := 20) (v := .ref 94) kc_91_17 rfl rfl rfl (F 0 _ hl_0) rfl ?_
            refine xi_iload_n (pc' := 21) (x := 4) kc_91_20 rfl rfl ?_
            refine xi_dup2 (pc' := 22) kc_91_21 rfl ⟨rfl, rfl⟩ ?_
            refine xi_iaload (pc' := 23) (v := 0) kc_91_22 rfl (F 94 _ hl_94) (by decide) rfl (xi_in (n := 7) (by decide) (by decide)) rfl ?_
            refine xi_iconst (pc' := 24) (v := 1) kc_91_23 rfl rfl ?_
            refine xi_iadd (pc' := 25) (v := 1) kc_91_24 rfl rfl ?_
            refine xi_iastore (pc' := 26) (x' := [0, 0, 0, 0, 1, 0, 0]) kc_91_25 rfl (F 94 _ hl_94) rfl (xi_in (n := 7) (by decide) (by decide)) rfl (fun hh1 eh1 => ?_)
            refine xi_iload_n (pc' := 27) (x := (-4)) kc_91_26 rfl rfl ?_
            refine xi_ireturn kc_91_27 mr_91 rfl ?_
            show xw J ov 99 95 (33, [(0, .ref 0), (1, .int a1), (2, .int a2), (3, .int a3)], [.int (-4)], hh1) _
            refine xi_ireturn kc_95_33 mr_95 rfl ?_
            show xw J ov 100 196 (263, [(4, .int 0), (3, .ref 167), (2, .ref 115), (1, .ref 0), (0, .ref 1000000)], [.int (-4)], hh1) _
            refine xi_aload_n (pc' := 264) (x := 115) kc_196_263 rfl rfl ?_
            refine xi_aload_n (pc' := 265) (x := 1000000) kc_196_264 rfl rfl ?_
            refine xi_iload (pc' := 267) (x := 0) kc_196_265 rfl rfl ?_
            refine xi_iconst (pc' := 268) (v := 1) kc_196_267 rfl rfl ?_
            refine xi_iadd (pc' := 269) (v := 1) kc_196_268 rfl rfl ?_
            refine xi_ialoadO (pc' := 270) (v := a1) kc_196_269 rfl (by decide) hov0 (xi_in (n := 6) (by decide) (by decide)) rfl ?_
            refine xi_aload_n (pc' := 271) (x := 1000000) kc_196_270 rfl rfl ?_
            refine xi_iload (pc' := 273) (x := 0) kc_196_271 rfl rfl ?_
            refine xi_iconst (pc' := 274) (v := 2) kc_196_273 rfl rfl ?_
            refine xi_iadd (pc' := 275) (v := 2) kc_196_274 rfl rfl ?_
            refine xi_ialoadO (pc' := 276) (v := a2) kc_196_275 rfl (by decide) hov0 (xi_in (n := 6) (by decide) (by decide)) rfl ?_
            refine xi_aload_n (pc' := 277) (x := 1000000) kc_196_276 rfl rfl ?_
            refine xi_iload (pc' := 279) (x := 0) kc_196_277 rfl rfl ?_
            refine xi_iconst (pc' := 280) (v := 3) kc_196_279 rfl rfl ?_
            refine xi_iadd (pc' := 281) (v := 3) kc_196_280 rfl rfl ?_
            refine xi_ialoadO (pc' := 282) (v := a3) kc_196_281 rfl (by decide) hov0 (xi_in (n := 6) (by decide) (by decide)) rfl ?_
            refine xi_virtual (mj := 16) (as := [.int a1, .int a2, .int a3]) (st1 := [.int (-4)]) (lv0 := [(0, .ref 115), (1, .int a1), (2, .int a2), (3, .int a3)]) kc_196_282 rfl rfl rfl rfl rfl ((eh1.2.1 115 (by decide)).trans (F 115 _ hl_115)) (Nat.le_of_ble_eq_true rfl) (hJ _ _ _ _ (by decide)) (xm_le ml_16 rfl) rfl ?_
            refine xi_aload_n (pc' := 1) (x := 115) kc_16_0 rfl rfl ?_
            refine xi_iconst (pc' := 2) (v := 0) kc_16_1 rfl rfl ?_
            refine xi_putfield (pc' := 5) (fs' := [.int 0, .int 0, .ref 116, .ref 117, .ref 118, .ref 119, .ref 120, .ref 121, .ref 122, .ref 123, .ref 124, .ref 125, .ref 126, .ref 127, .ref 128, .ref 129, .int 4, .ref 130, .int 0, .ref 131, .ref 132, .ref 133, .ref 134, .int 0, .ref 135, .ref 136, .ref 137, .ref 138, .ref 139, .ref 140, .ref 141, .ref 142, .int 0, .int 0, .int 0, .ref 143, .ref 144, .ref 145, .ref 146, .ref 147, .ref 148, .int 0, .ref 149, .ref 150, .ref 151, .int 0, .ref 152, .ref 153, .ref 154, .ref 155, .ref 156, .ref 157, .ref 158, .ref 159, .int 0, .ref 160, .int 0, .ref 161, .ref 162, .ref 163, .ref 164, .int 0, .ref 165, .ref 166]) kc_16_2 rfl rfl rfl ((eh1.2.1 115 (by decide)).trans (F 115 _ hl_115)) rfl rfl rfl (Nat.le_of_ble_eq_true rfl) rfl (fun hh2 eh2 => ?_)
            refine xi_iload_n (pc' := 6) (x := a1) kc_16_5 rfl rfl ?_
            refine xi_static (mj := 11) (as := [.int a1]) (st1 := []) (lv0 := [(0, .int a1)]) kc_16_6 rfl rfl (Nat.le_of_ble_eq_true rfl) rfl rfl (Nat.le_of_ble_eq_true rfl) (hJ _ _ _ _ (by decide)) (xm_le ml_11 rfl) rfl ?_
            refine xi_iload_n (pc' := 1) (x := a1) kc_11_0 rfl rfl ?_
            refine xi_iconst (pc' := 2) (v := 0) kc_11_1 rfl rfl ?_
            refine xi_iconst (pc' := 3) (v := 5) kc_11_2 rfl rfl ?_
            refine xi_static (mj := 12) (as := [.int a1, .int 0, .int 5]) (st1 := []) (lv0 := [(0, .int a1), (1, .int 0), (2, .int 5)]) kc_11_3 rfl rfl (Nat.le_of_ble_eq_true rfl) rfl rfl (Nat.le_of_ble_eq_true rfl) (hJ _ _ _ _ (by decide)) (xm_le ml_12 rfl) rfl ?_
            refine xi_iload_n (pc' := 1) (x := a1) kc_12_0 rfl rfl ?_
            refine xi_iload_n (pc' := 2) (x := 0) kc_12_1 rfl rfl ?_
            refine xi_cmf (pc' := 5) kc_12_2 rfl (xc_lt_f (X := a1.toInt) (Y := 0) rfl (by decide) (by omega)) ?_
            refine xi_iload_n (pc' := 6) (x := a1) kc_12_5 rfl rfl ?_
            refine xi_iload_n (pc' := 7) (x := 5) kc_12_6 rfl rfl ?_
            refine xi_cmf (pc' := 10) kc_12_7 rfl (xc_gt_f (X := a1.toInt) (Y := 5) rfl (by decide) (by omega)) ?_
            refine xi_iconst (pc' := 11) (v := 1) kc_12_10 rfl rfl ?_
            refine xi_goto (pc' := 15) kc_12_11 rfl ?_
            refine xi_ireturn kc_12_15 mr_12 rfl ?_
            show xw J ov 98 11 (6, [(0, .int a1)], [.int 1], hh2) _
            refine xi_ireturn kc_11_6 mr_11 rfl ?_
            show xw J ov 99 16 (9, [(0, .ref 115), (1, .int a1), (2, .int a2), (3, .int a3)], [.int 1], hh2) _
            refine xi_iff (pc' := 12) kc_16_9 rfl rfl ?_
            refine xi_iload_n (pc' := 13) (x := a2) kc_16_12 rfl rfl ?_
            refine xi_iconst (pc' := 14) (v := 0) kc_16_13 rfl rfl ?_
            refine xi_bipush (pc' := 16) (v := 23) kc_16_14 rfl rfl ?_
            refine xi_static (mj := 12) (as := [.int a2, .int 0, .int 23]) (st1 := []) (lv0 := [(0, .int a2), (1, .int 0), (2, .int 23)]) kc_16_16 rfl rfl (Nat.le_of_ble_eq_true rfl) rfl rfl (Nat.le_of_ble_eq_true rfl) (hJ _ _ _ _ (by decide)) (xm_le ml_12 rfl) rfl ?_
            refine xi_iload_n (pc' := 1) (x := a2) kc_12_0 rfl rfl ?_
            refine xi_iload_n (pc' := 2) (x := 0) kc_12_1 rfl rfl ?_
            refine xi_cmf (pc' := 5) kc_12_2 rfl (xc_lt_f (X := a2.toInt) (Y := 0) rfl (by decide) (by omega)) ?_
            refine xi_iload_n (pc' := 6) (x := a2) kc_12_5 rfl rfl ?_
            refine xi_iload_n (pc' := 7) (x := 23) kc_12_6 rfl rfl ?_
            refine xi_cmf (pc' := 10) kc_12_7 rfl (xc_gt_f (X := a2.toInt) (Y := 23) rfl (by decide) (by omega)) ?_
            refine xi_iconst (pc' := 11) (v := 1) kc_12_10 rfl rfl ?_
            refine xi_goto (pc' := 15) kc_12_11 rfl ?_
            refine xi_ireturn kc_12_15 mr_12 rfl ?_
            show xw J ov 99 16 (19, [(0, .ref 115), (1, .int a1), (2, .int a2), (3, .int a3)], [.int 1], hh2) _
            refine xi_ift (pc' := 28) kc_16_19 rfl rfl ?_
            refine xi_iload_n (pc' := 29) (x := a3) kc_16_28 rfl rfl ?_
            refine xi_iff (pc' := 32) kc_16_29 rfl (xc_ge_f (X := a3.toInt) (Y := 0) rfl (by decide) (by omega)) ?_
            refine xi_aload_n (pc' := 33) (x := 115) kc_16_32 rfl rfl ?_
            refine xi_bipush (pc' := 35) (v := (-4)) kc_16_33 rfl rfl ?_
            refine xi_virtual (mj := 13) (as := [.int (-4)]) (st1 := []) (lv0 := [(0, .ref 115), (1, .int (-4))]) kc_16_35 rfl rfl rfl rfl rfl eh2.1 (Nat.le_of_ble_eq_true rfl) (hJ _ _ _ _ (by decide)) (xm_le ml_13 rfl) rfl ?_
            refine xi_aload_n (pc' := 1) (x := 115) kc_13_0 rfl rfl ?_
            refine xi_getfield (pc' := 4) (v := .ref 140) kc_13_1 rfl rfl rfl eh2.1 rfl ?_
            refine xi_iload_n (pc' := 5) (x := (-4)) kc_13_4 rfl rfl ?_
            refine xi_ineg (pc' := 6) (v := 4) kc_13_5 rfl rfl ?_
            refine xi_dup2 (pc' := 7) kc_13_6 rfl ⟨rfl, rfl⟩ ?_
            refine xi_iaload (pc' := 8) (v := 0) kc_13_7 rfl ((eh2.2.1 140 (by decide)).trans ((eh1.2.1 140 (by decide)).trans (F 140 _ hl_140))) (by decide) rfl (xi_in (n := 7) (by decide) (by decide)) rfl ?_
            refine xi_iconst (pc' := 9) (v := 1) kc_13_8 rfl rfl ?_
            refine xi_iadd (pc' := 10) (v := 1) kc_13_9 rfl rfl ?_
            refine xi_iastore (pc' := 11) (x' := [0, 0, 0, 0, 1, 0, 0]) kc_13_10 rfl ((eh2.2.1 140 (by decide)).trans ((eh1.2.1 140 (by decide)).trans (F 140 _ hl_140))) rfl (xi_in (n := 7) (by decide) (by decide)) rfl (fun hh3 eh3 => ?_)
            refine xi_iload_n (pc' := 12) (x := (-4)) kc_13_11 rfl rfl ?_
            refine xi_ireturn kc_13_12 mr_13 rfl ?_
            show xw J ov 99 16 (38, [(0, .ref 115), (1, .int a1), (2, .int a2), (3, .int a3)], [.int (-4)], hh3) _
            refine xi_ireturn kc_16_38 mr_16 rfl ?_
            show xw J ov 100 196 (285, [(4, .int 0), (3, .ref 167), (2, .ref 115), (1, .ref 0), (0, .ref 1000000)], [.int (-4), .int (-4)], hh3) _
            refine xi_cmt (pc' := 1528) kc_196_285 rfl rfl ?_
            refine xi_iinc (pc' := 1531) (x := 0) (v := 6) (lv' := [(4, .int 6), (3, .ref 167), (2, .ref 115), (1, .ref 0), (0, .ref 1000000)]) kc_196_1528 rfl rfl rfl rfl (xm_lt ml_196 rfl) ?_
            refine xi_goto (pc' := 23) kc_196_1531 rfl ?_
            refine xi_iload (pc' := 25) (x := 6) kc_196_23 rfl rfl ?_
            refine xi_aload_n (pc' := 26) (x := 1000000) kc_196_25 rfl rfl ?_
            refine xi_arraylength (pc' := 27) (n := 6) (v := 6) kc_196_26 rfl (xl_lenO (by decide) hov0 rfl) rfl ?_
            refine xi_bipush (pc' := 29) (v := 6) kc_196_27 rfl rfl ?_
            refine xi_isub (pc' := 30) (v := 0) kc_196_29 rfl rfl ?_
            refine xi_cmt (pc' := 1534) kc_196_30 rfl rfl ?_
            refine xi_iconst (pc' := 1535) (v := 1) kc_196_1534 rfl rfl ?_
            refine xi_ireturn kc_196_1535 mr_196 rfl ?_
            refine ⟨rfl, ?_, ?_⟩
            · rw [eh3.2.2.1, eh2.2.2.1, eh1.2.2.1]; exact hn0
            · rw [eh3.2.2.2, eh2.2.2.2, eh1.2.2.2]; exact hz0
        · refine xi_cmf (pc' := 17) kc_95_14 rfl (xc_lt_f (X := a2.toInt) (Y := 24) rfl (by decide) (by omega)) ?_
          refine xi_aload_n (pc' := 18) (x := 0) kc_95_17 rfl rfl ?_
          refine xi_iconst (pc' := 19) (v := (-1)) kc_95_18 rfl rfl ?_
          refine xi_virtual (mj := 91) (as := [.int (-1)]) (st1 := []) (lv0 := [(0, .ref 0), (1, .int (-1))]) kc_95_19 rfl rfl rfl rfl rfl (F 0 _ hl_0) (Nat.le_of_ble_eq_true rfl) (hJ _ _ _ _ (by decide)) (xm_le ml_91 rfl) rfl ?_
          refine xi_iload_n (pc' := 1) (x := (-1)) kc_91_0 rfl rfl ?_
          refine xi_ineg (pc' := 2) (v := 1) kc_91_1 rfl rfl ?_
          refine xi_istore_n (pc' := 3) (lv' := [(2, .int 1), (0, .ref 0), (1, .int (-1))]) kc_91_2 rfl rfl (xm_lt ml_91 rfl) ?_
          refine xi_iload_n (pc' := 4) (x := 1) kc_91_3 rfl rfl ?_
          refine xi_iff (pc' := 7) kc_91_4 rfl rfl ?_
          refine xi_iload_n (pc' := 8) (x := 1) kc_91_7 rfl rfl ?_
          refine xi_aload_n (pc' := 9) (x := 0) kc_91_8 rfl rfl ?_
          refine xi_getfield (pc' := 12) (v := .ref 94) kc_91_9 rfl rfl rfl (F 0 _ hl_0) rfl ?_
          refine xi_arraylength (pc' := 13) (n := 7) (v := 7) kc_91_12 rfl (xl_lenI (by decide) (by decide) (F 94 _ hl_94) (by simp only [List.length_replicate, List.length_cons, List.length_nil])) rfl ?_
          refine xi_cmf (pc' := 16) kc_91_13 rfl rfl ?_
          refine xi_aload_n (pc' := 17) (x := 0) kc_91_16 rfl rfl ?_
          refine xi_getfield (pc' := 20) (v := .ref 94) kc_91_17 rfl rfl rfl (F 0 _ hl_0) rfl ?_
          refine xi_iload_n (pc' := 21) (x := 1) kc_91_20 rfl rfl ?_
          refine xi_dup2 (pc' := 22) kc_91_21 rfl ⟨rfl, rfl⟩ ?_
          refine xi_iaload (pc' := 23) (v := 0) kc_91_22 rfl (F 94 _ hl_94) (by decide) rfl (xi_in (n := 7) (by decide) (by decide)) rfl ?_
          refine xi_iconst (pc' := 24) (v := 1) kc_91_23 rfl rfl ?_
          refine xi_iadd (pc' := 25) (v := 1) kc_91_24 rfl rfl ?_
          refine xi_iastore (pc' := 26) (x' := [0, 1, 0, 0, 0, 0, 0]) kc_91_25 rfl (F 94 _ hl_94) rfl (xi_in (n := 7) (by decide) (by decide)) rfl (fun hh1 eh1 => ?_)
          refine xi_iload_n (pc' := 27) (x := (-1)) kc_91_26 rfl rfl ?_
          refine xi_ireturn kc_91_27 mr_91 rfl ?_
          show xw J ov 99 95 (22, [(0, .ref 0), (1, .int a1), (2, .int a2), (3, .int a3)], [.int (-1)], hh1) _
          refine xi_ireturn kc_95_22 mr_95 rfl ?_
          show xw J ov 100 196 (263, [(4, .int 0), (3, .ref 167), (2, .ref 115), (1, .ref 0), (0, .ref 1000000)], [.int (-1)], hh1) _
          refine xi_aload_n (pc' := 264) (x := 115) kc_196_263 rfl rfl ?_
          refine xi_aload_n (pc' := 265) (x := 1000000) kc_196_264 rfl rfl ?_
          refine xi_iload (pc' := 267) (x := 0) kc_196_265 rfl rfl ?_
          refine xi_iconst (pc' := 268) (v := 1) kc_196_267 rfl rfl ?_
          refine xi_iadd (pc' := 269) (v := 1) kc_196_268 rfl rfl ?_
          refine xi_ialoadO (pc' := 270) (v := a1) kc_196_269 rfl (by decide) hov0 (xi_in (n := 6) (by decide) (by decide)) rfl ?_
          refine xi_aload_n (pc' := 271) (x := 1000000) kc_196_270 rfl rfl ?_
          refine xi_iload (pc' := 273) (x := 0) kc_196_271 rfl rfl ?_
          refine xi_iconst (pc' := 274) (v := 2) kc_196_273 rfl rfl ?_
          refine xi_iadd (pc' := 275) (v := 2) kc_196_274 rfl rfl ?_
          refine xi_ialoadO (pc' := 276) (v := a2) kc_196_275 rfl (by decide) hov0 (xi_in (n := 6) (by decide) (by decide)) rfl ?_
          refine xi_aload_n (pc' := 277) (x := 1000000) kc_196_276 rfl rfl ?_
          refine xi_iload (pc' := 279) (x := 0) kc_196_277 rfl rfl ?_
          refine xi_iconst (pc' := 280) (v := 3) kc_196_279 rfl rfl ?_
          refine xi_iadd (pc' := 281) (v := 3) kc_196_280 rfl rfl ?_
          refine xi_ialoadO (pc' := 282) (v := a3) kc_196_281 rfl (by decide) hov0 (xi_in (n := 6) (by decide) (by decide)) rfl ?_
          refine xi_virtual (mj := 16) (as := [.int a1, .int a2, .int a3]) (st1 := [.int (-1)]) (lv0 := [(0, .ref 115), (1, .int a1), (2, .int a2), (3, .int a3)]) kc_196_282 rfl rfl rfl rfl rfl ((eh1.2.1 115 (by decide)).trans (F 115 _ hl_115)) (Nat.le_of_ble_eq_true rfl) (hJ _ _ _ _ (by decide)) (xm_le ml_16 rfl) rfl ?_
          refine xi_aload_n (pc' := 1) (x := 115) kc_16_0 rfl rfl ?_
          refine xi_iconst (pc' := 2) (v := 0) kc_16_1 rfl rfl ?_
          refine xi_putfield (pc' := 5) (fs' := [.int 0, .int 0, .ref 116, .ref 117, .ref 118, .ref 119, .ref 120, .ref 121, .ref 122, .ref 123, .ref 124, .ref 125, .ref 126, .ref 127, .ref 128, .ref 129, .int 4, .ref 130, .int 0, .ref 131, .ref 132, .ref 133, .ref 134, .int 0, .ref 135, .ref 136, .ref 137, .ref 138, .ref 139, .ref 140, .ref 141, .ref 142, .int 0, .int 0, .int 0, .ref 143, .ref 144, .ref 145, .ref 146, .ref 147, .ref 148, .int 0, .ref 149, .ref 150, .ref 151, .int 0, .ref 152, .ref 153, .ref 154, .ref 155, .ref 156, .ref 157, .ref 158, .ref 159, .int 0, .ref 160, .int 0, .ref 161, .ref 162, .ref 163, .ref 164, .int 0, .ref 165, .ref 166]) kc_16_2 rfl rfl rfl ((eh1.2.1 115 (by decide)).trans (F 115 _ hl_115)) rfl rfl rfl (Nat.le_of_ble_eq_true rfl) rfl (fun hh2 eh2 => ?_)
          refine xi_iload_n (pc' := 6) (x := a1) kc_16_5 rfl rfl ?_
          refine xi_static (mj := 11) (as := [.int a1]) (st1 := []) (lv0 := [(0, .int a1)]) kc_16_6 rfl rfl (Nat.le_of_ble_eq_true rfl) rfl rfl (Nat.le_of_ble_eq_true rfl) (hJ _ _ _ _ (by decide)) (xm_le ml_11 rfl) rfl ?_
          refine xi_iload_n (pc' := 1) (x := a1) kc_11_0 rfl rfl ?_
          refine xi_iconst (pc' := 2) (v := 0) kc_11_1 rfl rfl ?_
          refine xi_iconst (pc' := 3) (v := 5) kc_11_2 rfl rfl ?_
          refine xi_static (mj := 12) (as := [.int a1, .int 0, .int 5]) (st1 := []) (lv0 := [(0, .int a1), (1, .int 0), (2, .int 5)]) kc_11_3 rfl rfl (Nat.le_of_ble_eq_true rfl) rfl rfl (Nat.le_of_ble_eq_true rfl) (hJ _ _ _ _ (by decide)) (xm_le ml_12 rfl) rfl ?_
          refine xi_iload_n (pc' := 1) (x := a1) kc_12_0 rfl rfl ?_
          refine xi_iload_n (pc' := 2) (x := 0) kc_12_1 rfl rfl ?_
          refine xi_cmf (pc' := 5) kc_12_2 rfl (xc_lt_f (X := a1.toInt) (Y := 0) rfl (by decide) (by omega)) ?_
          refine xi_iload_n (pc' := 6) (x := a1) kc_12_5 rfl rfl ?_
          refine xi_iload_n (pc' := 7) (x := 5) kc_12_6 rfl rfl ?_
          refine xi_cmf (pc' := 10) kc_12_7 rfl (xc_gt_f (X := a1.toInt) (Y := 5) rfl (by decide) (by omega)) ?_
          refine xi_iconst (pc' := 11) (v := 1) kc_12_10 rfl rfl ?_
          refine xi_goto (pc' := 15) kc_12_11 rfl ?_
          refine xi_ireturn kc_12_15 mr_12 rfl ?_
          show xw J ov 98 11 (6, [(0, .int a1)], [.int 1], hh2) _
          refine xi_ireturn kc_11_6 mr_11 rfl ?_
          show xw J ov 99 16 (9, [(0, .ref 115), (1, .int a1), (2, .int a2), (3, .int a3)], [.int 1], hh2) _
          refine xi_iff (pc' := 12) kc_16_9 rfl rfl ?_
          refine xi_iload_n (pc' := 13) (x := a2) kc_16_12 rfl rfl ?_
          refine xi_iconst (pc' := 14) (v := 0) kc_16_13 rfl rfl ?_
          refine xi_bipush (pc' := 16) (v := 23) kc_16_14 rfl rfl ?_
          refine xi_static (mj := 12) (as := [.int a2, .int 0, .int 23]) (st1 := []) (lv0 := [(0, .int a2), (1, .int 0), (2, .int 23)]) kc_16_16 rfl rfl (Nat.le_of_ble_eq_true rfl) rfl rfl (Nat.le_of_ble_eq_true rfl) (hJ _ _ _ _ (by decide)) (xm_le ml_12 rfl) rfl ?_
          refine xi_iload_n (pc' := 1) (x := a2) kc_12_0 rfl rfl ?_
          refine xi_iload_n (pc' := 2) (x := 0) kc_12_1 rfl rfl ?_
          refine xi_cmf (pc' := 5) kc_12_2 rfl (xc_lt_f (X := a2.toInt) (Y := 0) rfl (by decide) (by omega)) ?_
          refine xi_iload_n (pc' := 6) (x := a2) kc_12_5 rfl rfl ?_
          refine xi_iload_n (pc' := 7) (x := 23) kc_12_6 rfl rfl ?_
          refine xi_cmt (pc' := 14) kc_12_7 rfl (xc_gt_t (X := a2.toInt) (Y := 23) rfl (by decide) (by omega)) ?_
          refine xi_iconst (pc' := 15) (v := 0) kc_12_14 rfl rfl ?_
          refine xi_ireturn kc_12_15 mr_12 rfl ?_
          show xw J ov 99 16 (19, [(0, .ref 115), (1, .int a1), (2, .int a2), (3, .int a3)], [.int 0], hh2) _
          refine xi_iff (pc' := 22) kc_16_19 rfl rfl ?_
          refine xi_aload_n (pc' := 23) (x := 115) kc_16_22 rfl rfl ?_
          refine xi_iconst (pc' := 24) (v := (-1)) kc_16_23 rfl rfl ?_
          refine xi_virtual (mj := 13) (as := [.int (-1)]) (st1 := []) (lv0 := [(0, .ref 115), (1, .int (-1))]) kc_16_24 rfl rfl rfl rfl rfl eh2.1 (Nat.le_of_ble_eq_true rfl) (hJ _ _ _ _ (by decide)) (xm_le ml_13 rfl) rfl ?_
          refine xi_aload_n (pc' := 1) (x := 115) kc_13_0 rfl rfl ?_
          refine xi_getfield (pc' := 4) (v := .ref 140) kc_13_1 rfl rfl rfl eh2.1 rfl ?_
          refine xi_iload_n (pc' := 5) (x := (-1)) kc_13_4 rfl rfl ?_
          refine xi_ineg (pc' := 6) (v := 1) kc_13_5 rfl rfl ?_
          refine xi_dup2 (pc' := 7) kc_13_6 rfl ⟨rfl, rfl⟩ ?_
          refine xi_iaload (pc' := 8) (v := 0) kc_13_7 rfl ((eh2.2.1 140 (by decide)).trans ((eh1.2.1 140 (by decide)).trans (F 140 _ hl_140))) (by decide) rfl (xi_in (n := 7) (by decide) (by decide)) rfl ?_
          refine xi_iconst (pc' := 9) (v := 1) kc_13_8 rfl rfl ?_
          refine xi_iadd (pc' := 10) (v := 1) kc_13_9 rfl rfl ?_
          refine xi_iastore (pc' := 11) (x' := [0, 1, 0, 0, 0, 0, 0]) kc_13_10 rfl ((eh2.2.1 140 (by decide)).trans ((eh1.2.1 140 (by decide)).trans (F 140 _ hl_140))) rfl (xi_in (n := 7) (by decide) (by decide)) rfl (fun hh3 eh3 => ?_)
          refine xi_iload_n (pc' := 12) (x := (-1)) kc_13_11 rfl rfl ?_
          refine xi_ireturn kc_13_12 mr_13 rfl ?_
          show xw J ov 99 16 (27, [(0, .ref 115), (1, .int a1), (2, .int a2), (3, .int a3)], [.int (-1)], hh3) _
          refine xi_ireturn kc_16_27 mr_16 rfl ?_
          show xw J ov 100 196 (285, [(4, .int 0), (3, .ref 167), (2, .ref 115), (1, .ref 0), (0, .ref 1000000)], [.int (-1), .int (-1)], hh3) _
          refine xi_cmt (pc' := 1528) kc_196_285 rfl rfl ?_
          refine xi_iinc (pc' := 1531) (x := 0) (v := 6) (lv' := [(4, .int 6), (3, .ref 167), (2, .ref 115), (1, .ref 0), (0, .ref 1000000)]) kc_196_1528 rfl rfl rfl rfl (xm_lt ml_196 rfl) ?_
          refine xi_goto (pc' := 23) kc_196_1531 rfl ?_
          refine xi_iload (pc' := 25) (x := 6) kc_196_23 rfl rfl ?_
          refine xi_aload_n (pc' := 26) (x := 1000000) kc_196_25 rfl rfl ?_
          refine xi_arraylength (pc' := 27) (n := 6) (v := 6) kc_196_26 rfl (xl_lenO (by decide) hov0 rfl) rfl ?_
          refine xi_bipush (pc' := 29) (v := 6) kc_196_27 rfl rfl ?_
          refine xi_isub (pc' := 30) (v := 0) kc_196_29 rfl rfl ?_
          refine xi_cmt (pc' := 1534) kc_196_30 rfl rfl ?_
          refine xi_iconst (pc' := 1535) (v := 1) kc_196_1534 rfl rfl ?_
          refine xi_ireturn kc_196_1535 mr_196 rfl ?_
          refine ⟨rfl, ?_, ?_⟩
          · rw [eh3.2.2.1, eh2.2.2.1, eh1.2.2.1]; exact hn0
          · rw [eh3.2.2.2, eh2.2.2.2, eh1.2.2.2]; exact hz0
