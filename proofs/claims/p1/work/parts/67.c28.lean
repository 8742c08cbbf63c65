set_option maxHeartbeats 8000000 in
theorem lc_28 {J : xe_J} {ov : List (List Int32)} (hJ : ∀ d mj as h, mj ≠ xe_loff → J d mj as h = none) {a0 a1 a2 a3 a4 a5 : Int32} (hov0 : ov[0]? = some [a0, a1, a2, a3, a4, a5]) (hov1 : ov[1]? = some [10, 0, 0, 0, 0, 0]) (hov2 : ov[2]? = some [99, 30, 50, 50, 1, 99999]) {h0 : xe_H} (F : xf_fr h0) (hn0 : h0.length ≤ 600002) (hz0 : xe_sz h0 ≤ 7302232) : xw J ov 100 196 (1258, [(4, .int 0), (3, .ref 167), (2, .ref 115), (1, .ref 0), (0, .ref 1000000)], [], h0) xf_Q := by
  have rr1 := xc_rng a1
  have rr2 := xc_rng a2
  have rr3 := xc_rng a3
  have rr4 := xc_rng a4
  have rr5 := xc_rng a5
  refine xi_aload_n (pc' := 1259) (x := 0) kc_196_1258 rfl rfl ?_
  refine xi_aload_n (pc' := 1260) (x := 1000000) kc_196_1259 rfl rfl ?_
  refine xi_iload (pc' := 1262) (x := 0) kc_196_1260 rfl rfl ?_
  refine xi_iconst (pc' := 1263) (v := 1) kc_196_1262 rfl rfl ?_
  refine xi_iadd (pc' := 1264) (v := 1) kc_196_1263 rfl rfl ?_
  refine xi_ialoadO (pc' := 1265) (v := a1) kc_196_1264 rfl (by decide) hov0 (xi_in (n := 6) (by decide) (by decide)) rfl ?_
  refine xi_aload_n (pc' := 1266) (x := 1000000) kc_196_1265 rfl rfl ?_
  refine xi_iload (pc' := 1268) (x := 0) kc_196_1266 rfl rfl ?_
  refine xi_iconst (pc' := 1269) (v := 2) kc_196_1268 rfl rfl ?_
  refine xi_iadd (pc' := 1270) (v := 2) kc_196_1269 rfl rfl ?_
  refine xi_ialoadO (pc' := 1271) (v := a2) kc_196_1270 rfl (by decide) hov0 (xi_in (n := 6) (by decide) (by decide)) rfl ?_
  refine xi_aload_n (pc' := 1272) (x := 1000000) kc_196_1271 rfl rfl ?_
  refine xi_iload (pc' := 1274) (x := 0) kc_196_1272 rfl rfl ?_
  refine xi_iconst (pc' := 1275) (v := 3) kc_196_1274 rfl rfl ?_
  refine xi_iadd (pc' := 1276) (v := 3) kc_196_1275 rfl rfl ?_
  refine xi_ialoadO (pc' := 1277) (v := a3) kc_196_1276 rfl (by decide) hov0 (xi_in (n := 6) (by decide) (by decide)) rfl ?_
  refine xi_aload_n (pc' := 1278) (x := 1000000) kc_196_1277 rfl rfl ?_
  refine xi_iload (pc' := 1280) (x := 0) kc_196_1278 rfl rfl ?_
  refine xi_iconst (pc' := 1281) (v := 4) kc_196_1280 rfl rfl ?_
  refine xi_iadd (pc' := 1282) (v := 4) kc_196_1281 rfl rfl ?_
  refine xi_ialoadO (pc' := 1283) (v := a4) kc_196_1282 rfl (by decide) hov0 (xi_in (n := 6) (by decide) (by decide)) rfl ?_
  refine xi_virtual (mj := 178) (as := [.int a1, .int a2, .int a3, .int a4]) (st1 := []) (lv0 := [(0, .ref 0), (1, .int a1), (2, .int a2), (3, .int a3), (4, .int a4)]) kc_196_1283 rfl rfl rfl rfl rfl (F 0 _ hl_0) (Nat.le_of_ble_eq_true rfl) (hJ _ _ _ _ (by decide)) (xm_le ml_178 rfl) rfl ?_
  refine xi_iload_n (pc' := 1) (x := a2) kc_178_0 rfl rfl ?_
  refine xi_static (mj := 118) (as := [.int a2]) (st1 := []) (lv0 := [(0, .int a2)]) kc_178_1 rfl rfl (Nat.le_of_ble_eq_true rfl) rfl rfl (Nat.le_of_ble_eq_true rfl) (hJ _ _ _ _ (by decide)) (xm_le ml_118 rfl) rfl ?_
  refine xi_iload_n (pc' := 1) (x := a2) kc_118_0 rfl rfl ?_
  by_cases c1 : a2.toInt < 0
  · refine xi_ift (pc' := 13) kc_118_1 rfl (xc_lt_t (X := a2.toInt) (Y := 0) rfl (by decide) (by omega)) ?_
    refine xi_iconst (pc' := 14) (v := 0) kc_118_13 rfl rfl ?_
    refine xi_ireturn kc_118_14 mr_118 rfl ?_
    show xw J ov 99 178 (4, [(0, .ref 0), (1, .int a1), (2, .int a2), (3, .int a3), (4, .int a4)], [.int 0], h0) _
    refine xi_ift (pc' := 16) kc_178_4 rfl rfl ?_
    refine xi_aload_n (pc' := 17) (x := 0) kc_178_16 rfl rfl ?_
    refine xi_bipush (pc' := 19) (v := (-2)) kc_178_17 rfl rfl ?_
    refine xi_virtual (mj := 91) (as := [.int (-2)]) (st1 := []) (lv0 := [(0, .ref 0), (1, .int (-2))]) kc_178_19 rfl rfl rfl rfl rfl (F 0 _ hl_0) (Nat.le_of_ble_eq_true rfl) (hJ _ _ _ _ (by decide)) (xm_le ml_91 rfl) rfl ?_
    refine xi_iload_n (pc' := 1) (x := (-2)) kc_91_0 rfl rfl ?_
    refine xi_ineg (pc' := 2) (v := 2) kc_91_1 rfl rfl ?_
    refine xi_istore_n (pc' := 3) (lv' := [(2, .int 2), (0, .ref 0), (1, .int (-2))]) kc_91_2 rfl rfl (xm_lt ml_91 rfl) ?_
    refine xi_iload_n (pc' := 4) (x := 2) kc_91_3 rfl rfl ?_
    refine xi_iff (pc' := 7) kc_91_4 rfl rfl ?_
    refine xi_iload_n (pc' := 8) (x := 2) kc_91_7 rfl rfl ?_
    refine xi_aload_n (pc' := 9) (x := 0) kc_91_8 rfl rfl ?_
    refine xi_getfield (pc' := 12) (v := .ref 94) kc_91_9 rfl rfl rfl (F 0 _ hl_0) rfl ?_
    refine xi_arraylength (pc' := 13) (n := 7) (v := 7) kc_91_12 rfl (xl_lenI (by decide) (by decide) (F 94 _ hl_94) (by simp only [List.length_replicate, List.length_cons, List.length_nil])) rfl ?_
    refine xi_cmf (pc' := 16) kc_91_13 rfl rfl ?_
    refine xi_aload_n (pc' := 17) (x := 0) kc_91_16 rfl rfl ?_
    refine xi_getfield (pc' := 20) (v := .ref 94) kc_91_17 rfl rfl rfl (F 0 _ hl_0) rfl ?_
    refine xi_iload_n (pc' := 21) (x := 2) kc_91_20 rfl rfl ?_
    refine xi_dup2 (pc' := 22) kc_91_21 rfl ⟨rfl, rfl⟩ ?_
    refine xi_iaload (pc' := 23) (v := 0) kc_91_22 rfl (F 94 _ hl_94) (by decide) rfl (xi_in (n := 7) (by decide) (by decide)) rfl ?_
    refine xi_iconst (pc' := 24) (v := 1) kc_91_23 rfl rfl ?_
    refine xi_iadd (pc' := 25) (v := 1) kc_91_24 rfl rfl ?_
    refine xi_iastore (pc' := 26) (x' := [0, 0, 1, 0, 0, 0, 0]) kc_91_25 rfl (F 94 _ hl_94) rfl (xi_in (n := 7) (by decide) (by decide)) rfl (fun hh1 eh1 => ?_)
    refine xi_iload_n (pc' := 27) (x := (-2)) kc_91_26 rfl rfl ?_
    refine xi_ireturn kc_91_27 mr_91 rfl ?_
    show xw J ov 99 178 (22, [(0, .ref 0), (1, .int a1), (2, .int a2), (3, .int a3), (4, .int a4)], [.int (-2)], hh1) _
    refine xi_ireturn kc_178_22 mr_178 rfl ?_
    show xw J ov 100 196 (1286, [(4, .int 0), (3, .ref 167), (2, .ref 115), (1, .ref 0), (0, .ref 1000000)], [.int (-2)], hh1) _
    refine xi_aload_n (pc' := 1287) (x := 115) kc_196_1286 rfl rfl ?_
    refine xi_aload_n (pc' := 1288) (x := 1000000) kc_196_1287 rfl rfl ?_
    refine xi_iload (pc' := 1290) (x := 0) kc_196_1288 rfl rfl ?_
    refine xi_iconst (pc' := 1291) (v := 1) kc_196_1290 rfl rfl ?_
    refine xi_iadd (pc' := 1292) (v := 1) kc_196_1291 rfl rfl ?_
    refine xi_ialoadO (pc' := 1293) (v := a1) kc_196_1292 rfl (by decide) hov0 (xi_in (n := 6) (by decide) (by decide)) rfl ?_
    refine xi_aload_n (pc' := 1294) (x := 1000000) kc_196_1293 rfl rfl ?_
    refine xi_iload (pc' := 1296) (x := 0) kc_196_1294 rfl rfl ?_
    refine xi_iconst (pc' := 1297) (v := 2) kc_196_1296 rfl rfl ?_
    refine xi_iadd (pc' := 1298) (v := 2) kc_196_1297 rfl rfl ?_
    refine xi_ialoadO (pc' := 1299) (v := a2) kc_196_1298 rfl (by decide) hov0 (xi_in (n := 6) (by decide) (by decide)) rfl ?_
    refine xi_aload_n (pc' := 1300) (x := 1000000) kc_196_1299 rfl rfl ?_
    refine xi_iload (pc' := 1302) (x := 0) kc_196_1300 rfl rfl ?_
    refine xi_iconst (pc' := 1303) (v := 3) kc_196_1302 rfl rfl ?_
    refine xi_iadd (pc' := 1304) (v := 3) kc_196_1303 rfl rfl ?_
    refine xi_ialoadO (pc' := 1305) (v := a3) kc_196_1304 rfl (by decide) hov0 (xi_in (n := 6) (by decide) (by decide)) rfl ?_
    refine xi_aload_n (pc' := 1306) (x := 1000000) kc_196_1305 rfl rfl ?_
    refine xi_iload (pc' := 1308) (x := 0) kc_196_1306 rfl rfl ?_
    refine xi_iconst (pc' := 1309) (v := 4) kc_196_1308 rfl rfl ?_
    refine xi_iadd (pc' := 1310) (v := 4) kc_196_1309 rfl rfl ?_
    refine xi_ialoadO (pc' := 1311) (v := a4) kc_196_1310 rfl (by decide) hov0 (xi_in (n := 6) (by decide) (by decide)) rfl ?_
    refine xi_virtual (mj := 71) (as := [.int a1, .int a2, .int a3, .int a4]) (st1 := [.int (-2)]) (lv0 := [(0, .ref 115), (1, .int a1), (2, .int a2), (3, .int a3), (4, .int a4)]) kc_196_1311 rfl rfl rfl rfl rfl ((eh1.2.1 115 (by decide)).trans (F 115 _ hl_115)) (Nat.le_of_ble_eq_true rfl) (hJ _ _ _ _ (by decide)) (xm_le ml_71 rfl) rfl ?_
    refine xi_aload_n (pc' := 1) (x := 115) kc_71_0 rfl rfl ?_
    refine xi_iconst (pc' := 2) (v := 0) kc_71_1 rfl rfl ?_
    refine xi_putfield (pc' := 5) (fs' := [.int 0, .int 0, .ref 116, .ref 117, .ref 118, .ref 119, .ref 120, .ref 121, .ref 122, .ref 123, .ref 124, .ref 125, .ref 126, .ref 127, .ref 128, .ref 129, .int 4, .ref 130, .int 0, .ref 131, .ref 132, .ref 133, .ref 134, .int 0, .ref 135, .ref 136, .ref 137, .ref 138, .ref 139, .ref 140, .ref 141, .ref 142, .int 0, .int 0, .int 0, .ref 143, .ref 144, .ref 145, .ref 146, .ref 147, .ref 148, .int 0, .ref 149, .ref 150, .ref 151, .int 0, .ref 152, .ref 153, .ref 154, .ref 155, .ref 156, .ref 157, .ref 158, .ref 159, .int 0, .ref 160, .int 0, .ref 161, .ref 162, .ref 163, .ref 164, .int 0, .ref 165, .ref 166]) kc_71_2 rfl rfl rfl ((eh1.2.1 115 (by decide)).trans (F 115 _ hl_115)) rfl rfl rfl (Nat.le_of_ble_eq_true rfl) rfl (fun hh2 eh2 => ?_)
    refine xi_iload_n (pc' := 6) (x := a2) kc_71_5 rfl rfl ?_
    refine xi_iconst (pc' := 7) (v := 0) kc_71_6 rfl rfl ?_
    refine xi_iconst (pc' := 8) (v := 3) kc_71_7 rfl rfl ?_
    refine xi_static (mj := 12) (as := [.int a2, .int 0, .int 3]) (st1 := []) (lv0 := [(0, .int a2), (1, .int 0), (2, .int 3)]) kc_71_8 rfl rfl (Nat.le_of_ble_eq_true rfl) rfl rfl (Nat.le_of_ble_eq_true rfl) (hJ _ _ _ _ (by decide)) (xm_le ml_12 rfl) rfl ?_
    refine xi_iload_n (pc' := 1) (x := a2) kc_12_0 rfl rfl ?_
    refine xi_iload_n (pc' := 2) (x := 0) kc_12_1 rfl rfl ?_
    refine xi_cmt (pc' := 14) kc_12_2 rfl (xc_lt_t (X := a2.toInt) (Y := 0) rfl (by decide) (by omega)) ?_
    refine xi_iconst (pc' := 15) (v := 0) kc_12_14 rfl rfl ?_
    refine xi_ireturn kc_12_15 mr_12 rfl ?_
    show xw J ov 99 71 (11, [(0, .ref 115), (1, .int a1), (2, .int a2), (3, .int a3), (4, .int a4)], [.int 0], hh2) _
    refine xi_ift (pc' := 23) kc_71_11 rfl rfl ?_
    refine xi_aload_n (pc' := 24) (x := 115) kc_71_23 rfl rfl ?_
    refine xi_bipush (pc' := 26) (v := (-2)) kc_71_24 rfl rfl ?_
    refine xi_virtual (mj := 13) (as := [.int (-2)]) (st1 := []) (lv0 := [(0, .ref 115), (1, .int (-2))]) kc_71_26 rfl rfl rfl rfl rfl eh2.1 (Nat.le_of_ble_eq_true rfl) (hJ _ _ _ _ (by decide)) (xm_le ml_13 rfl) rfl ?_
    refine xi_aload_n (pc' := 1) (x := 115) kc_13_0 rfl rfl ?_
    refine xi_getfield (pc' := 4) (v := .ref 140) kc_13_1 rfl rfl rfl eh2.1 rfl ?_
    refine xi_iload_n (pc' := 5) (x := (-2)) kc_13_4 rfl rfl ?_
    refine xi_ineg (pc' := 6) (v := 2) kc_13_5 rfl rfl ?_
    refine xi_dup2 (pc' := 7) kc_13_6 rfl ⟨rfl, rfl⟩ ?_
    refine xi_iaload (pc' := 8) (v := 0) kc_13_7 rfl ((eh2.2.1 140 (by decide)).trans ((eh1.2.1 140 (by decide)).trans (F 140 _ hl_140))) (by decide) rfl (xi_in (n := 7) (by decide) (by decide)) rfl ?_
    refine xi_iconst (pc' := 9) (v := 1) kc_13_8 rfl rfl ?_
    refine xi_iadd (pc' := 10) (v := 1) kc_13_9 rfl rfl ?_
    refine xi_iastore (pc' := 11) (x' := [0, 0, 1, 0, 0, 0, 0]) kc_13_10 rfl ((eh2.2.1 140 (by decide)).trans ((eh1.2.1 140 (by decide)).trans (F 140 _ hl_140))) rfl (xi_in (n := 7) (by decide) (by decide)) rfl (fun hh3 eh3 => ?_)
    refine xi_iload_n (pc' := 12) (x := (-2)) kc_13_11 rfl rfl ?_
    refine xi_ireturn kc_13_12 mr_13 rfl ?_
    show xw J ov 99 71 (29, [(0, .ref 115), (1, .int a1), (2, .int a2), (3, .int a3), (4, .int a4)], [.int (-2)], hh3) _
    refine xi_ireturn kc_71_29 mr_71 rfl ?_
    show xw J ov 100 196 (1314, [(4, .int 0), (3, .ref 167), (2, .ref 115), (1, .ref 0), (0, .ref 1000000)], [.int (-2), .int (-2)], hh3) _
    refine xi_cmt (pc' := 1528) kc_196_1314 rfl rfl ?_
    refine xi_iinc (pc' := 1531) (x := 0) (v := 6) (lv' := [(4, .int 6), (3, .ref 167), (2, .ref 115), (1, .ref 0), (0, .ref 1000000)]) kc_196_1528 rfl rfl rfl rfl (xm_lt ml_196 rfl) ?_
    refine xi_goto (pc' := 23) kc_196_1531 rfl ?_
    refine xi_iload (pc' := 25) (x := 6) kc_196_23 rfl rfl ?_
    refine xi_aload_n (pc' := 26) (x := 1000000) kc_196_25 rfl rfl ?_
    refine xi_arraylength (pc' := 27) (n := 6) (v := 6) kc_196_26 rfl (xl_lenO (by decide) hov0 rfl) rfl ?_
    refine xi_bipush (pc' := 29) (v := 6) kc_196_27 rfl rfl ?_
    refine xi_isub (pc' := 30) (v := 0) kc_196_29 rfl rfl ?_
    refine xi_cmt (pc' := 1534) kc_196_30 rfl rfl ?_
    refine xi_iconst (pc' := 1535) (v := 1) kc_196_1534 rfl rfl ?_
    refine xi_ireturn kc_196_1535 mr_196 rfl ?_
    refine ⟨rfl, ?_, ?_⟩
    · rw [eh3.2.2.1, eh2.2.2.1, eh1.2.2.1]; exact hn0
    · rw [eh3.2.2.2, eh2.2.2.2, eh1.2.2.2]; exact hz0
  · refine xi_iff (pc' := 4) kc_118_1 rfl (xc_lt_f (X := a2.toInt) (Y := 0) rfl (by decide) (by omega)) ?_
    refine xi_iload_n (pc' := 5) (x := a2) kc_118_4 rfl rfl ?_
    refine xi_iconst (pc' := 6) (v := 4) kc_118_5 rfl rfl ?_
    by_cases c2 : 4 ≤ a2.toInt
    · refine xi_cmt (pc' := 13) kc_118_6 rfl (xc_ge_t (X := a2.toInt) (Y := 4) rfl (by decide) (by omega)) ?_
      refine xi_iconst (pc' := 14) (v := 0) kc_118_13 rfl rfl ?_
      refine xi_ireturn kc_118_14 mr_118 rfl ?_
      show xw J ov 99 178 (4, [(0, .ref 0), (1, .int a1), (2, .int a2), (3, .int a3), (4, .int a4)], [.int 0], h0) _
      refine xi_ift (pc' := 16) kc_178_4 rfl rfl ?_
      refine xi_aload_n (pc' := 17) (x := 0) kc_178_16 rfl rfl ?_
      refine xi_bipush (pc' := 19) (v := (-2)) kc_178_17 rfl rfl ?_
      refine xi_virtual (mj := 91) (as := [.int (-2)]) (st1 := []) (lv0 := [(0, .ref 0), (1, .int (-2))]) kc_178_19 rfl rfl rfl rfl rfl (F 0 _ hl_0) (Nat.le_of_ble_eq_true rfl) (hJ _ _ _ _ (by decide)) (xm_le ml_91 rfl) rfl ?_
      refine xi_iload_n (pc' := 1) (x := (-2)) kc_91_0 rfl rfl ?_
      refine xi_ineg (pc' := 2) (v := 2) kc_91_1 rfl rfl ?_
      refine xi_istore_n (pc' := 3) (lv' := [(2, .int 2), (0, .ref 0), (1, .int (-2))]) kc_91_2 rfl rfl (xm_lt ml_91 rfl) ?_
      refine xi_iload_n (pc' := 4) (x := 2) kc_91_3 rfl rfl ?_
      refine xi_iff (pc' := 7) kc_91_4 rfl rfl ?_
      refine xi_iload_n (pc' := 8) (x := 2) kc_91_7 rfl rfl ?_
      refine xi_aload_n (pc' := 9) (x := 0) kc_91_8 rfl rfl ?_
      refine xi_getfield (pc' := 12) (v := .ref 94) kc_91_9 rfl rfl rfl (F 0 _ hl_0) rfl ?_
      refine xi_arraylength (pc' := 13) (n := 7) (v := 7) kc_91_12 rfl (xl_lenI (by decide) (by decide) (F 94 _ hl_94) (by simp only [List.length_replicate, List.length_cons, List.length_nil])) rfl ?_
      refine xi_cmf (pc' := 16) kc_91_13 rfl rfl ?_
      refine xi_aload_n (pc' := 17) (x := 0) kc_91_16 rfl rfl ?_
      refine xi_getfield (pc' := 20) (v := .ref 94) kc_91_17 rfl rfl rfl (F 0 _ hl_0) rfl ?_
      refine xi_iload_n (pc' := 21) (x := 2) kc_91_20 rfl rfl ?_
      refine xi_dup2 (pc' := 22) kc_91_21 rfl ⟨rfl, rfl⟩ ?_
      refine xi_iaload (pc' := 23) (v := 0) kc_91_22 rfl (F 94 _ hl_94) (by decide) rfl (xi_in (n := 7) (by decide) (by decide)) rfl ?_
      refine xi_iconst (pc' := 24) (v := 1) kc_91_23 rfl rfl ?_
      refine xi_iadd (pc' := 25) (v := 1) kc_91_24 rfl rfl ?_
      refine xi_iastore (pc' := 26) (x' := [0, 0, 1, 0, 0, 0, 0]) kc_91_25 rfl (F 94 _ hl_94) rfl (xi_in (n := 7) (by decide) (by decide)) rfl (fun hh1 eh1 => ?_)
      refine xi_iload_n (pc' := 27) (x := (-2)) kc_91_26 rfl rfl ?_
      refine xi_ireturn kc_91_27 mr_91 rfl ?_
      show xw J ov 99 178 (22, [(0, .ref 0), (1, .int a1), (2, .int a2), (3, .int a3), (4, .int a4)], [.int (-2)], hh1) _
      refine xi_ireturn kc_178_22 mr_178 rfl ?_
      show xw J ov 100 196 (1286, [(4, .int 0), (3, .ref 167), (2, .ref 115), (1, .ref 0), (0, .ref 1000000)], [.int (-2)], hh1) _
      refine xi_aload_n (pc' := 1287) (x := 115) kc_196_1286 rfl rfl ?_
      refine xi_aload_n (pc' := 1288) (x := 1000000) kc_196_1287 rfl rfl ?_
      refine xi_iload (pc' := 1290) (x := 0) kc_196_1288 rfl rfl ?_
      refine xi_iconst (pc' := 1291) (v := 1) kc_196_1290 rfl rfl ?_
      refine xi_iadd (pc' := 1292) (v := 1) kc_196_1291 rfl rfl ?_
      refine xi_ialoadO (pc' := 1293) (v := a1) kc_196_1292 rfl (by decide) hov0 (xi_in (n := 6) (by decide) (by decide)) rfl ?_
      refine xi_aload_n (pc' := 1294) (x := 1000000) kc_196_1293 rfl rfl ?_
      refine xi_iload (pc' := 1296) (x := 0) kc_196_1294 rfl rfl ?_
      refine xi_iconst (pc' := 1297) (v := 2) kc_196_1296 rfl rfl ?_
      refine xi_iadd (pc' := 1298) (v := 2) kc_196_1297 rfl rfl ?_
      refine xi_ialoadO (pc' := 1299) (v := a2) kc_196_1298 rfl (by decide) hov0 (xi_in (n := 6) (by decide) (by decide)) rfl ?_
      refine xi_aload_n (pc' := 1300) (x := 1000000) kc_196_1299 rfl rfl ?_
      refine xi_iload (pc' := 1302) (x := 0) kc_196_1300 rfl rfl ?_
      refine xi_iconst (pc' := 1303) (v := 3) kc_196_1302 rfl rfl ?_
      refine xi_iadd (pc' := 1304) (v := 3) kc_196_1303 rfl rfl ?_
      refine xi_ialoadO (pc' := 1305) (v := a3) kc_196_1304 rfl (by decide) hov0 (xi_in (n := 6) (by decide) (by decide)) rfl ?_
      refine xi_aload_n (pc' := 1306) (x := 1000000) kc_196_1305 rfl rfl ?_
      refine xi_iload (pc' := 1308) (x := 0) kc_196_1306 rfl rfl ?_
      refine xi_iconst (pc' := 1309) (v := 4) kc_196_1308 rfl rfl ?_
      refine xi_iadd (pc' := 1310) (v := 4) kc_196_1309 rfl rfl ?_
      refine xi_ialoadO (pc' := 1311) (v := a4) kc_196_1310 rfl (by decide) hov0 (xi_in (n := 6) (by decide) (by decide)) rfl ?_
      refine xi_virtual (mj := 71) (as := [.int a1, .int a2, .int a3, .int a4]) (st1 := [.int (-2)]) (lv0 := [(0, .ref 115), (1, .int a1), (2, .int a2), (3, .int a3), (4, .int a4)]) kc_196_1311 rfl rfl rfl rfl rfl ((eh1.2.1 115 (by decide)).trans (F 115 _ hl_115)) (Nat.le_of_ble_eq_true rfl) (hJ _ _ _ _ (by decide)) (xm_le ml_71 rfl) rfl ?_
      refine xi_aload_n (pc' := 1) (x := 115) kc_71_0 rfl rfl ?_
      refine xi_iconst (pc' := 2) (v := 0) kc_71_1 rfl rfl ?_
      refine xi_putfield (pc' := 5) (fs' := [.int 0, .int 0, .ref 116, .ref 117, .ref 118, .ref 119, .ref 120, .ref 121, .ref 122, .ref 123, .ref 124, .ref 125, .ref 126, .ref 127, .ref 128, .ref 129, .int 4, .ref 130, .int 0, .ref 131, .ref 132, .ref 133, .ref 134, .int 0, .ref 135, .ref 136, .ref 137, .ref 138, .ref 139, .ref 140, .ref 141, .ref 142, .int 0, .int 0, .int 0, .ref 143, .ref 144, .ref 145, .ref 146, .ref 147, .ref 148, .int 0, .ref 149, .ref 150, .ref 151, .int 0, .ref 152, .ref 153, .ref 154, .ref 155, .ref 156, .ref 157, .ref 158, .ref 159, .int 0, .ref 160, .int 0, .ref 161, .ref 162, .ref 163, .ref 164, .int 0, .ref 165, .ref 166]) kc_71_2 rfl rfl rfl ((eh1.2.1 115 (by decide)).trans (F 115 _ hl_115)) rfl rfl rfl (Nat.le_of_ble_eq_true rfl) rfl (fun hh2 eh2 => ?_)
      refine xi_iload_n (pc' := 6) (x := a2) kc_71_5 rfl rfl ?_
      refine xi_iconst (pc' := 7) (v := 0) kc_71_6 rfl rfl ?_
      refine xi_iconst (pc' := 8) (v := 3) kc_71_7 rfl rfl ?_
      refine xi_static (mj := 12) (as := [.int a2, .int 0, .int 3]) (st1 := []) (lv0 := [(0, .int a2), (1, .int 0), (2, .int 3)]) kc_71_8 rfl rfl (Nat.le_of_ble_eq_true rfl) rfl rfl (Nat.le_of_ble_eq_true rfl) (hJ _ _ _ _ (by decide)) (xm_le ml_12 rfl) rfl ?_
      refine xi_iload_n (pc' := 1) (x := a2) kc_12_0 rfl rfl ?_
      refine xi_iload_n (pc' := 2) (x := 0) kc_12_1 rfl rfl ?_
      refine xi_cmf (pc' := 5) kc_12_2 rfl (xc_lt_f (X := a2.toInt) (Y := 0) rfl (by decide) (by omega)) ?_
      refine xi_iload_n (pc' := 6) (x := a2) kc_12_5 rfl rfl ?_
      refine xi_iload_n (pc' := 7) (x := 3) kc_12_6 rfl rfl ?_
      refine xi_cmt (pc' := 14) kc_12_7 rfl (xc_gt_t (X := a2.toInt) (Y := 3) rfl (by decide) (by omega)) ?_
      refine xi_iconst (pc' := 15) (v := 0) kc_12_14 rfl rfl ?_
      refine xi_ireturn kc_12_15 mr_12 rfl ?_
      show xw J ov 99 71 (11, [(0, .ref 115), (1, .int a1), (2, .int a2), (3, .int a3), (4, .int a4)], [.int 0], hh2) _
      refine xi_ift (pc' := 23) kc_71_11 rfl rfl ?_
      refine xi_aload_n (pc' := 24) (x := 115) kc_71_23 rfl rfl ?_
      refine xi_bipush (pc' := 26) (v := (-2)) kc_71_24 rfl rfl ?_
      refine xi_virtual (mj := 13) (as := [.int (-2)]) (st1 := []) (lv0 := [(0, .ref 115), (1, .int (-2))]) kc_71_26 rfl rfl rfl rfl rfl eh2.1 (Nat.le_of_ble_eq_true rfl) (hJ _ _ _ _ (by decide)) (xm_le ml_13 rfl) rfl ?_
      refine xi_aload_n (pc' := 1) (x := 115) kc_13_0 rfl rfl ?_
      refine xi_getfield (pc' := 4) (v := .ref 140) kc_13_1 rfl rfl rfl eh2.1 rfl ?_
      refine xi_iload_n (pc' := 5) (x := (-2)) kc_13_4 rfl rfl ?_
      refine xi_ineg (pc' := 6) (v := 2) kc_13_5 rfl rfl ?_
      refine xi_dup2 (pc' := 7) kc_13_6 rfl ⟨rfl, rfl⟩ ?_
      refine xi_iaload (pc' := 8) (v := 0) kc_13_7 rfl ((eh2.2.1 140 (by decide)).trans ((eh1.2.1 140 (by decide)).trans (F 140 _ hl_140))) (by decide) rfl (xi_in (n := 7) (by decide) (by decide)) rfl ?_
      refine xi_iconst (pc' := 9) (v := 1) kc_13_8 rfl rfl ?_
      refine xi_iadd (pc' := 10) (v := 1) kc_13_9 rfl rfl ?_
      refine xi_iastore (pc' := 11) (x' := [0, 0, 1, 0, 0, 0, 0]) kc_13_10 rfl ((eh2.2.1 140 (by decide)).trans ((eh1.2.1 140 (by decide)).trans (F 140 _ hl_140))) rfl (xi_in (n := 7) (by decide) (by decide)) rfl (fun hh3 eh3 => ?_)
      refine xi_iload_n (pc' := 12) (x := (-2)) kc_13_11 rfl rfl ?_
      refine xi_ireturn kc_13_12 mr_13 rfl ?_
      show xw J ov 99 71 (29, [(0, .ref 115), (1, .int a1), (2, .int a2), (3, .int a3), (4, .int a4)], [.int (-2)], hh3) _
      refine xi_ireturn kc_71_29 mr_71 rfl ?_
      show xw J ov 100 196 (1314, [(4, .int 0), (3, .ref 167), (2, .ref 115), (1, .ref 0), (0, .ref 1000000)], [.int (-2), .int (-2)], hh3) _
      refine xi_cmt (pc' := 1528) kc_196_1314 rfl rfl ?_
      refine xi_iinc (pc' := 1531) (x := 0) (v := 6) (lv' := [(4, .int 6), (3, .ref 167), (2, .ref 115), (1, .ref 0), (0, .ref 1000000)]) kc_196_1528 rfl rfl rfl rfl (xm_lt ml_196 rfl) ?_
      refine xi_goto (pc' := 23) kc_196_1531 rfl ?_
      refine xi_iload (pc' := 25) (x := 6) kc_196_23 rfl rfl ?_
      refine xi_aload_n (pc' := 26) (x := 1000000) kc_196_25 rfl rfl ?_
      refine xi_arraylength (pc' := 27) (n := 6) (v := 6) kc_196_26 rfl (xl_lenO (by decide) hov0 rfl) rfl ?_
      refine xi_bipush (pc' := 29) (v := 6) kc_196_27 rfl rfl ?_
      refine xi_isub (pc' := 30) (v := 0) kc_196_29 rfl rfl ?_
      refine xi_cmt (pc' := 1534) kc_196_30 rfl rfl ?_
      refine xi_iconst (pc' := 1535) (v := 1) kc_196_1534 rfl rfl ?_
      refine xi_ireturn kc_196_1535 mr_196 rfl ?_
      refine ⟨rfl, ?_, ?_⟩
      · rw [eh3.2.2.1, eh2.2.2.1, eh1.2.2.1]; exact hn0
      · rw [eh3.2.2.2, eh2.2.2.2, eh1.2.2.2]; exact hz0
    · refine xi_cmf (pc' := 9) kc_118_6 rfl (xc_ge_f (X := a2.toInt) (Y := 4) rfl (by decide) (by omega)) ?_
      refine xi_iconst (pc' := 10) (v := 1) kc_118_9 rfl rfl ?_
      refine xi_goto (pc' := 14) kc_118_10 rfl ?_
      refine xi_ireturn kc_118_14 mr_118 rfl ?_
      show xw J ov 99 178 (4, [(0, .ref 0), (1, .int a1), (2, .int a2), (3, .int a3), (4, .int a4)], [.int 1], h0) _
      refine xi_iff (pc' := 7) kc_178_4 rfl rfl ?_
      refine xi_iload_n (pc' := 8) (x := a3) kc_178_7 rfl rfl ?_
      by_cases c3 : a3.toInt < 0
      · refine xi_ift (pc' := 16) kc_178_8 rfl (xc_lt_t (X := a3.toInt) (Y := 0) rfl (by decide) (by omega)) ?_
        refine xi_aload_n (pc' := 17) (x := 0) kc_178_16 rfl rfl ?_
        refine xi_bipush (pc' := 19) (v := (-2)) kc_178_17 rfl rfl ?_
        refine xi_virtual (mj := 91) (as := [.int (-2)]) (st1 := []) (lv0 := [(0, .ref 0), (1, .int (-2))]) kc_178_19 rfl rfl rfl rfl rfl (F 0 _ hl_0) (Nat.le_of_ble_eq_true rfl) (hJ _ _ _ _ (by decide)) (xm_le ml_91 rfl) rfl ?_
        refine xi_iload_n (pc' := 1) (x := (-2)) kc_91_0 rfl rfl ?_
        refine xi_ineg (pc' := 2) (v := 2) kc_91_1 rfl rfl ?_
        refine xi_istore_n (pc' := 3) (lv' := [(2, .int 2), (0, .ref 0), (1, .int (-2))]) kc_91_2 rfl rfl (xm_lt ml_91 rfl) ?_
        refine xi_iload_n (pc' := 4) (x := 2) kc_91_3 rfl rfl ?_
        refine xi_iff (pc' := 7) kc_91_4 rfl rfl ?_
        refine xi_iload_n (pc' := 8) (x := 2) kc_91_7 rfl rfl ?_
        refine xi_aload_n (pc' := 9) (x := 0) kc_91_8 rfl rfl ?_
        refine xi_getfield (pc' := 12) (v := .ref 94) kc_91_9 rfl rfl rfl (F 0 _ hl_0) rfl ?_
        refine xi_arraylength (pc' := 13) (n := 7) (v := 7) kc_91_12 rfl (xl_lenI (by decide) (by decide) (F 94 _ hl_94) (by simp only [List.length_replicate, List.length_cons, List.length_nil])) rfl ?_
        refine xi_cmf (pc' := 16) kc_91_13 rfl rfl ?_
        refine xi_aload_n (pc' := 17) (x := 0) kc_91_16 rfl rfl ?_
        refine xi_getfield (pc' := 20) (v := .ref 94) kc_91_17 rfl rfl rfl (F 0 _ hl_0) rfl ?_
        refine xi_iload_n (pc' := 21) (x := 2) kc_91_20 rfl rfl ?_
        refine xi_dup2 (pc' := 22) kc_91_21 rfl ⟨rfl, rfl⟩ ?_
        refine xi_iaload (pc' := 23) (v := 0) kc_91_22 rfl (F 94 _ hl_94) (by decide) rfl (xi_in (n := 7) (by decide) (by decide)) rfl ?_
        refine xi_iconst (pc' := 24) (v := 1) kc_91_23 rfl rfl ?_
        refine xi_iadd (pc' := 25) (v := 1) kc_91_24 rfl rfl ?_
        refine xi_iastore (pc' := 26) (x' := [0, 0, 1, 0, 0, 0, 0]) kc_91_25 rfl (F 94 _ hl_94) rfl (xi_in (n := 7) (by decide) (by decide)) rfl (fun hh1 eh1 => ?_)
        refine xi_iload_n (pc' := 27) (x := (-2)) kc_91_26 rfl rfl ?_
        refine xi_ireturn kc_91_27 mr_91 rfl ?_
        show xw J ov 99 178 (22, [(0, .ref 0), (1, .int a1), (2, .int a2), (3, .int a3), (4, .int a4)], [.int (-2)], hh1) _
        refine xi_ireturn kc_178_22 mr_178 rfl ?_
        show xw J ov 100 196 (1286, [(4, .int 0), (3, .ref 167), (2, .ref 115), (1, .ref 0), (0, .ref 1000000)], [.int (-2)], hh1) _
        refine xi_aload_n (pc' := 1287) (x := 115) kc_196_1286 rfl rfl ?_
        refine xi_aload_n (pc' := 1288) (x := 1000000) kc_196_1287 rfl rfl ?_
        refine xi_iload (pc' := 1290) (x := 0) kc_196_1288 rfl rfl ?_
        refine xi_iconst (pc' := 1291) (v := 1) kc_196_1290 rfl rfl ?_
        refine xi_iadd (pc' := 1292) (v := 1) kc_196_1291 rfl rfl ?_
        refine xi_ialoadO (pc' := 1293) (v := a1) kc_196_1292 rfl (by decide) hov0 (xi_in (n := 6) (by decide) (by decide)) rfl ?_
        refine xi_aload_n (pc' := 1294) (x := 1000000) kc_196_1293 rfl rfl ?_
        refine xi_iload (pc' := 1296) (x := 0) kc_196_1294 rfl rfl ?_
        refine xi_iconst (pc' := 1297) (v := 2) kc_196_1296 rfl rfl ?_
        refine xi_iadd (pc' := 1298) (v := 2) kc_196_1297 rfl rfl ?_
        refine xi_ialoadO (pc' := 1299) (v := a2) kc_196_1298 rfl (by decide) hov0 (xi_in (n := 6) (by decide) (by decide)) rfl ?_
        refine xi_aload_n (pc' := 1300) (x := 1000000) kc_196_1299 rfl rfl ?_
        refine xi_iload (pc' := 1302) (x := 0) kc_196_1300 rfl rfl ?_
        refine xi_iconst (pc' := 1303) (v := 3) kc_196_1302 rfl rfl ?_
        refine xi_iadd (pc' := 1304) (v := 3) kc_196_1303 rfl rfl ?_
        refine xi_ialoadO (pc' := 1305) (v := a3) kc_196_1304 rfl (by decide) hov0 (xi_in (n := 6) (by decide) (by decide)) rfl ?_
        refine xi_aload_n (pc' := 1306) (x := 1000000) kc_196_1305 rfl rfl ?_
        refine xi_iload (pc' := 1308) (x := 0) kc_196_1306 rfl rfl ?_
        refine xi_iconst (pc' := 1309) (v := 4) kc_196_1308 rfl rfl ?_
        refine xi_iadd (pc' := 1310) (v := 4) kc_196_1309 rfl rfl ?_
        refine xi_ialoadO (pc' := 1311) (v := a4) kc_196_1310 rfl (by decide) hov0 (xi_in (n := 6) (by decide) (by decide)) rfl ?_
        refine xi_virtual (mj := 71) (as := [.int a1, .int a2, .int a3, .int a4]) (st1 := [.int (-2)]) (lv0 := [(0, .ref 115), (1, .int a1), (2, .int a2), (3, .int a3), (4, .int a4)]) kc_196_1311 rfl rfl rfl rfl rfl ((eh1.2.1 115 (by decide)).trans (F 115 _ hl_115)) (Nat.le_of_ble_eq_true rfl) (hJ _ _ _ _ (by decide)) (xm_le ml_71 rfl) rfl ?_
        refine xi_aload_n (pc' := 1) (x := 115) kc_71_0 rfl rfl ?_
        refine xi_iconst (pc' := 2) (v := 0) kc_71_1 rfl rfl ?_
        refine xi_putfield (pc' := 5) (fs' := [.int 0, .int 0, .ref 116, .ref 117, .ref 118, .ref 119, .ref 120, .ref 121, .ref 122, .ref 123, .ref 124, .ref 125, .ref 126, .ref 127, .ref 128, .ref 129, .int 4, .ref 130, .int 0, .ref 131, .ref 132, .ref 133, .ref 134, .int 0, .ref 135, .ref 136, .ref 137, .ref 138, .ref 139, .ref 140, .ref 141, .ref 142, .int 0, .int 0, .int 0, .ref 143, .ref 144, .ref 145, .ref 146, .ref 147, .ref 148, .int 0, .ref 149, .ref 150, .ref 151, .int 0, .ref 152, .ref 153, .ref 154, .ref 155, .ref 156, .ref 157, .ref 158, .ref 159, .int 0, .ref 160, .int 0, .ref 161, .ref 162, .ref 163, .ref 164, .int 0, .ref 165, .ref 166]) kc_71_2 rfl rfl rfl ((eh1.2.1 115 (by decide)).trans (F 115 _ hl_115)) rfl rfl rfl (Nat.le_of_ble_eq_true rfl) rfl (fun hh2 eh2 => ?_)
        refine xi_iload_n (pc' := 6) (x := a2) kc_71_5 rfl rfl ?_
        refine xi_iconst (pc' := 7) (v := 0) kc_71_6 rfl rfl ?_
        refine xi_iconst (pc' := 8) (v := 3) kc_71_7 rfl rfl ?_
        refine xi_static (mj := 12) (as := [.int a2, .int 0, .int 3]) (st1 := []) (lv0 := [(0, .int a2), (1, .int 0), (2, .int 3)]) kc_71_8 rfl rfl (Nat.le_of_ble_eq_true rfl) rfl rfl (Nat.le_of_ble_eq_true rfl) (hJ _ _ _ _ (by decide)) (xm_le ml_12 rfl) rfl ?_
        refine xi_iload_n (pc' := 1) (x := a2) kc_12_0 rfl rfl ?_
        refine xi_iload_n (pc' := 2) (x := 0) kc_12_1 rfl rfl ?_
        refine xi_cmf (pc' := 5) kc_12_2 rfl (xc_lt_f (X := a2.toInt) (Y := 0) rfl (by decide) (by omega)) ?_
        refine xi_iload_n (pc' := 6) (x := a2) kc_12_5 rfl rfl ?_
        refine xi_iload_n (pc' := 7) (x := 3) kc_12_6 rfl rfl ?_
        refine xi_cmf (pc' := 10) kc_12_7 rfl (xc_gt_f (X := a2.toInt) (Y := 3) rfl (by decide) (by omega)) ?_
        refine xi_iconst (pc' := 11) (v := 1) kc_12_10 rfl rfl ?_
        refine xi_goto (pc' := 15) kc_12_11 rfl ?_
        refine xi_ireturn kc_12_15 mr_12 rfl ?_
        show xw J ov 99 71 (11, [(0, .ref 115), (1, .int a1), (2, .int a2), (3, .int a3), (4, .int a4)], [.int 1], hh2) _
        refine xi_iff (pc' := 14) kc_71_11 rfl rfl ?_
        refine xi_iload_n (pc' := 15) (x := a3) kc_71_14 rfl rfl ?_
        refine xi_iconst (pc' := 16) (v := 0) kc_71_15 rfl rfl ?_
        refine xi_iconst (pc' := 17) (v := 1) kc_71_16 rfl rfl ?_
        refine xi_static (mj := 12) (as := [.int a3, .int 0, .int 1]) (st1 := []) (lv0 := [(0, .int a3), (1, .int 0), (2, .int 1)]) kc_71_17 rfl rfl (Nat.le_of_ble_eq_true rfl) rfl rfl (Nat.le_of_ble_eq_true rfl) (hJ _ _ _ _ (by decide)) (xm_le ml_12 rfl) rfl ?_
        refine xi_iload_n (pc' := 1) (x := a3) kc_12_0 rfl rfl ?_
        refine xi_iload_n (pc' := 2) (x := 0) kc_12_1 rfl rfl ?_
        refine xi_cmt (pc' := 14) kc_12_2 rfl (xc_lt_t (X := a3.toInt) (Y := 0) rfl (by decide) (by omega)) ?_
        refine xi_iconst (pc' := 15) (v := 0) kc_12_14 rfl rfl ?_
        refine xi_ireturn kc_12_15 mr_12 rfl ?_
        show xw J ov 99 71 (20, [(0, .ref 115), (1, .int a1), (2, .int a2), (3, .int a3), (4, .int a4)], [.int 0], hh2) _
        refine xi_iff (pc' := 23) kc_71_20 rfl rfl ?_
        refine xi_aload_n (pc' := 24) (x := 115) kc_71_23 rfl rfl ?_
        refine xi_bipush (pc' := 26) (v := (-2)) kc_71_24 rfl rfl ?_
        refine xi_virtual (mj := 13) (as := [.int (-2)]) (st1 := []) (lv0 := [(0, .ref 115), (1, .int (-2))]) kc_71_26 rfl rfl rfl rfl rfl eh2.1 (Nat.le_of_ble_eq_true rfl) (hJ _ _ _ _ (by decide)) (xm_le ml_13 rfl) rfl ?_
        refine xi_aload_n (pc' := 1) (x := 115) kc_13_0 rfl rfl ?_
        refine xi_getfield (pc' := 4) (v := .ref 140) kc_13_1 rfl rfl rfl eh2.1 rfl ?_
        refine xi_iload_n (pc' := 5) (x := (-2)) kc_13_4 rfl rfl ?_
        refine xi_ineg (pc' := 6) (v := 2) kc_13_5 rfl rfl ?_
        refine xi_dup2 (pc' := 7) kc_13_6 rfl ⟨rfl, rfl⟩ ?_
        refine xi_iaload (pc' := 8) (v := 0) kc_13_7 rfl ((eh2.2.1 140 (by decide)).trans ((eh1.2.1 140 (by decide)).trans (F 140 _ hl_140))) (by decide) rfl (xi_in (n := 7) (by decide) (by decide)) rfl ?_
        refine xi_iconst (pc' := 9) (v := 1) kc_13_8 rfl rfl ?_
        refine xi_iadd (pc' := 10) (v := 1) kc_13_9 rfl rfl ?_
        refine xi_iastore (pc' := 11) (x' := [0, 0, 1, 0, 0, 0, 0]) kc_13_10 rfl ((eh2.2.1 140 (by decide)).trans ((eh1.2.1 140 (by decide)).trans (F 140 _ hl_140))) rfl (xi_in (n := 7) (by decide) (by decide)) rfl (fun hh3 eh3 => ?_)
        refine xi_iload_n (pc' := 12) (x := (-2)) kc_13_11 rfl rfl ?_
        refine xi_ireturn kc_13_12 mr_13 rfl ?_
        show xw J ov 99 71 (29, [(0, .ref 115), (1, .int a1), (2, .int a2), (3, .int a3), (4, .int a4)], [.int (-2)], hh3) _
        refine xi_ireturn kc_71_29 mr_71 rfl ?_
        show xw J ov 100 196 (1314, [(4, .int 0), (3, .ref 167), (2, .ref 115), (1, .ref 0), (0, .ref 1000000)], [.int (-2), .int (-2)], hh3) _
        refine xi_cmt (pc' := 1528) kc_196_1314 rfl rfl ?_
        refine xi_iinc (pc' := 1531) (x := 0) (v := 6) (lv' := [(4, .int 6), (3, .ref 167), (2, .ref 115), (1, .ref 0), (0, .ref 1000000)]) kc_196_1528 rfl rfl rfl rfl (xm_lt ml_196 rfl) ?_
        refine xi_goto (pc' := 23) kc_196_1531 rfl ?_
        refine xi_iload (pc' := 25) (x := 6) kc_196_23 rfl rfl ?_
        refine xi_aload_n (pc' := 26) (x := 1000000) kc_196_25 rfl rfl ?_
        refine xi_arraylength (pc' := 27) (n := 6) (v := 6) kc_196_26 rfl (xl_lenO (by decide) hov0 rfl) rfl ?_
        refine xi_bipush (pc' := 29) (v := 6) kc_196_27 rfl rfl ?_
        refine xi_isub (pc' := 30) (v := 0) kc_196_29 rfl rfl ?_
        refine xi_cmt (pc' := 1534) kc_196_30 rfl rfl ?_
        refine xi_iconst (pc' := 1535) (v := 1) kc_196_1534 rfl rfl ?_
        refine xi_ireturn kc_196_1535 mr_196 rfl ?_
        refine ⟨rfl, ?_, ?_⟩
        · rw [eh3.2.2.1, eh2.2.2.1, eh1.2.2.1]; exact hn0
        · rw [eh3.2.2.2, eh2.2.2.2, eh1.2.2.2]; exact hz0
      · refine xi_iff (pc' := 11) kc_178_8 rfl (xc_lt_f (X := a3.toInt) (Y := 0) rfl (by decide) (by omega)) ?_
        refine xi_iload_n (pc' := 12) (x := a3) kc_178_11 rfl rfl ?_
        refine xi_iconst (pc' := 13) (v := 1) kc_178_12 rfl rfl ?_
        by_cases c4 : a3.toInt ≤ 1
        · refine xi_cmt (pc' := 23) kc_178_13 rfl (xc_le_t (X := a3.toInt) (Y := 1) rfl (by decide) (by omega)) ?_
          refine xi_iload_n (pc' := 24) (x := a1) kc_178_23 rfl rfl ?_
          refine xi_aload_n (pc' := 25) (x := 0) kc_178_24 rfl rfl ?_
          refine xi_getfield (pc' := 28) (v := .int 0) kc_178_25 rfl rfl rfl (F 0 _ hl_0) rfl ?_
          refine xi_bipush (pc' := 30) (v := 24) kc_178_28 rfl rfl ?_
          refine xi_idiv (pc' := 31) (v := 0) kc_178_30 rfl rfl (by decide) ?_
          by_cases c5 : a1.toInt < 0
          · refine xi_cmt (pc' := 39) kc_178_31 rfl (xc_lt_t (X := a1.toInt) (Y := 0) rfl (by decide) (by omega)) ?_
            refine xi_aload_n (pc' := 40) (x := 0) kc_178_39 rfl rfl ?_
            refine xi_bipush (pc' := 42) (v := (-4)) kc_178_40 rfl rfl ?_
            refine xi_virtual (mj := 91) (as := [.int (-4)]) (st1 := []) (lv0 := [(0, .ref 0), (1, .int (-4))]) kc_178_42 rfl rfl rfl rfl rfl (F 0 _ hl_0) (Nat.le_of_ble_eq_true rfl) (hJ _ _ _ _ (by decide)) (xm_le ml_91 rfl) rfl ?_
            refine xi_iload_n (pc' := 1) (x := (-4)) kc_91_0 rfl rfl ?_
            refine xi_ineg (pc' := 2) (v := 4) kc_91_1 rfl rfl ?_
            refine xi_istore_n (pc' := 3) (lv' := [(2, .int 4), (0, .ref 0), (1, .int (-4))]) kc_91_2 rfl rfl (xm_lt ml_91 rfl) ?_
            refine xi_iload_n (pc' := 4) (x := 4) kc_91_3 rfl rfl ?_
            refine xi_iff (pc' := 7) kc_91_4 rfl rfl ?_
            refine xi_iload_n (pc' := 8) (x := 4) kc_91_7 rfl rfl ?_
            refine xi_aload_n (pc' := 9) (x := 0) kc_91_8 rfl rfl ?_
            refine xi_getfield (pc' := 12) (v := .ref 94) kc_91_9 rfl rfl rfl (F 0 _ hl_0) rfl ?_
            refine xi_arraylength (pc' := 13) (n := 7) (v := 7) kc_91_12 rfl (xl_lenI (by decide) (by decide) (F 94 _ hl_94) (by simp only [List.length_replicate, List.length_cons, List.length_nil])) rfl ?_
            refine xi_cmf (pc' := 16) kc_91_13 rfl rfl ?_
            refine xi_aload_n (pc' := 17) (x := 0) kc_91_16 rfl rfl ?_
            refine xi_getfield (pc' := 20) (v := .ref 94) kc_91_17 rfl rfl rfl (F 0 _ hl_0) rfl ?_
            refine xi_iload_n (pc' := 21) (x := 4) kc_91_20 rfl rfl ?_
            refine xi_dup2 (pc' := 22) kc_91_21 rfl ⟨rfl, rfl⟩ ?_
            refine xi_iaload (pc' := 23) (v := 0) kc_91_22 rfl (F 94 _ hl_94) (by decide) rfl (xi_in (n := 7) (by decide) (by decide)) rfl ?_
            refine xi_iconst (pc' := 24) (v := 1) kc_91_23 rfl rfl ?_
            refine xi_iadd (pc' := 25) (v := 1) kc_91_24 rfl rfl ?_
            refine xi_iastore (pc' := 26) (x' := [0, 0, 0, 0, 1, 0, 0]) kc_91_25 rfl (F 94 _ hl_94) rfl (xi_in (n := 7) (by decide) (by decide)) rfl (fun hh1 eh1 => ?_)
            refine xi_iload_n (pc' := 27) (x := (-4)) kc_91_26 rfl rfl ?_
            refine xi_ireturn kc_91_27 mr_91 rfl ?_
            show xw J ov 99 178 (45, [(0, .ref 0), (1, .int a1), (2, .int a2), (3, .int a3), (4, .int a4)], [.int (-4)], hh1) _
            refine xi_ireturn kc_178_45 mr_178 rfl ?_
            show xw J ov 100 196 (1286, [(4, .int 0), (3, .ref 167), (2, .ref 115), (1, .ref 0), (0, .ref 1000000)], [.int (-4)], hh1) _
            refine xi_aload_n (pc' := 1287) (x := 115) kc_196_1286 rfl rfl ?_
            refine xi_aload_n (pc' := 1288) (x := 1000000) kc_196_1287 rfl rfl ?_
            refine xi_iload (pc' := 1290) (x := 0) kc_196_1288 rfl rfl ?_
            refine xi_iconst (pc' := 1291) (v := 1) kc_196_1290 rfl rfl ?_
            refine xi_iadd (pc' := 1292) (v := 1) kc_196_1291 rfl rfl ?_
            refine xi_ialoadO (pc' := 1293) (v := a1) kc_196_1292 rfl (by decide) hov0 (xi_in (n := 6) (by decide) (by decide)) rfl ?_
            refine xi_aload_n (pc' := 1294) (x := 1000000) kc_196_1293 rfl rfl ?_
            refine xi_iload (pc' := 1296) (x := 0) kc_196_1294 rfl rfl ?_
            refine xi_iconst (pc' := 1297) (v := 2) kc_196_1296 rfl rfl ?_
            refine xi_iadd (pc' := 1298) (v := 2) kc_196_1297 rfl rfl ?_
            refine xi_ialoadO (pc' := 1299) (v := a2) kc_196_1298 rfl (by decide) hov0 (xi_in (n := 6) (by decide) (by decide)) rfl ?_
            refine xi_aload_n (pc' := 1300) (x := 1000000) kc_196_1299 rfl rfl ?_
            refine xi_iload (pc' := 1302) (x := 0) kc_196_1300 rfl rfl ?_
            refine xi_iconst (pc' := 1303) (v := 3) kc_196_1302 rfl rfl ?_
            refine xi_iadd (pc' := 1304) (v := 3) kc_196_1303 rfl rfl ?_
            refine xi_ialoadO (pc' := 1305) (v := a3) kc_196_1304 rfl (by decide) hov0 (xi_in (n := 6) (by decide) (by decide)) rfl ?_
            refine xi_aload_n (pc' := 1306) (x := 1000000) kc_196_1305 rfl rfl ?_
            refine xi_iload (pc' := 1308) (x := 0) kc_196_1306 rfl rfl ?_
            refine xi_iconst (pc' := 1309) (v := 4) kc_196_1308 rfl rfl ?_
            refine xi_iadd (pc' := 1310) (v := 4) kc_196_1309 rfl rfl ?_
            refine xi_ialoadO (pc' := 1311) (v := a4) kc_196_1310 rfl (by decide) hov0 (xi_in (n := 6) (by decide) (by decide)) rfl ?_
            refine xi_virtual (mj := 71) (as := [.int a1, .int a2, .int a3, .int a4]) (st1 := [.int (-4)]) (lv0 := [(0, .ref 115), (1, .int a1), (2, .int a2), (3, .int a3), (4, .int a4)]) kc_196_1311 rfl rfl rfl rfl rfl ((eh1.2.1 115 (by decide)).trans (F 115 _ hl_115)) (Nat.le_of_ble_eq_true rfl) (hJ _ _ _ _ (by decide)) (xm_le ml_71 rfl) rfl ?_
            refine xi_aload_n (pc' := 1) (x := 115) kc_71_0 rfl rfl ?_
            refine xi_iconst (pc' := 2) (v := 0) kc_71_1 rfl rfl ?_
            refine xi_putfield (pc' := 5) (fs' := [.int 0, .int 0, .ref 116, .ref 117, .ref 118, .ref 119, .ref 120, .ref 121, .ref 122, .ref 123, .ref 124, .ref 125, .ref 126, .ref 127, .ref 128, .ref 129, .int 4, .ref 130, .int 0, .ref 131, .ref 132, .ref 133, .ref 134, .int 0, .ref 135, .ref 136, .ref 137, .ref 138, .ref 139, .ref 140, .ref 141, .ref 142, .int 0, .int 0, .int 0, .ref 143, .ref 144, .ref 145, .ref 146, .ref 147, .ref 148, .int 0, .ref 149, .ref 150, .ref 151, .int 0, .ref 152, .ref 153, .ref 154, .ref 155, .ref 156, .ref 157, .ref 158, .ref 159, .int 0, .ref 160, .int 0, .ref 161, .ref 162, .ref 163, .ref 164, .int 0, .ref 165, .ref 166]) kc_71_2 rfl rfl rfl ((eh1.2.1 115 (by decide)).trans (F 115 _ hl_115)) rfl rfl rfl (Nat.le_of_ble_eq_true rfl) rfl (fun hh2 eh2 => ?_)
            refine xi_iload_n (pc' := 6) (x := a2) kc_71_5 rfl rfl ?_
            refine xi_iconst (pc' := 7) (v := 0) kc_71_6 rfl rfl ?_
            refine xi_iconst (pc' := 8) (v := 3) kc_71_7 rfl rfl ?_
            refine xi_static (mj := 12) (as := [.int a2, .int 0, .int 3]) (st1 := []) (lv0 := [(0, .int a2), (1, .int 0), (2, .int 3)]) kc_71_8 rfl rfl (Nat.le_of_ble_eq_true rfl) rfl rfl (Nat.le_of_ble_eq_true rfl) (hJ _ _ _ _ (by decide)) (xm_le ml_12 rfl) rfl ?_
            refine xi_iload_n (pc' := 1) (x := a2) kc_12_0 rfl rfl ?_
            refine xi_iload_n (pc' := 2) (x := 0) kc_12_1 rfl rfl ?_
            refine xi_cmf (pc' := 5) kc_12_2 rfl (xc_lt_f (X := a2.toInt) (Y := 0) rfl (by decide) (by omega)) ?_
            refine xi_iload_n (pc' := 6) (x := a2) kc_12_5 rfl rfl ?_
            refine xi_iload_n (pc' := 7) (x := 3) kc_12_6 rfl rfl ?_
            refine xi_cmf (pc' := 10) kc_12_7 rfl (xc_gt_f (X := a2.toInt) (Y := 3) rfl (by decide) (by omega)) ?_
            refine xi_iconst (pc' := 11) (v := 1) kc_12_10 rfl rfl ?_
            refine xi_goto (pc' := 15) kc_12_11 rfl ?_
            refine xi_ireturn kc_12_15 mr_12 rfl ?_
            show xw J ov 99 71 (11, [(0, .ref 115), (1, .int a1), (2, .int a2), (3, .int a3), (4, .int a4)], [.int 1], hh2) _
            refine xi_iff (pc' := 14) kc_71_11 rfl rfl ?_
            refine xi_iload_n (pc' := 15) (x := a3) kc_71_14 rfl rfl ?_
            refine xi_iconst (pc' := 16) (v := 0) kc_71_15 rfl rfl ?_
            refine xi_iconst (pc' := 17) (v := 1) kc_71_16 rfl rfl ?_
            refine xi_static (mj := 12) (as := [.int a3, .int 0, .int 1]) (st1 := []) (lv0 := [(0, .int a3), (1, .int 0), (2, .int 1)]) kc_71_17 rfl rfl (Nat.le_of_ble_eq_true rfl) rfl rfl (Nat.le_of_ble_eq_true rfl) (hJ _ _ _ _ (by decide)) (xm_le ml_12 rfl) rfl ?_
            refine xi_iload_n (pc' := 1) (x := a3) kc_12_0 rfl rfl ?_
            refine xi_iload_n (pc' := 2) (x := 0) kc_12_1 rfl rfl ?_
            refine xi_cmf (pc' := 5) kc_12_2 rfl (xc_lt_f (X := a3.toInt) (Y := 0) rfl (by decide) (by omega)) ?_
            refine xi_iload_n (pc' := 6) (x := a3) kc_12_5 rfl rfl ?_
            refine xi_iload_n (pc' := 7) (x := 1) kc_12_6 rfl rfl ?_
            refine xi_cmf (pc' := 10) kc_12_7 rfl (xc_gt_f (X := a3.toInt) (Y := 1) rfl (by decide) (by omega)) ?_
            refine xi_iconst (pc' := 11) (v := 1) kc_12_10 rfl rfl ?_
            refine xi_goto (pc' := 15) kc_12_11 rfl ?_
            refine xi_ireturn kc_12_15 mr_12 rfl ?_
            show xw J ov 99 71 (20, [(0, .ref 115), (1, .int a1), (2, .int a2), (3, .int a3), (4, .int a4)], [.int 1], hh2) _
            refine xi_ift (pc' := 30) kc_71_20 rfl rfl ?_
            refine xi_iload_n (pc' := 31) (x := a1) kc_71_30 rfl rfl ?_
            refine xi_aload_n (pc' := 32) (x := 115) kc_71_31 rfl rfl ?_
            refine xi_getfield (pc' := 35) (v := .int 0) kc_71_32 rfl rfl rfl eh2.1 rfl ?_
            refine xi_bipush (pc' := 37) (v := 24) kc_71_35 rfl rfl ?_
            refine xi_idiv (pc' := 38) (v := 0) kc_71_37 rfl rfl (by decide) ?_
            refine xi_cmt (pc' := 46) kc_71_38 rfl (xc_lt_t (X := a1.toInt) (Y := 0) rfl (by decide) (by omega)) ?_
            refine xi_aload_n (pc' := 47) (x := 115) kc_71_46 rfl rfl ?_
            refine xi_bipush (pc' := 49) (v := (-4)) kc_71_47 rfl rfl ?_
            refine xi_virtual (mj := 13) (as := [.int (-4)]) (st1 := []) (lv0 := [(0, .ref 115), (1, .int (-4))]) kc_71_49 rfl rfl rfl rfl rfl eh2.1 (Nat.le_of_ble_eq_true rfl) (hJ _ _ _ _ (by decide)) (xm_le ml_13 rfl) rfl ?_
            refine xi_aload_n (pc' := 1) (x := 115) kc_13_0 rfl rfl ?_
            refine xi_getfield (pc' := 4) (v := .ref 140) kc_13_1 rfl rfl rfl eh2.1 rfl ?_
            refine xi_iload_n (pc' := 5) (x := (-4)) kc_13_4 rfl rfl ?_
            refine xi_ineg (pc' := 6) (v := 4) kc_13_5 rfl rfl ?_
            refine xi_dup2 (pc' := 7) kc_13_6 rfl ⟨rfl, rfl⟩ ?_
            refine xi_iaload (pc' := 8) (v := 0) kc_13_7 rfl ((eh2.2.1 140 (by decide)).trans ((eh1.2.1 140 (by decide)).trans (F 140 _ hl_140))) (by decide) rfl (xi_in (n := 7) (by decide) (by decide)) rfl ?_
            refine xi_iconst (pc' := 9) (v := 1) kc_13_8 rfl rfl ?_
            refine xi_iadd (pc' := 10) (v := 1) kc_13_9 rfl rfl ?_
            refine xi_iastore (pc' := 11) (x' := [0, 0, 0, 0, 1, 0, 0]) kc_13_10 rfl ((eh2.2.1 140 (by decide)).trans ((eh1.2.1 140 (by decide)).trans (F 140 _ hl_140))) rfl (xi_in (n := 7) (by decide) (by decide)) rfl (fun hh3 eh3 => ?_)
            refine xi_iload_n (pc' := 12) (x := (-4)) kc_13_11 rfl rfl ?_
            refine xi_ireturn kc_13_12 mr_13 rfl ?_
            show xw J ov 99 71 (52, [(0, .ref 115), (1, .int a1), (2, .int a2), (3, .int a3), (4, .int a4)], [.int (-4)], hh3) _
            refine xi_ireturn kc_71_52 mr_71 rfl ?_
            show xw J ov 100 196 (1314, [(4, .int 0), (3, .ref 167), (2, .ref 115), (1, .ref 0), (0, .ref 1000000)], [.int (-4), .int (-4)], hh3) _
            refine xi_cmt (pc' := 1528) kc_196_1314 rfl rfl ?_
            refine xi_iinc (pc' := 1531) (x := 0) (v := 6) (lv' := [(4, .int 6), (3, .ref 167), (2, .ref 115), (1, .ref 0), (0, .ref 1000000)]) kc_196_1528 rfl rfl rfl rfl (xm_lt ml_196 rfl) ?_
            refine xi_goto (pc' := 23) kc_196_1531 rfl ?_
            refine xi_iload (pc' := 25) (x := 6) kc_196_23 rfl rfl ?_
            refine xi_aload_n (pc' := 26) (x := 1000000) kc_196_25 rfl rfl ?_
            refine xi_arraylength (pc' := 27) (n := 6) (v := 6) kc_196_26 rfl (xl_lenO (by decide) hov0 rfl) rfl ?_
            refine xi_bipush (pc' := 29) (v := 6) kc_196_27 rfl rfl ?_
            refine xi_isub (pc' := 30) (v := 0) kc_196_29 rfl rfl ?_
            refine xi_cmt (pc' := 1534) kc_196_30 rfl rfl ?_
            refine xi_iconst (pc' := 1535) (v := 1) kc_196_1534 rfl rfl ?_
            refine xi_ireturn kc_196_1535 mr_196 rfl ?_
            refine ⟨rfl, ?_, ?_⟩
            · rw [eh3.2.2.1, eh2.2.2.1, eh1.2.2.1]; exact hn0
            · rw [eh3.2.2.2, eh2.2.2.2, eh1.2.2.2]; exact hz0
          · refine xi_cmf (pc' := 34) kc_178_31 rfl (xc_lt_f (X := a1.toInt) (Y := 0) rfl (by decide) (by omega)) ?_
            refine xi_iload (pc' := 36) (x := a4) kc_178_34 rfl rfl ?_
            by_cases c6 : 0 ≤ a4.toInt
            · refine xi_ift (pc' := 46) kc_178_36 rfl (xc_ge_t (X := a4.toInt) (Y := 0) rfl (by decide) (by omega)) ?_
              refine xi_iload_n (pc' := 47) (x := a1) kc_178_46 rfl rfl ?_
              refine xi_bipush (pc' := 49) (v := 25) kc_178_47 rfl rfl ?_
              by_cases c7 : 25 < a1.toInt
              · refine xi_cmt (pc' := 71) kc_178_49 rfl (xc_gt_t (X := a1.toInt) (Y := 25) rfl (by decide) (by omega)) ?_
                refine xi_aload_n (pc' := 72) (x := 0) kc_178_71 rfl rfl ?_
                refine xi_bipush (pc' := 74) (v := (-6)) kc_178_72 rfl rfl ?_
                refine xi_virtual (mj := 91) (as := [.int (-6)]) (st1 := []) (lv0 := [(0, .ref 0), (1, .int (-6))]) kc_178_74 rfl rfl rfl rfl rfl (F 0 _ hl_0) (Nat.le_of_ble_eq_true rfl) (hJ _ _ _ _ (by decide)) (xm_le ml_91 rfl) rfl ?_
                refine xi_iload_n (pc' := 1) (x := (-6)) kc_91_0 rfl rfl ?_
                refine xi_ineg (pc' := 2) (v := 6) kc_91_1 rfl rfl ?_
                refine xi_istore_n (pc' := 3) (lv' := [(2, .int 6), (0, .ref 0), (1, .int (-6))]) kc_91_2 rfl rfl (xm_lt ml_91 rfl) ?_
                refine xi_iload_n (pc' := 4) (x := 6) kc_91_3 rfl rfl ?_
                refine xi_iff (pc' := 7) kc_91_4 rfl rfl ?_
                refine xi_iload_n (pc' := 8) (x := 6) kc_91_7 rfl rfl ?_
                refine xi_aload_n (pc' := 9) (x := 0) kc_91_8 rfl rfl ?_
                refine xi_getfield (pc' := 12) (v := .ref 94) kc_91_9 rfl rfl rfl (F 0 _ hl_0) rfl ?_
                refine xi_arraylength (pc' := 13) (n := 7) (v := 7) kc_91_12 rfl (xl_lenI (by decide) (by decide) (F 94 _ hl_94) (by simp only [List.length_replicate, List.length_cons, List.length_nil])) rfl ?_
                refine xi_cmf (pc' := 16) kc_91_13 rfl rfl ?_
                refine xi_aload_n (pc' := 17) (x := 0) kc_91_16 rfl rfl ?_
                refine xi_getfield (pc' := 20) (v := .ref 94) kc_91_17 rfl rfl rfl (F 0 _ hl_0) rfl ?_
                refine xi_iload_n (pc' := 21) (x := 6) kc_91_20 rfl rfl ?_
                refine xi_dup2 (pc' := 22) kc_91_21 rfl ⟨rfl, rfl⟩ ?_
                refine xi_iaload (pc' := 23) (v := 0) kc_91_22 rfl (F 94 _ hl_94) (by decide) rfl (xi_in (n := 7) (by decide) (by decide)) rfl ?_
                refine xi_iconst (pc' := 24) (v := 1) kc_91_23 rfl rfl ?_
                refine xi_iadd (pc' := 25) (v := 1) kc_91_24 rfl rfl ?_
                refine xi_iastore (pc' := 26) (x' := [0, 0, 0, 0, 0, 0, 1]) kc_91_25 rfl (F 94 _ hl_94) rfl (xi_in (n := 7) (by decide) (by decide)) rfl (fun hh1 eh1 => ?_)
                refine xi_iload_n (pc' := 27) (x := (-6)) kc_91_26 rfl rfl ?_
                refine xi_ireturn kc_91_27 mr_91 rfl ?_
                show xw J ov 99 178 (77, [(0, .ref 0), (1, .int a1), (2, .int a2), (3, .int a3), (4, .int a4)], [.int (-6)], hh1) _
                refine xi_ireturn kc_178_77 mr_178 rfl ?_
                show xw J ov 100 196 (1286, [(4, .int 0), (3, .ref 167), (2, .ref 115), (1, .ref 0), (0, .ref 1000000)], [.int (-6)], hh1) _
                refine xi_aload_n (pc' := 1287) (x := 115) kc_196_1286 rfl rfl ?_
                refine xi_aload_n (pc' := 1288) (x := 1000000) kc_196_1287 rfl rfl ?_
                refine xi_iload (pc' := 1290) (x := 0) kc_196_1288 rfl rfl ?_
                refine xi_iconst (pc' := 1291) (v := 1) kc_196_1290 rfl rfl ?_
                refine xi_iadd (pc' := 1292) (v := 1) kc_196_1291 rfl rfl ?_
                refine xi_ialoadO (pc' := 1293) (v := a1) kc_196_1292 rfl (by decide) hov0 (xi_in (n := 6) (by decide) (by decide)) rfl ?_
                refine xi_aload_n (pc' := 1294) (x := 1000000) kc_196_1293 rfl rfl ?_
                refine xi_iload (pc' := 1296) (x := 0) kc_196_1294 rfl rfl ?_
                refine xi_iconst (pc' := 1297) (v := 2) kc_196_1296 rfl rfl ?_
                refine xi_iadd (pc' := 1298) (v := 2) kc_196_1297 rfl rfl ?_
                refine xi_ialoadO (pc' := 1299) (v := a2) kc_196_1298 rfl (by decide) hov0 (xi_in (n := 6) (by decide) (by decide)) rfl ?_
                refine xi_aload_n (pc' := 1300) (x := 1000000) kc_196_1299 rfl rfl ?_
                refine xi_iload (pc' := 1302) (x := 0) kc_196_1300 rfl rfl ?_
                refine xi_iconst (pc' := 1303) (v := 3) kc_196_1302 rfl rfl ?_
                refine xi_iadd (pc' := 1304) (v := 3) kc_196_1303 rfl rfl ?_
                refine xi_ialoadO (pc' := 1305) (v := a3) kc_196_1304 rfl (by decide) hov0 (xi_in (n := 6) (by decide) (by decide)) rfl ?_
                refine xi_aload_n (pc' := 1306) (x := 1000000) kc_196_1305 rfl rfl ?_
                refine xi_iload (pc' := 1308) (x := 0) kc_196_1306 rfl rfl ?_
                refine xi_iconst (pc' := 1309) (v := 4) kc_196_1308 rfl rfl ?_
                refine xi_iadd (pc' := 1310) (v := 4) kc_196_1309 rfl rfl ?_
                refine xi_ialoadO (pc' := 1311) (v := a4) kc_196_1310 rfl (by decide) hov0 (xi_in (n := 6) (by decide) (by decide)) rfl ?_
                refine xi_virtual (mj := 71) (as := [.int a1, .int a2, .int a3, .int a4]) (st1 := [.int (-6)]) (lv0 := [(0, .ref 115), (1, .int a1), (2, .int a2), (3, .int a3), (4, .int a4)]) kc_196_1311 rfl rfl rfl rfl rfl ((eh1.2.1 115 (by decide)).trans (F 115 _ hl_115)) (Nat.le_of_ble_eq_true rfl) (hJ _ _ _ _ (by decide)) (xm_le ml_71 rfl) rfl ?_
                refine xi_aload_n (pc' := 1) (x := 115) kc_71_0 rfl rfl ?_
                refine xi_iconst (pc' := 2) (v := 0) kc_71_1 rfl rfl ?_
                refine xi_putfield (pc' := 5) (fs' := [.int 0, .int 0, .ref 116, .ref 117, .ref 118, .ref 119, .ref 120, .ref 121, .ref 122, .ref 123, .ref 124, .ref 125, .ref 126, .ref 127, .ref 128, .ref 129, .int 4, .ref 130, .int 0, .ref 131, .ref 132, .ref 133, .ref 134, .int 0, .ref 135, .ref 136, .ref 137, .ref 138, .ref 139, .ref 140, .ref 141, .ref 142, .int 0, .int 0, .int 0, .ref 143, .ref 144, .ref 145, .ref 146, .ref 147, .ref 148, .int 0, .ref 149, .ref 150, .ref 151, .int 0, .ref 152, .ref 153, .ref 154, .ref 155, .ref 156, .ref 157, .ref 158, .ref 159, .int 0, .ref 160, .int 0, .ref 161, .ref 162, .ref 163, .ref 164, .int 0, .ref 165, .ref 166]) kc_71_2 rfl rfl rfl ((eh1.2.1 115 (by decide)).trans (F 115 _ hl_115)) rfl rfl rfl (Nat.le_of_ble_eq_true rfl) rfl (fun hh2 eh2 => ?_)
                refine xi_iload_n (pc' := 6) (x := a2) kc_71_5 rfl rfl ?_
                refine xi_iconst (pc' := 7) (v := 0) kc_71_6 rfl rfl ?_
                refine xi_iconst (pc' := 8) (v := 3) kc_71_7 rfl rfl ?_
                refine xi_static (mj := 12) (as := [.int a2, .int 0, .int 3]) (st1 := []) (lv0 := [(0, .int a2), (1, .int 0), (2, .int 3)]) kc_71_8 rfl rfl (Nat.le_of_ble_eq_true rfl) rfl rfl (Nat.le_of_ble_eq_true rfl) (hJ _ _ _ _ (by decide)) (xm_le ml_12 rfl) rfl ?_
                refine xi_iload_n (pc' := 1) (x := a2) kc_12_0 rfl rfl ?_
                refine xi_iload_n (pc' := 2) (x := 0) kc_12_1 rfl rfl ?_
                refine xi_cmf (pc' := 5) kc_12_2 rfl (xc_lt_f (X := a2.toInt) (Y := 0) rfl (by decide) (by omega)) ?_
                refine xi_iload_n (pc' := 6) (x := a2) kc_12_5 rfl rfl ?_
                refine xi_iload_n (pc' := 7) (x := 3) kc_12_6 rfl rfl ?_
                refine xi_cmf (pc' := 10) kc_12_7 rfl (xc_gt_f (X := a2.toInt) (Y := 3) rfl (by decide) (by omega)) ?_
                refine xi_iconst (pc' := 11) (v := 1) kc_12_10 rfl rfl ?_
                refine xi_goto (pc' := 15) kc_12_11 rfl ?_
                refine xi_ireturn kc_12_15 mr_12 rfl ?_
                show xw J ov 99 71 (11, [(0, .ref 115), (1, .int a1), (2, .int a2), (3, .int a3), (4, .int a4)], [.int 1], hh2) _
                refine xi_iff (pc' := 14) kc_71_11 rfl rfl ?_
                refine xi_iload_n (pc' := 15) (x := a3) kc_71_14 rfl rfl ?_
                refine xi_iconst (pc' := 16) (v := 0) kc_71_15 rfl rfl ?_
                refine xi_iconst (pc' := 17) (v := 1) kc_71_16 rfl rfl ?_
                refine xi_static (mj := 12) (as := [.int a3, .int 0, .int 1]) (st1 := []) (lv0 := [(0, .int a3), (1, .int 0), (2, .int 1)]) kc_71_17 rfl rfl (Nat.le_of_ble_eq_true rfl) rfl rfl (Nat.le_of_ble_eq_true rfl) (hJ _ _ _ _ (by decide)) (xm_le ml_12 rfl) rfl ?_
                refine xi_iload_n (pc' := 1) (x := a3) kc_12_0 rfl rfl ?_
                refine xi_iload_n (pc' := 2) (x := 0) kc_12_1 rfl rfl ?_
                refine xi_cmf (pc' := 5) kc_12_2 rfl (xc_lt_f (X := a3.toInt) (Y := 0) rfl (by decide) (by omega)) ?_
                refine xi_iload_n (pc' := 6) (x := a3) kc_12_5 rfl rfl ?_
                refine xi_iload_n (pc' := 7) (x := 1) kc_12_6 rfl rfl ?_
                refine xi_cmf (pc' := 10) kc_12_7 rfl (xc_gt_f (X := a3.toInt) (Y := 1) rfl (by decide) (by omega)) ?_
                refine xi_iconst (pc' := 11) (v := 1) kc_12_10 rfl rfl ?_
                refine xi_goto (pc' := 15) kc_12_11 rfl ?_
                refine xi_ireturn kc_12_15 mr_12 rfl ?_
                show xw J ov 99 71 (20, [(0, .ref 115), (1, .int a1), (2, .int a2), (3, .int a3), (4, .int a4)], [.int 1], hh2) _
                refine xi_ift (pc' := 30) kc_71_20 rfl rfl ?_
                refine xi_iload_n (pc' := 31) (x := a1) kc_71_30 rfl rfl ?_
                refine xi_aload_n (pc' := 32) (x := 115) kc_71_31 rfl rfl ?_
                refine xi_getfield (pc' := 35) (v := .int 0) kc_71_32 rfl rfl rfl eh2.1 rfl ?_
                refine xi_bipush (pc' := 37) (v := 24) kc_71_35 rfl rfl ?_
                refine xi_idiv (pc' := 38) (v := 0) kc_71_37 rfl rfl (by decide) ?_
                refine xi_cmf (pc' := 41) kc_71_38 rfl (xc_lt_f (X := a1.toInt) (Y := 0) rfl (by decide) (by omega)) ?_
                refine xi_iload (pc' := 43) (x := a4) kc_71_41 rfl rfl ?_
                refine xi_ift (pc' := 53) kc_71_43 rfl (xc_ge_t (X := a4.toInt) (Y := 0) rfl (by decide) (by omega)) ?_
                refine xi_iload_n (pc' := 54) (x := a1) kc_71_53 rfl rfl ?_
                refine xi_bipush (pc' := 56) (v := 25) kc_71_54 rfl rfl ?_
                refine xi_cmt (pc' := 75) kc_71_56 rfl (xc_gt_t (X := a1.toInt) (Y := 25) rfl (by decide) (by omega)) ?_
                refine xi_aload_n (pc' := 76) (x := 115) kc_71_75 rfl rfl ?_
                refine xi_bipush (pc' := 78) (v := (-6)) kc_71_76 rfl rfl ?_
                refine xi_virtual (mj := 13) (as := [.int (-6)]) (st1 := []) (lv0 := [(0, .ref 115), (1, .int (-6))]) kc_71_78 rfl rfl rfl rfl rfl eh2.1 (Nat.le_of_ble_eq_true rfl) (hJ _ _ _ _ (by decide)) (xm_le ml_13 rfl) rfl ?_
                refine xi_aload_n (pc' := 1) (x := 115) kc_13_0 rfl rfl ?_
                refine xi_getfield (pc' := 4) (v := .ref 140) kc_13_1 rfl rfl rfl eh2.1 rfl ?_
                refine xi_iload_n (pc' := 5) (x := (-6)) kc_13_4 rfl rfl ?_
                refine xi_ineg (pc' := 6) (v := 6) kc_13_5 rfl rfl ?_
                refine xi_dup2 (pc' := 7) kc_13_6 rfl ⟨rfl, rfl⟩ ?_
                refine xi_iaload (pc' := 8) (v := 0) kc_13_7 rfl ((eh2.2.1 140 (by decide)).trans ((eh1.2.1 140 (by decide)).trans (F 140 _ hl_140))) (by decide) rfl (xi_in (n := 7) (by decide) (by decide)) rfl ?_
                refine xi_iconst (pc' := 9) (v := 1) kc_13_8 rfl rfl ?_
                refine xi_iadd (pc' := 10) (v := 1) kc_13_9 rfl rfl ?_
                refine xi_iastore (pc' := 11) (x' := [0, 0, 0, 0, 0, 0, 1]) kc_13_10 rfl ((eh2.2.1 140 (by decide)).trans ((eh1.2.1 140 (by decide)).trans (F 140 _ hl_140))) rfl (xi_in (n := 7) (by decide) (by decide)) rfl (fun hh3 eh3 => ?_)
                refine xi_iload_n (pc' := 12) (x := (-6)) kc_13_11 rfl rfl ?_
                refine xi_ireturn kc_13_12 mr_13 rfl ?_
                show xw J ov 99 71 (81, [(0, .ref 115), (1, .int a1), (2, .int a2), (3, .int a3), (4, .int a4)], [.int (-6)], hh3) _
                refine xi_ireturn kc_71_81 mr_71 rfl ?_
                show xw J ov 100 196 (1314, [(4, .int 0), (3, .ref 167), (2, .ref 115), (1, .ref 0), (0, .ref 1000000)], [.int (-6), .int (-6)], hh3) _
                refine xi_cmt (pc' := 1528) kc_196_1314 rfl rfl ?_
                refine xi_iinc (pc' := 1531) (x := 0) (v := 6) (lv' := [(4, .int 6), (3, .ref 167), (2, .ref 115), (1, .ref 0), (0, .ref 1000000)]) kc_196_1528 rfl rfl rfl rfl (xm_lt ml_196 rfl) ?_
                refine xi_goto (pc' := 23) kc_196_1531 rfl ?_
                refine xi_iload (pc' := 25) (x := 6) kc_196_23 rfl rfl ?_
                refine xi_aload_n (pc' := 26) (x := 1000000) kc_196_25 rfl rfl ?_
                refine xi_arraylength (pc' := 27) (n := 6) (v := 6) kc_196_26 rfl (xl_lenO (by decide) hov0 rfl) rfl ?_
                refine xi_bipush (pc' := 29) (v := 6) kc_196_27 rfl rfl ?_
                refine xi_isub (pc' := 30) (v := 0) kc_196_29 rfl rfl ?_
                refine xi_cmt (pc' := 1534) kc_196_30 rfl rfl ?_
                refine xi_iconst (pc' := 1535) (v := 1) kc_196_1534 rfl rfl ?_
                refine xi_ireturn kc_196_1535 mr_196 rfl ?_
                refine ⟨rfl, ?_, ?_⟩
                · rw [eh3.2.2.1, eh2.2.2.1, eh1.2.2.1]; exact hn0
                · rw [eh3.2.2.2, eh2.2.2.2, eh1.2.2.2]; exact hz0
              · refine xi_cmf (pc' := 52) kc_178_49 rfl (xc_gt_f (X := a1.toInt) (Y := 25) rfl (by decide) (by omega)) ?_
                refine xi_iload (pc' := 54) (x := a4) kc_178_52 rfl rfl ?_
                refine xi_bipush (pc' := 56) (v := 99) kc_178_54 rfl rfl ?_
                by_cases c8 : 99 < a4.toInt
                · refine xi_cmt (pc' := 71) kc_178_56 rfl (xc_gt_t (X := a4.toInt) (Y := 99) rfl (by decide) (by omega)) ?_
                  refine xi_aload_n (pc' := 72) (x := 0) kc_178_71 rfl rfl ?_
                  refine xi_bipush (pc' := 74) (v := (-6)) kc_178_72 rfl rfl ?_
                  refine xi_virtual (mj := 91) (as := [.int (-6)]) (st1 := []) (lv0 := [(0, .ref 0), (1, .int (-6))]) kc_178_74 rfl rfl rfl rfl rfl (F 0 _ hl_0) (Nat.le_of_ble_eq_true rfl) (hJ _ _ _ _ (by decide)) (xm_le ml_91 rfl) rfl ?_
                  refine xi_iload_n (pc' := 1) (x := (-6)) kc_91_0 rfl rfl ?_
                  refine xi_ineg (pc' := 2) (v := 6) kc_91_1 rfl rfl ?_
                  refine xi_istore_n (pc' := 3) (lv' := [(2, .int 6), (0, .ref 0), (1, .int (-6))]) kc_91_2 rfl rfl (xm_lt ml_91 rfl) ?_
                  refine xi_iload_n (pc' := 4) (x := 6) kc_91_3 rfl rfl ?_
                  refine xi_iff (pc' := 7) kc_91_4 rfl rfl ?_
                  refine xi_iload_n (pc' := 8) (x := 6) kc_91_7 rfl rfl ?_
                  refine xi_aload_n (pc' := 9) (x := 0) kc_91_8 rfl rfl ?_
                  refine xi_getfield (pc' := 12) (v := .ref 94) kc_91_9 rfl rfl rfl (F 0 _ hl_0) rfl ?_
                  refine xi_arraylength (pc' := 13) (n := 7) (v := 7) kc_91_12 rfl (xl_lenI (by decide) (by decide) (F 94 _ hl_94) (by simp only [List.length_replicate, List.length_cons, List.length_nil])) rfl ?_
                  refine xi_cmf (pc' := 16) kc_91_13 rfl rfl ?_
                  refine xi_aload_n (pc' := 17) (x := 0) kc_91_16 rfl rfl ?_
                  refine xi_getfield (pc' := 20) (v := .ref 94) kc_91_17 rfl rfl rfl (F 0 _ hl_0) rfl ?_
                  refine xi_iload_n (pc' := 21) (x := 6) kc_91_20 rfl rfl ?_
                  refine xi_dup2 (pc' := 22) kc_91_21 rfl ⟨rfl, rfl⟩ ?_
                  refine xi_iaload (pc' := 23) (v := 0) kc_91_22 rfl (F 94 _ hl_94) (by decide) rfl (xi_in (n := 7) (by decide) (by decide)) rfl ?_
                  refine xi_iconst (pc' := 24) (v := 1) kc_91_23 rfl rfl ?_
                  refine xi_iadd (pc' := 25) (v := 1) kc_91_24 rfl rfl ?_
                  refine xi_iastore (pc' := 26) (x' := [0, 0, 0, 0, 0, 0, 1]) kc_91_25 rfl (F 94 _ hl_94) rfl (xi_in (n := 7) (by decide) (by decide)) rfl (fun hh1 eh1 => ?_)
                  refine xi_iload_n (pc' := 27) (x := (-6)) kc_91_26 rfl rfl ?_
                  refine xi_ireturn kc_91_27 mr_91 rfl ?_
                  show xw J ov 99 178 (77, [(0, .ref 0), (1, .int a1), (2, .int a2), (3, .int a3), (4, .int a4)], [.int (-6)], hh1) _
                  refine xi_ireturn kc_178_77 mr_178 rfl ?_
                  show xw J ov 100 196 (1286, [(4, .int 0), (3, .ref 167), (2, .ref 115), (1, .ref 0), (0, .ref 1000000)], [.int (-6)], hh1) _
                  refine xi_aload_n (pc' := 1287) (x := 115) kc_196_1286 rfl rfl ?_
                  refine xi_aload_n (pc' := 1288) (x := 1000000) kc_196_1287 rfl rfl ?_
                  refine xi_iload (pc' := 1290) (x := 0) kc_196_1288 rfl rfl ?_
                  refine xi_iconst (pc' := 1291) (v := 1) kc_196_1290 rfl rfl ?_
                  refine xi_iadd (pc' := 1292) (v := 1) kc_196_1291 rfl rfl ?_
                  refine xi_ialoadO (pc' := 1293) (v := a1) kc_196_1292 rfl (by decide) hov0 (xi_in (n := 6) (by decide) (by decide)) rfl ?_
                  refine xi_aload_n (pc' := 1294) (x := 1000000) kc_196_1293 rfl rfl ?_
                  refine xi_iload (pc' := 1296) (x := 0) kc_196_1294 rfl rfl ?_
                  refine xi_iconst (pc' := 1297) (v := 2) kc_196_1296 rfl rfl ?_
                  refine xi_iadd (pc' := 1298) (v := 2) kc_196_1297 rfl rfl ?_
                  refine xi_ialoadO (pc' := 1299) (v := a2) kc_196_1298 rfl (by decide) hov0 (xi_in (n := 6) (by decide) (by decide)) rfl ?_
                  refine xi_aload_n (pc' := 1300) (x := 1000000) kc_196_1299 rfl rfl ?_
                  refine xi_iload (pc' := 1302) (x := 0) kc_196_1300 rfl rfl ?_
                  refine xi_iconst (pc' := 1303) (v := 3) kc_196_1302 rfl rfl ?_
                  refine xi_iadd (pc' := 1304) (v := 3) kc_196_1303 rfl rfl ?_
                  refine xi_ialoadO (pc' := 1305) (v := a3) kc_196_1304 rfl (by decide) hov0 (xi_in (n := 6) (by decide) (by decide)) rfl ?_
                  refine xi_aload_n (pc' := 1306) (x := 1000000) kc_196_1305 rfl rfl ?_
                  refine xi_iload (pc' := 1308) (x := 0) kc_196_1306 rfl rfl ?_
                  refine xi_iconst (pc' := 1309) (v := 4) kc_196_1308 rfl rfl ?_
                  refine xi_iadd (pc' := 1310) (v := 4) kc_196_1309 rfl rfl ?_
                  refine xi_ialoadO (pc' := 1311) (v := a4) kc_196_1310 rfl (by decide) hov0 (xi_in (n := 6) (by decide) (by decide)) rfl ?_
                  refine xi_virtual (mj := 71) (as := [.int a1, .int a2, .int a3, .int a4]) (st1 := [.int (-6)]) (lv0 := [(0, .ref 115), (1, .int a1), (2, .int a2), (3, .int a3), (4, .int a4)]) kc_196_1311 rfl rfl rfl rfl rfl ((eh1.2.1 115 (by decide)).trans (F 115 _ hl_115)) (Nat.le_of_ble_eq_true rfl) (hJ _ _ _ _ (by decide)) (xm_le ml_71 rfl) rfl ?_
                  refine xi_aload_n (pc' := 1) (x := 115) kc_71_0 rfl rfl ?_
                  refine xi_iconst (pc' := 2) (v := 0) kc_71_1 rfl rfl ?_
                  refine xi_putfield (pc' := 5) (fs' := [.int 0, .int 0, .ref 116, .ref 117, .ref 118, .ref 119, .ref 120, .ref 121, .ref 122, .ref 123, .ref 124, .ref 125, .ref 126, .ref 127, .ref 128, .ref 129, .int 4, .ref 130, .int 0, .ref 131, .ref 132, .ref 133, .ref 134, .int 0, .ref 135, .ref 136, .ref 137, .ref 138, .ref 139, .ref 140, .ref 141, .ref 142, .int 0, .int 0, .int 0, .ref 143, .ref 144, .ref 145, .ref 146, .ref 147, .ref 148, .int 0, .ref 149, .ref 150, .ref 151, .int 0, .ref 152, .ref 153, .ref 154, .ref 155, .ref 156, .ref 157, .ref 158, .ref 159, .int 0, .ref 160, .int 0, .ref 161, .ref 162, .ref 163, .ref 164, .int 0, .ref 165, .ref 166]) kc_71_2 rfl rfl rfl ((eh1.2.1 115 (by decide)).trans (F 115 _ hl_115)) rfl rfl rfl (Nat.le_of_ble_eq_true rfl) rfl (fun hh2 eh2 => ?_)
                  refine xi_iload_n (pc' := 6) (x := a2) kc_71_5 rfl rfl ?_
                  refine xi_iconst (pc' := 7) (v := 0) kc_71_6 rfl rfl ?_
                  refine xi_iconst (pc' := 8) (v := 3) kc_71_7 rfl rfl ?_
                  refine xi_static (mj := 12) (as := [.int a2, .int 0, .int 3]) (st1 := []) (lv0 := [(0, .int a2), (1, .int 0), (2, .int 3)]) kc_71_8 rfl rfl (Nat.le_of_ble_eq_true rfl) rfl rfl (Nat.le_of_ble_eq_true rfl) (hJ _ _ _ _ (by decide)) (xm_le ml_12 rfl) rfl ?_
                  refine xi_iload_n (pc' := 1) (x := a2) kc_12_0 rfl rfl ?_
                  refine xi_iload_n (pc' := 2) (x := 0) kc_12_1 rfl rfl ?_
                  refine xi_cmf (pc' := 5) kc_12_2 rfl (xc_lt_f (X := a2.toInt) (Y := 0) rfl (by decide) (by omega)) ?_
                  refine xi_iload_n (pc' := 6) (x := a2) kc_12_5 rfl rfl ?_
                  refine xi_iload_n (pc' := 7) (x := 3) kc_12_6 rfl rfl ?_
                  refine xi_cmf (pc' := 10) kc_12_7 rfl (xc_gt_f (X := a2.toInt) (Y := 3) rfl (by decide) (by omega)) ?_
                  refine xi_iconst (pc' := 11) (v := 1) kc_12_10 rfl rfl ?_
                  refine xi_goto (pc' := 15) kc_12_11 rfl ?_
                  refine xi_ireturn kc_12_15 mr_12 rfl ?_
                  show xw J ov 99 71 (11, [(0, .ref 115), (1, .int a1), (2, .int a2), (3, .int a3), (4, .int a4)], [.int 1], hh2) _
                  refine xi_iff (pc' := 14) kc_71_11 rfl rfl ?_
                  refine xi_iload_n (pc' := 15) (x := a3) kc_71_14 rfl rfl ?_
                  refine xi_iconst (pc' := 16) (v := 0) kc_71_15 rfl rfl ?_
                  refine xi_iconst (pc' := 17) (v := 1) kc_71_16 rfl rfl ?_
                  refine xi_static (mj := 12) (as := [.int a3, .int 0, .int 1]) (st1 := []) (lv0 := [(0, .int a3), (1, .int 0), (2, .int 1)]) kc_71_17 rfl rfl (Nat.le_of_ble_eq_true rfl) rfl rfl (Nat.le_of_ble_eq_true rfl) (hJ _ _ _ _ (by decide)) (xm_le ml_12 rfl) rfl ?_
                  refine xi_iload_n (pc' := 1) (x := a3) kc_12_0 rfl rfl ?_
                  refine xi_iload_n (pc' := 2) (x := 0) kc_12_1 rfl rfl ?_
                  refine xi_cmf (pc' := 5) kc_12_2 rfl (xc_lt_f (X := a3.toInt) (Y := 0) rfl (by decide) (by omega)) ?_
                  refine xi_iload_n (pc' := 6) (x := a3) kc_12_5 rfl rfl ?_
                  refine xi_iload_n (pc' := 7) (x := 1) kc_12_6 rfl rfl ?_
                  refine xi_cmf (pc' := 10) kc_12_7 rfl (xc_gt_f (X := a3.toInt) (Y := 1) rfl (by decide) (by omega)) ?_
                  refine xi_iconst (pc' := 11) (v := 1) kc_12_10 rfl rfl ?_
                  refine xi_goto (pc' := 15) kc_12_11 rfl ?_
                  refine xi_ireturn kc_12_15 mr_12 rfl ?_
                  show xw J ov 99 71 (20, [(0, .ref 115), (1, .int a1), (2, .int a2), (3, .int a3), (4, .int a4)], [.int 1], hh2) _
                  refine xi_ift (pc' := 30) kc_71_20 rfl rfl ?_
                  refine xi_iload_n (pc' := 31) (x := a1) kc_71_30 rfl rfl ?_
                  refine xi_aload_n (pc' := 32) (x := 115) kc_71_31 rfl rfl ?_
                  refine xi_getfield (pc' := 35) (v := .int 0) kc_71_32 rfl rfl rfl eh2.1 rfl ?_
                  refine xi_bipush (pc' := 37) (v := 24) kc_71_35 rfl rfl ?_
                  refine xi_idiv (pc' := 38) (v := 0) kc_71_37 rfl rfl (by decide) ?_
                  refine xi_cmf (pc' := 41) kc_71_38 rfl (xc_lt_f (X := a1.toInt) (Y := 0) rfl (by decide) (by omega)) ?_
                  refine xi_iload (pc' := 43) (x := a4) kc_71_41 rfl rfl ?_
                  refine xi_ift (pc' := 53) kc_71_43 rfl (xc_ge_t (X := a4.toInt) (Y := 0) rfl (by decide) (by omega)) ?_
                  refine xi_iload_n (pc' := 54) (x := a1) kc_71_53 rfl rfl ?_
                  refine xi_bipush (pc' := 56) (v := 25) kc_71_54 rfl rfl ?_
                  refine xi_cmf (pc' := 59) kc_71_56 rfl (xc_gt_f (X := a1.toInt) (Y := 25) rfl (by decide) (by omega)) ?_
                  refine xi_iload (pc' := 61) (x := a4) kc_71_59 rfl rfl ?_
                  refine xi_bipush (pc' := 63) (v := 99) kc_71_61 rfl rfl ?_
                  refine xi_cmt (pc' := 75) kc_71_63 rfl (xc_gt_t (X := a4.toInt) (Y := 99) rfl (by decide) (by omega)) ?_
                  refine xi_aload_n (pc' := 76) (x := 115) kc_71_75 rfl rfl ?_
                  refine xi_bipush (pc' := 78) (v := (-6)) kc_71_76 rfl rfl ?_
                  refine xi_virtual (mj := 13) (as := [.int (-6)]) (st1 := []) (lv0 := [(0, .ref 115), (1, .int (-6))]) kc_71_78 rfl rfl rfl rfl rfl eh2.1 (Nat.le_of_ble_eq_true rfl) (hJ _ _ _ _ (by decide)) (xm_le ml_13 rfl) rfl ?_
                  refine xi_aload_n (pc' := 1) (x := 115) kc_13_0 rfl rfl ?_
                  refine xi_getfield (pc' := 4) (v := .ref 140) kc_13_1 rfl rfl rfl eh2.1 rfl ?_
                  refine xi_iload_n (pc' := 5) (x := (-6)) kc_13_4 rfl rfl ?_
                  refine xi_ineg (pc' := 6) (v := 6) kc_13_5 rfl rfl ?_
                  refine xi_dup2 (pc' := 7) kc_13_6 rfl ⟨rfl, rfl⟩ ?_
                  refine xi_iaload (pc' := 8) (v := 0) kc_13_7 rfl ((eh2.2.1 140 (by decide)).trans ((eh1.2.1 140 (by decide)).trans (F 140 _ hl_140))) (by decide) rfl (xi_in (n := 7) (by decide) (by decide)) rfl ?_
                  refine xi_iconst (pc' := 9) (v := 1) kc_13_8 rfl rfl ?_
                  refine xi_iadd (pc' := 10) (v := 1) kc_13_9 rfl rfl ?_
                  refine xi_iastore (pc' := 11) (x' := [0, 0, 0, 0, 0, 0, 1]) kc_13_10 rfl ((eh2.2.1 140 (by decide)).trans ((eh1.2.1 140 (by decide)).trans (F 140 _ hl_140))) rfl (xi_in (n := 7) (by decide) (by decide)) rfl (fun hh3 eh3 => ?_)
                  refine xi_iload_n (pc' := 12) (x := (-6)) kc_13_11 rfl rfl ?_
                  refine xi_ireturn kc_13_12 mr_13 rfl ?_
                  show xw J ov 99 71 (81, [(0, .ref 115), (1, .int a1), (2, .int a2), (3, .int a3), (4, .int a4)], [.int (-6)], hh3) _
                  refine xi_ireturn kc_71_81 mr_71 rfl ?_
                  show xw J ov 100 196 (1314, [(4, .int 0), (3, .ref 167), (2, .ref 115), (1, .ref 0), (0, .ref 1000000)], [.int (-6), .int (-6)], hh3) _
                  refine xi_cmt (pc' := 1528) kc_196_1314 rfl rfl ?_
                  refine xi_iinc (pc' := 1531) (x := 0) (v := 6) (lv' := [(4, .int 6), (3, .ref 167), (2, .ref 115), (1, .ref 0), (0, .ref 1000000)]) kc_196_1528 rfl rfl rfl rfl (xm_lt ml_196 rfl) ?_
                  refine xi_goto (pc' := 23) kc_196_1531 rfl ?_
                  refine xi_iload (pc' := 25) (x := 6) kc_196_23 rfl rfl ?_
                  refine xi_aload_n (pc' := 26) (x := 1000000) kc_196_25 rfl rfl ?_
                  refine xi_arraylength (pc' := 27) (n := 6) (v := 6) kc_196_26 rfl (xl_lenO (by decide) hov0 rfl) rfl ?_
                  refine xi_bipush (pc' := 29) (v := 6) kc_196_27 rfl rfl ?_
                  refine xi_isub (pc' := 30) (v := 0) kc_196_29 rfl rfl ?_
                  refine xi_cmt (pc' := 1534) kc_196_30 rfl rfl ?_
                  refine xi_iconst (pc' := 1535) (v := 1) kc_196_1534 rfl rfl ?_
                  refine xi_ireturn kc_196_1535 mr_196 rfl ?_
                  refine ⟨rfl, ?_, ?_⟩
                  · rw [eh3.2.2.1, eh2.2.2.1, eh1.2.2.1]; exact hn0
                  · rw [eh3.2.2.2, eh2.2.2.2, eh1.2.2.2]; exact hz0
                · refine xi_cmf (pc' := 59) kc_178_56 rfl (xc_gt_f (X := a4.toInt) (Y := 99) rfl (by decide) (by omega)) ?_
                  refine xi_aload_n (pc' := 60) (x := 0) kc_178_59 rfl rfl ?_
                  refine xi_getfield (pc' := 63) (v := .ref 85) kc_178_60 rfl rfl rfl (F 0 _ hl_0) rfl ?_
                  refine xi_getfield (pc' := 66) (v := .int 0) kc_178_63 rfl rfl rfl (F 85 _ hl_85) rfl ?_
                  refine xi_bipush (pc' := 68) (v := 12) kc_178_66 rfl rfl ?_
                  refine xi_cmt (pc' := 78) kc_178_68 rfl rfl ?_
                  refine xi_aload_n (pc' := 79) (x := 0) kc_178_78 rfl rfl ?_
                  refine xi_getfield (pc' := 82) (v := .ref 85) kc_178_79 rfl rfl rfl (F 0 _ hl_0) rfl ?_
                  refine xi_iload_n (pc' := 83) (x := a1) kc_178_82 rfl rfl ?_
                  refine xi_iload_n (pc' := 84) (x := a2) kc_178_83 rfl rfl ?_
                  refine xi_iload_n (pc' := 85) (x := a3) kc_178_84 rfl rfl ?_
                  refine xi_iload (pc' := 87) (x := a4) kc_178_85 rfl rfl ?_
                  refine xi_virtual (mj := 179) (as := [.int a1, .int a2, .int a3, .int a4]) (st1 := []) (lv0 := [(0, .ref 85), (1, .int a1), (2, .int a2), (3, .int a3), (4, .int a4)]) kc_178_87 rfl rfl rfl rfl rfl (F 85 _ hl_85) (Nat.le_of_ble_eq_true rfl) (hJ _ _ _ _ (by decide)) (xm_le ml_179 rfl) rfl ?_
                  refine xi_aload_n (pc' := 1) (x := 85) kc_179_0 rfl rfl ?_
                  refine xi_getfield (pc' := 4) (v := .int 0) kc_179_1 rfl rfl rfl (F 85 _ hl_85) rfl ?_
                  refine xi_bipush (pc' := 6) (v := 12) kc_179_4 rfl rfl ?_
                  refine xi_cmt (pc' := 12) kc_179_6 rfl rfl ?_
                  refine xi_aload_n (pc' := 13) (x := 85) kc_179_12 rfl rfl ?_
                  refine xi_getfield (pc' := 16) (v := .ref 86) kc_179_13 rfl rfl rfl (F 85 _ hl_85) rfl ?_
                  refine xi_aload_n (pc' := 17) (x := 85) kc_179_16 rfl rfl ?_
                  refine xi_getfield (pc' := 20) (v := .int 0) kc_179_17 rfl rfl rfl (F 85 _ hl_85) rfl ?_
                  refine xi_iload_n (pc' := 21) (x := a1) kc_179_20 rfl rfl ?_
                  refine xi_iastore (pc' := 22) (x' := [a1, 0, 0, 0, 0, 0, 0, 0, 0, 0, 0, 0]) kc_179_21 rfl (F 86 _ hl_86) rfl (xi_in (n := 12) (by decide) (by decide)) rfl (fun hh1 eh1 => ?_)
                  refine xi_aload_n (pc' := 23) (x := 85) kc_179_22 rfl rfl ?_
                  refine xi_getfield (pc' := 26) (v := .ref 87) kc_179_23 rfl rfl rfl ((eh1.2.1 85 (by decide)).trans (F 85 _ hl_85)) rfl ?_
                  refine xi_aload_n (pc' := 27) (x := 85) kc_179_26 rfl rfl ?_
                  refine xi_getfield (pc' := 30) (v := .int 0) kc_179_27 rfl rfl rfl ((eh1.2.1 85 (by decide)).trans (F 85 _ hl_85)) rfl ?_
                  refine xi_iload_n (pc' := 31) (x := a2) kc_179_30 rfl rfl ?_
                  refine xi_iastore (pc' := 32) (x' := [a2, 0, 0, 0, 0, 0, 0, 0, 0, 0, 0, 0]) kc_179_31 rfl ((eh1.2.1 87 (by decide)).trans (F 87 _ hl_87)) rfl (xi_in (n := 12) (by decide) (by decide)) rfl (fun hh2 eh2 => ?_)
                  refine xi_aload_n (pc' := 33) (x := 85) kc_179_32 rfl rfl ?_
                  refine xi_getfield (pc' := 36) (v := .ref 88) kc_179_33 rfl rfl rfl ((eh2.2.1 85 (by decide)).trans ((eh1.2.1 85 (by decide)).trans (F 85 _ hl_85))) rfl ?_
                  refine xi_aload_n (pc' := 37) (x := 85) kc_179_36 rfl rfl ?_
                  refine xi_getfield (pc' := 40) (v := .int 0) kc_179_37 rfl rfl rfl ((eh2.2.1 85 (by decide)).trans ((eh1.2.1 85 (by decide)).trans (F 85 _ hl_85))) rfl ?_
                  refine xi_iload_n (pc' := 41) (x := a3) kc_179_40 rfl rfl ?_
                  refine xi_iastore (pc' := 42) (x' := [a3, 0, 0, 0, 0, 0, 0, 0, 0, 0, 0, 0]) kc_179_41 rfl ((eh2.2.1 88 (by decide)).trans ((eh1.2.1 88 (by decide)).trans (F 88 _ hl_88))) rfl (xi_in (n := 12) (by decide) (by decide)) rfl (fun hh3 eh3 => ?_)
                  refine xi_aload_n (pc' := 43) (x := 85) kc_179_42 rfl rfl ?_
                  refine xi_getfield (pc' := 46) (v := .ref 89) kc_179_43 rfl rfl rfl ((eh3.2.1 85 (by decide)).trans ((eh2.2.1 85 (by decide)).trans ((eh1.2.1 85 (by decide)).trans (F 85 _ hl_85)))) rfl ?_
                  refine xi_aload_n (pc' := 47) (x := 85) kc_179_46 rfl rfl ?_
                  refine xi_getfield (pc' := 50) (v := .int 0) kc_179_47 rfl rfl rfl ((eh3.2.1 85 (by decide)).trans ((eh2.2.1 85 (by decide)).trans ((eh1.2.1 85 (by decide)).trans (F 85 _ hl_85)))) rfl ?_
                  refine xi_iload (pc' := 52) (x := a4) kc_179_50 rfl rfl ?_
                  refine xi_iastore (pc' := 53) (x' := [a4, 0, 0, 0, 0, 0, 0, 0, 0, 0, 0, 0]) kc_179_52 rfl ((eh3.2.1 89 (by decide)).trans ((eh2.2.1 89 (by decide)).trans ((eh1.2.1 89 (by decide)).trans (F 89 _ hl_89)))) rfl (xi_in (n := 12) (by decide) (by decide)) rfl (fun hh4 eh4 => ?_)
                  refine xi_aload_n (pc' := 54) (x := 85) kc_179_53 rfl rfl ?_
                  refine xi_dup (pc' := 55) kc_179_54 rfl rfl ?_
                  refine xi_getfield (pc' := 58) (v := .int 0) kc_179_55 rfl rfl rfl ((eh4.2.1 85 (by decide)).trans ((eh3.2.1 85 (by decide)).trans ((eh2.2.1 85 (by decide)).trans ((eh1.2.1 85 (by decide)).trans (F 85 _ hl_85))))) rfl ?_
                  refine xi_iconst (pc' := 59) (v := 1) kc_179_58 rfl rfl ?_
                  refine xi_iadd (pc' := 60) (v := 1) kc_179_59 rfl rfl ?_
                  refine xi_putfield (pc' := 63) (fs' := [.ref 86, .ref 87, .ref 88, .ref 89, .ref 90, .ref 91, .ref 92, .int 0, .int 1]) kc_179_60 rfl rfl rfl ((eh4.2.1 85 (by decide)).trans ((eh3.2.1 85 (by decide)).trans ((eh2.2.1 85 (by decide)).trans ((eh1.2.1 85 (by decide)).trans (F 85 _ hl_85))))) rfl rfl rfl (Nat.le_of_ble_eq_true rfl) rfl (fun hh5 eh5 => ?_)
                  refine xi_aload_n (pc' := 64) (x := 85) kc_179_63 rfl rfl ?_
                  refine xi_getfield (pc' := 67) (v := .int 1) kc_179_64 rfl rfl rfl eh5.1 rfl ?_
                  refine xi_iconst (pc' := 68) (v := 1) kc_179_67 rfl rfl ?_
                  refine xi_isub (pc' := 69) (v := 0) kc_179_68 rfl rfl ?_
                  refine xi_ireturn kc_179_69 mr_179 rfl ?_
                  show xw J ov 99 178 (90, [(0, .ref 0), (1, .int a1), (2, .int a2), (3, .int a3), (4, .int a4)], [.int 0], hh5) _
                  refine xi_ireturn kc_178_90 mr_178 rfl ?_
                  show xw J ov 100 196 (1286, [(4, .int 0), (3, .ref 167), (2, .ref 115), (1, .ref 0), (0, .ref 1000000)], [.int 0], hh5) _
                  refine xi_aload_n (pc' := 1287) (x := 115) kc_196_1286 rfl rfl ?_
                  refine xi_aload_n (pc' := 1288) (x := 1000000) kc_196_1287 rfl rfl ?_
                  refine xi_iload (pc' := 1290) (x := 0) kc_196_1288 rfl rfl ?_
                  refine xi_iconst (pc' := 1291) (v := 1) kc_196_1290 rfl rfl ?_
                  refine xi_iadd (pc' := 1292) (v := 1) kc_196_1291 rfl rfl ?_
                  refine xi_ialoadO (pc' := 1293) (v := a1) kc_196_1292 rfl (by decide) hov0 (xi_in (n := 6) (by decide) (by decide)) rfl ?_
                  refine xi_aload_n (pc' := 1294) (x := 1000000) kc_196_1293 rfl rfl ?_
                  refine xi_iload (pc' := 1296) (x := 0) kc_196_1294 rfl rfl ?_
                  refine xi_iconst (pc' := 1297) (v := 2) kc_196_1296 rfl rfl ?_
                  refine xi_iadd (pc' := 1298) (v := 2) kc_196_1297 rfl rfl ?_
                  refine xi_ialoadO (pc' := 1299) (v := a2) kc_196_1298 rfl (by decide) hov0 (xi_in (n := 6) (by decide) (by decide)) rfl ?_
                  refine xi_aload_n (pc' := 1300) (x := 1000000) kc_196_1299 rfl rfl ?_
                  refine xi_iload (pc' := 1302) (x := 0) kc_196_1300 rfl rfl ?_
                  refine xi_iconst (pc' := 1303) (v := 3) kc_196_1302 rfl rfl ?_
                  refine xi_iadd (pc' := 1304) (v := 3) kc_196_1303 rfl rfl ?_
                  refine xi_ialoadO (pc' := 1305) (v := a3) kc_196_1304 rfl (by decide) hov0 (xi_in (n := 6) (by decide) (by decide)) rfl ?_
                  refine xi_aload_n (pc' := 1306) (x := 1000000) kc_196_1305 rfl rfl ?_
                  refine xi_iload (pc' := 1308) (x := 0) kc_196_1306 rfl rfl ?_
                  refine xi_iconst (pc' := 1309) (v := 4) kc_196_1308 rfl rfl ?_
                  refine xi_iadd (pc' := 1310) (v := 4) kc_196_1309 rfl rfl ?_
                  refine xi_ialoadO (pc' := 1311) (v := a4) kc_196_1310 rfl (by decide) hov0 (xi_in (n := 6) (by decide) (by decide)) rfl ?_
                  refine xi_virtual (mj := 71) (as := [.int a1, .int a2, .int a3, .int a4]) (st1 := [.int 0]) (lv0 := [(0, .ref 115), (1, .int a1), (2, .int a2), (3, .int a3), (4, .int a4)]) kc_196_1311 rfl rfl rfl rfl rfl ((eh5.2.1 115 (by decide)).trans ((eh4.2.1 115 (by decide)).trans ((eh3.2.1 115 (by decide)).trans ((eh2.2.1 115 (by decide)).trans ((eh1.2.1 115 (by decide)).trans (F 115 _ hl_115)))))) (Nat.le_of_ble_eq_true rfl) (hJ _ _ _ _ (by decide)) (xm_le ml_71 rfl) rfl ?_
                  refine xi_aload_n (pc' := 1) (x := 115) kc_71_0 rfl rfl ?_
                  refine xi_iconst (pc' := 2) (v := 0) kc_71_1 rfl rfl ?_
                  refine xi_putfield (pc' := 5) (fs' := [.int 0, .int 0, .ref 116, .ref 117, .ref 118, .ref 119, .ref 120, .ref 121, .ref 122, .ref 123, .ref 124, .ref 125, .ref 126, .ref 127, .ref 128, .ref 129, .int 4, .ref 130, .int 0, .ref 131, .ref 132, .ref 133, .ref 134, .int 0, .ref 135, .ref 136, .ref 137, .ref 138, .ref 139, .ref 140, .ref 141, .ref 142, .int 0, .int 0, .int 0, .ref 143, .ref 144, .ref 145, .ref 146, .ref 147, .ref 148, .int 0, .ref 149, .ref 150, .ref 151, .int 0, .ref 152, .ref 153, .ref 154, .ref 155, .ref 156, .ref 157, .ref 158, .ref 159, .int 0, .ref 160, .int 0, .ref 161, .ref 162, .ref 163, .ref 164, .int 0, .ref 165, .ref 166]) kc_71_2 rfl rfl rfl ((eh5.2.1 115 (by decide)).trans ((eh4.2.1 115 (by decide)).trans ((eh3.2.1 115 (by decide)).trans ((eh2.2.1 115 (by decide)).trans ((eh1.2.1 115 (by decide)).trans (F 115 _ hl_115)))))) rfl rfl rfl (Nat.le_of_ble_eq_true rfl) rfl (fun hh6 eh6 => ?_)
                  refine xi_iload_n (pc' := 6) (x := a2) kc_71_5 rfl rfl ?_
                  refine xi_iconst (pc' := 7) (v := 0) kc_71_6 rfl rfl ?_
                  refine xi_iconst (pc' := 8) (v := 3) kc_71_7 rfl rfl ?_
                  refine xi_static (mj := 12) (as := [.int a2, .int 0, .int 3]) (st1 := []) (lv0 := [(0, .int a2), (1, .int 0), (2, .int 3)]) kc_71_8 rfl rfl (Nat.le_of_ble_eq_true rfl) rfl rfl (Nat.le_of_ble_eq_true rfl) (hJ _ _ _ _ (by decide)) (xm_le ml_12 rfl) rfl ?_
                  refine xi_iload_n (pc' := 1) (x := a2) kc_12_0 rfl rfl ?_
                  refine xi_iload_n (pc' := 2) (x := 0) kc_12_1 rfl rfl ?_
                  refine xi_cmf (pc' := 5) kc_12_2 rfl (xc_lt_f (X := a2.toInt) (Y := 0) rfl (by decide) (by omega)) ?_
                  refine xi_iload_n (pc' := 6) (x := a2) kc_12_5 rfl rfl ?_
                  refine xi_iload_n (pc' := 7) (x := 3) kc_12_6 rfl rfl ?_
                  refine xi_cmf (pc' := 10) kc_12_7 rfl (xc_gt_f (X := a2.toInt) (Y := 3) rfl (by decide) (by omega)) ?_
                  refine xi_iconst (pc' := 11) (v := 1) kc_12_10 rfl rfl ?_
                  refine xi_goto (pc' := 15) kc_12_11 rfl ?_
                  refine xi_ireturn kc_12_15 mr_12 rfl ?_
                  show xw J ov 99 71 (11, [(0, .ref 115), (1, .int a1), (2, .int a2), (3, .int a3), (4, .int a4)], [.int 1], hh6) _
                  refine xi_iff (pc' := 14) kc_71_11 rfl rfl ?_
                  refine xi_iload_n (pc' := 15) (x := a3) kc_71_14 rfl rfl ?_
                  refine xi_iconst (pc' := 16) (v := 0) kc_71_15 rfl rfl ?_
                  refine xi_iconst (pc' := 17) (v := 1) kc_71_16 rfl rfl ?_
                  refine xi_static (mj := 12) (as := [.int a3, .int 0, .int 1]) (st1 := []) (lv0 := [(0, .int a3), (1, .int 0), (2, .int 1)]) kc_71_17 rfl rfl (Nat.le_of_ble_eq_true rfl) rfl rfl (Nat.le_of_ble_eq_true rfl) (hJ _ _ _ _ (by decide)) (xm_le ml_12 rfl) rfl ?_
                  refine xi_iload_n (pc' := 1) (x := a3) kc_12_0 rfl rfl ?_
                  refine xi_iload_n (pc' := 2) (x := 0) kc_12_1 rfl rfl ?_
                  refine xi_cmf (pc' := 5) kc_12_2 rfl (xc_lt_f (X := a3.toInt) (Y := 0) rfl (by decide) (by omega)) ?_
                  refine xi_iload_n (pc' := 6) (x := a3) kc_12_5 rfl rfl ?_
                  refine xi_iload_n (pc' := 7) (x := 1) kc_12_6 rfl rfl ?_
                  refine xi_cmf (pc' := 10) kc_12_7 rfl (xc_gt_f (X := a3.toInt) (Y := 1) rfl (by decide) (by omega)) ?_
                  refine xi_iconst (pc' := 11) (v := 1) kc_12_10 rfl rfl ?_
                  refine xi_goto (pc' := 15) kc_12_11 rfl ?_
                  refine xi_ireturn kc_12_15 mr_12 rfl ?_
                  show xw J ov 99 71 (20, [(0, .ref 115), (1, .int a1), (2, .int a2), (3, .int a3), (4, .int a4)], [.int 1], hh6) _
                  refine xi_ift (pc' := 30) kc_71_20 rfl rfl ?_
                  refine xi_iload_n (pc' := 31) (x := a1) kc_71_30 rfl rfl ?_
                  refine xi_aload_n (pc' := 32) (x := 115) kc_71_31 rfl rfl ?_
                  refine xi_getfield (pc' := 35) (v := .int 0) kc_71_32 rfl rfl rfl eh6.1 rfl ?_
                  refine xi_bipush (pc' := 37) (v := 24) kc_71_35 rfl rfl ?_
                  refine xi_idiv (pc' := 38) (v := 0) kc_71_37 rfl rfl (by decide) ?_
                  refine xi_cmf (pc' := 41) kc_71_38 rfl (xc_lt_f (X := a1.toInt) (Y := 0) rfl (by decide) (by omega)) ?_
                  refine xi_iload (pc' := 43) (x := a4) kc_71_41 rfl rfl ?_
                  refine xi_ift (pc' := 53) kc_71_43 rfl (xc_ge_t (X := a4.toInt) (Y := 0) rfl (by decide) (by omega)) ?_
                  refine xi_iload_n (pc' := 54) (x := a1) kc_71_53 rfl rfl ?_
                  refine xi_bipush (pc' := 56) (v := 25) kc_71_54 rfl rfl ?_
                  refine xi_cmf (pc' := 59) kc_71_56 rfl (xc_gt_f (X := a1.toInt) (Y := 25) rfl (by decide) (by omega)) ?_
                  refine xi_iload (pc' := 61) (x := a4) kc_71_59 rfl rfl ?_
                  refine xi_bipush (pc' := 63) (v := 99) kc_71_61 rfl rfl ?_
                  refine xi_cmf (pc' := 66) kc_71_63 rfl (xc_gt_f (X := a4.toInt) (Y := 99) rfl (by decide) (by omega)) ?_
                  refine xi_aload_n (pc' := 67) (x := 115) kc_71_66 rfl rfl ?_
                  refine xi_getfield (pc' := 70) (v := .int 0) kc_71_67 rfl rfl rfl eh6.1 rfl ?_
                  refine xi_bipush (pc' := 72) (v := 12) kc_71_70 rfl rfl ?_
                  refine xi_cmt (pc' := 82) kc_71_72 rfl rfl ?_
                  refine xi_aload_n (pc' := 83) (x := 115) kc_71_82 rfl rfl ?_
                  refine xi_getfield (pc' := 86) (v := .ref 161) kc_71_83 rfl rfl rfl eh6.1 rfl ?_
                  refine xi_aload_n (pc' := 87) (x := 115) kc_71_86 rfl rfl ?_
                  refine xi_getfield (pc' := 90) (v := .int 0) kc_71_87 rfl rfl rfl eh6.1 rfl ?_
                  refine xi_iload_n (pc' := 91) (x := a1) kc_71_90 rfl rfl ?_
                  refine xi_iastore (pc' := 92) (x' := [a1, 0, 0, 0, 0, 0, 0, 0, 0, 0, 0, 0]) kc_71_91 rfl ((eh6.2.1 161 (by decide)).trans ((eh5.2.1 161 (by decide)).trans ((eh4.2.1 161 (by decide)).trans ((eh3.2.1 161 (by decide)).trans ((eh2.2.1 161 (by decide)).trans ((eh1.2.1 161 (by decide)).trans (F 161 _ hl_161))))))) rfl (xi_in (n := 12) (by decide) (by decide)) rfl (fun hh7 eh7 => ?_)
                  refine xi_aload_n (pc' := 93) (x := 115) kc_71_92 rfl rfl ?_
                  refine xi_getfield (pc' := 96) (v := .ref 162) kc_71_93 rfl rfl rfl ((eh7.2.1 115 (by decide)).trans eh6.1) rfl ?_
                  refine xi_aload_n (pc' := 97) (x := 115) kc_71_96 rfl rfl ?_
                  refine xi_getfield (pc' := 100) (v := .int 0) kc_71_97 rfl rfl rfl ((eh7.2.1 115 (by decide)).trans eh6.1) rfl ?_
                  refine xi_iload_n (pc' := 101) (x := a2) kc_71_100 rfl rfl ?_
                  refine xi_iastore (pc' := 102) (x' := [a2, 0, 0, 0, 0, 0, 0, 0, 0, 0, 0, 0]) kc_71_101 rfl ((eh7.2.1 162 (by decide)).trans ((eh6.2.1 162 (by decide)).trans ((eh5.2.1 162 (by decide)).trans ((eh4.2.1 162 (by decide)).trans ((eh3.2.1 162 (by decide)).trans ((eh2.2.1 162 (by decide)).trans ((eh1.2.1 162 (by decide)).trans (F 162 _ hl_162)))))))) rfl (xi_in (n := 12) (by decide) (by decide)) rfl (fun hh8 eh8 => ?_)
                  refine xi_aload_n (pc' := 103) (x := 115) kc_71_102 rfl rfl ?_
                  refine xi_getfield (pc' := 106) (v := .ref 163) kc_71_103 rfl rfl rfl ((eh8.2.1 115 (by decide)).trans ((eh7.2.1 115 (by decide)).trans eh6.1)) rfl ?_
                  refine xi_aload_n (pc' := 107) (x := 115) kc_71_106 rfl rfl ?_
                  refine xi_getfield (pc' := 110) (v := .int 0) kc_71_107 rfl rfl rfl ((eh8.2.1 115 (by decide)).trans ((eh7.2.1 115 (by decide)).trans eh6.1)) rfl ?_
                  refine xi_iload_n (pc' := 111) (x := a3) kc_71_110 rfl rfl ?_
                  refine xi_iastore (pc' := 112) (x' := [a3, 0, 0, 0, 0, 0, 0, 0, 0, 0, 0, 0]) kc_71_111 rfl ((eh8.2.1 163 (by decide)).trans ((eh7.2.1 163 (by decide)).trans ((eh6.2.1 163 (by decide)).trans ((eh5.2.1 163 (by decide)).trans ((eh4.2.1 163 (by decide)).trans ((eh3.2.1 163 (by decide)).trans ((eh2.2.1 163 (by decide)).trans ((eh1.2.1 163 (by decide)).trans (F 163 _ hl_163))))))))) rfl (xi_in (n := 12) (by decide) (by decide)) rfl (fun hh9 eh9 => ?_)
                  refine xi_aload_n (pc' := 113) (x := 115) kc_71_112 rfl rfl ?_
                  refine xi_getfield (pc' := 116) (v := .ref 164) kc_71_113 rfl rfl rfl ((eh9.2.1 115 (by decide)).trans ((eh8.2.1 115 (by decide)).trans ((eh7.2.1 115 (by decide)).trans eh6.1))) rfl ?_
                  refine xi_aload_n (pc' := 117) (x := 115) kc_71_116 rfl rfl ?_
                  refine xi_getfield (pc' := 120) (v := .int 0) kc_71_117 rfl rfl rfl ((eh9.2.1 115 (by decide)).trans ((eh8.2.1 115 (by decide)).trans ((eh7.2.1 115 (by decide)).trans eh6.1))) rfl ?_
                  refine xi_iload (pc' := 122) (x := a4) kc_71_120 rfl rfl ?_
                  refine xi_iastore (pc' := 123) (x' := [a4, 0, 0, 0, 0, 0, 0, 0, 0, 0, 0, 0]) kc_71_122 rfl ((eh9.2.1 164 (by decide)).trans ((eh8.2.1 164 (by decide)).trans ((eh7.2.1 164 (by decide)).trans ((eh6.2.1 164 (by decide)).trans ((eh5.2.1 164 (by decide)).trans ((eh4.2.1 164 (by decide)).trans ((eh3.2.1 164 (by decide)).trans ((eh2.2.1 164 (by decide)).trans ((eh1.2.1 164 (by decide)).trans (F 164 _ hl_164)))))))))) rfl (xi_in (n := 12) (by decide) (by decide)) rfl (fun hh10 eh10 => ?_)
                  refine xi_aload_n (pc' := 124) (x := 115) kc_71_123 rfl rfl ?_
                  refine xi_dup (pc' := 125) kc_71_124 rfl rfl ?_
                  refine xi_getfield (pc' := 128) (v := .int 0) kc_71_125 rfl rfl rfl ((eh10.2.1 115 (by decide)).trans ((eh9.2.1 115 (by decide)).trans ((eh8.2.1 115 (by decide)).trans ((eh7.2.1 115 (by decide)).trans eh6.1)))) rfl ?_
                  refine xi_iconst (pc' := 129) (v := 1) kc_71_128 rfl rfl ?_
                  refine xi_iadd (pc' := 130) (v := 1) kc_71_129 rfl rfl ?_
                  refine xi_putfield (pc' := 133) (fs' := [.int 0, .int 0, .ref 116, .ref 117, .ref 118, .ref 119, .ref 120, .ref 121, .ref 122, .ref 123, .ref 124, .ref 125, .ref 126, .ref 127, .ref 128, .ref 129, .int 4, .ref 130, .int 0, .ref 131, .ref 132, .ref 133, .ref 134, .int 0, .ref 135, .ref 136, .ref 137, .ref 138, .ref 139, .ref 140, .ref 141, .ref 142, .int 0, .int 0, .int 0, .ref 143, .ref 144, .ref 145, .ref 146, .ref 147, .ref 148, .int 0, .ref 149, .ref 150, .ref 151, .int 0, .ref 152, .ref 153, .ref 154, .ref 155, .ref 156, .ref 157, .ref 158, .ref 159, .int 0, .ref 160, .int 1, .ref 161, .ref 162, .ref 163, .ref 164, .int 0, .ref 165, .ref 166]) kc_71_130 rfl rfl rfl ((eh10.2.1 115 (by decide)).trans ((eh9.2.1 115 (by decide)).trans ((eh8.2.1 115 (by decide)).trans ((eh7.2.1 115 (by decide)).trans eh6.1)))) rfl rfl rfl (Nat.le_of_ble_eq_true rfl) rfl (fun hh11 eh11 => ?_)
                  refine xi_aload_n (pc' := 134) (x := 115) kc_71_133 rfl rfl ?_
                  refine xi_getfield (pc' := 137) (v := .int 1) kc_71_134 rfl rfl rfl eh11.1 rfl ?_
                  refine xi_iconst (pc' := 138) (v := 1) kc_71_137 rfl rfl ?_
                  refine xi_isub (pc' := 139) (v := 0) kc_71_138 rfl rfl ?_
                  refine xi_ireturn kc_71_139 mr_71 rfl ?_
                  show xw J ov 100 196 (1314, [(4, .int 0), (3, .ref 167), (2, .ref 115), (1, .ref 0), (0, .ref 1000000)], [.int 0, .int 0], hh11) _
                  refine xi_cmt (pc' := 1528) kc_196_1314 rfl rfl ?_
                  refine xi_iinc (pc' := 1531) (x := 0) (v := 6) (lv' := [(4, .int 6), (3, .ref 167), (2, .ref 115), (1, .ref 0), (0, .ref 1000000)]) kc_196_1528 rfl rfl rfl rfl (xm_lt ml_196 rfl) ?_
                  refine xi_goto (pc' := 23) kc_196_1531 rfl ?_
                  refine xi_iload (pc' := 25) (x := 6) kc_196_23 rfl rfl ?_
                  refine xi_aload_n (pc' := 26) (x := 1000000) kc_196_25 rfl rfl ?_
                  refine xi_arraylength (pc' := 27) (n := 6) (v := 6) kc_196_26 rfl (xl_lenO (by decide) hov0 rfl) rfl ?_
                  refine xi_bipush (pc' := 29) (v := 6) kc_196_27 rfl rfl ?_
                  refine xi_isub (pc' := 30) (v := 0) kc_196_29 rfl rfl ?_
                  refine xi_cmt (pc' := 1534) kc_196_30 rfl rfl ?_
                  refine xi_iconst (pc' := 1535) (v := 1) kc_196_1534 rfl rfl ?_
                  refine xi_ireturn kc_196_1535 mr_196 rfl ?_
                  refine ⟨rfl, ?_, ?_⟩
                  · rw [eh11.2.2.1, eh10.2.2.1, eh9.2.2.1, eh8.2.2.1, eh7.2.2.1, eh6.2.2.1, eh5.2.2.1, eh4.2.2.1, eh3.2.2.1, eh2.2.2.1, eh1.2.2.1]; exact hn0
                  · rw [eh11.2.2.2, eh10.2.2.2, eh9.2.2.2, eh8.2.2.2, eh7.2.2.2, eh6.2.2.2, eh5.2.2.2, eh4.2.2.2, eh3.2.2.2, eh2.2.2.2, eh1.2.2.2]; exact hz0
            · refine xi_iff (pc' := 39) kc_178_36 rfl (xc_ge_f (X := a4.toInt) (Y := 0) rfl (by decide) (by omega)) ?_
              refine xi_aload_n (pc' := 40) (x := 0) kc_178_39 rfl rfl ?_
              refine xi_bipush (pc' := 42) (v := (-4)) kc_178_40 rfl rfl ?_
              refine xi_virtual (mj := 91) (as := [.int (-4)]) (st1 := []) (lv0 := [(0, .ref 0), (1, .int (-4))]) kc_178_42 rfl rfl rfl rfl rfl (F 0 _ hl_0) (Nat.le_of_ble_eq_true rfl) (hJ _ _ _ _ (by decide)) (xm_le ml_91 rfl) rfl ?_
              refine xi_iload_n (pc' := 1) (x := (-4)) kc_91_0 rfl rfl ?_
              refine xi_ineg (pc' := 2) (v := 4) kc_91_1 rfl rfl ?_
              refine xi_istore_n (pc' := 3) (lv' := [(2, .int 4), (0, .ref 0), (1, .int (-4))]) kc_91_2 rfl rfl (xm_lt ml_91 rfl) ?_
              refine xi_iload_n (pc' := 4) (x := 4) kc_91_3 rfl rfl ?_
              refine xi_iff (pc' := 7) kc_91_4 rfl rfl ?_
              refine xi_iload_n (pc' := 8) (x := 4) kc_91_7 rfl rfl ?_
              refine xi_aload_n (pc' := 9) (x := 0) kc_91_8 rfl rfl ?_
              refine xi_getfield (pc' := 12) (v := .ref 94) kc_91_9 rfl rfl rfl (F 0 _ hl_0) rfl ?_
              refine xi_arraylength (pc' := 13) (n := 7) (v := 7) kc_91_12 rfl (xl_lenI (by decide) (by decide) (F 94 _ hl_94) (by simp only [List.length_replicate, List.length_cons, List.length_nil])) rfl ?_
              refine xi_cmf (pc' := 16) kc_91_13 rfl rfl ?_
              refine xi_aload_n (pc' := 17) (x := 0) kc_91_16 rfl rfl ?_
              refine xi_getfield (pc' := 20) (v := .ref 94) kc_91_17 rfl rfl rfl (F 0 _ hl_0) rfl ?_
              refine xi_iload_n (pc' := 21) (x := 4) kc_91_20 rfl rfl ?_
              refine xi_dup2 (pc' := 22) kc_91_21 rfl ⟨rfl, rfl⟩ ?_
              refine xi_iaload (pc' := 23) (v := 0) kc_91_22 rfl (F 94 _ hl_94) (by decide) rfl (xi_in (n := 7) (by decide) (by decide)) rfl ?_
              refine xi_iconst (pc' := 24) (v := 1) kc_91_23 rfl rfl ?_
              refine xi_iadd (pc' := 25) (v := 1) kc_91_24 rfl rfl ?_
              refine xi_iastore (pc' := 26) (x' := [0, 0, 0, 0, 1, 0, 0]) kc_91_25 rfl (F 94 _ hl_94) rfl (xi_in (n := 7) (by decide) (by decide)) rfl (fun hh1 eh1 => ?_)
              refine xi_iload_n (pc' := 27) (x := (-4)) kc_91_26 rfl rfl ?_
              refine xi_ireturn kc_91_27 mr_91 rfl ?_
              show xw J ov 99 178 (45, [(0, .ref 0), (1, .int a1), (2, .int a2), (3, .int a3), (4, .int a4)], [.int (-4)], hh1) _
              refine xi_ireturn kc_178_45 mr_178 rfl ?_
              show xw J ov 100 196 (1286, [(4, .int 0), (3, .ref 167), (2, .ref 115), (1, .ref 0), (0, .ref 1000000)], [.int (-4)], hh1) _
              refine xi_aload_n (pc' := 1287) (x := 115) kc_196_1286 rfl rfl ?_
              refine xi_aload_n (pc' := 1288) (x := 1000000) kc_196_1287 rfl rfl ?_
              refine xi_iload (pc' := 1290) (x := 0) kc_196_1288 rfl rfl ?_
              refine xi_iconst (pc' := 1291) (v := 1) kc_196_1290 rfl rfl ?_
              refine xi_iadd (pc' := 1292) (v := 1) kc_196_1291 rfl rfl ?_
              refine xi_ialoadO (pc' := 1293) (v := a1) kc_196_1292 rfl (by decide) hov0 (xi_in (n := 6) (by decide) (by decide)) rfl ?_
              refine xi_aload_n (pc' := 1294) (x := 1000000) kc_196_1293 rfl rfl ?_
              refine xi_iload (pc' := 1296) (x := 0) kc_196_1294 rfl rfl ?_
              refine xi_iconst (pc' := 1297) (v := 2) kc_196_1296 rfl rfl ?_
              refine xi_iadd (pc' := 1298) (v := 2) kc_196_1297 rfl rfl ?_
              refine xi_ialoadO (pc' := 1299) (v := a2) kc_196_1298 rfl (by decide) hov0 (xi_in (n := 6) (by decide) (by decide)) rfl ?_
              refine xi_aload_n (pc' := 1300) (x := 1000000) kc_196_1299 rfl rfl ?_
              refine xi_iload (pc' := 1302) (x := 0) kc_196_1300 rfl rfl ?_
              refine xi_iconst (pc' := 1303) (v := 3) kc_196_1302 rfl rfl ?_
              refine xi_iadd (pc' := 1304) (v := 3) kc_196_1303 rfl rfl ?_
              refine xi_ialoadO (pc' := 1305) (v := a3) kc_196_1304 rfl (by decide) hov0 (xi_in (n := 6) (by decide) (by decide)) rfl ?_
              refine xi_aload_n (pc' := 1306) (x := 1000000) kc_196_1305 rfl rfl ?_
              refine xi_iload (pc' := 1308) (x := 0) kc_196_1306 rfl rfl ?_
              refine xi_iconst (pc' := 1309) (v := 4) kc_196_1308 rfl rfl ?_
              refine xi_iadd (pc' := 1310) (v := 4) kc_196_1309 rfl rfl ?_
              refine xi_ialoadO (pc' := 1311) (v := a4) kc_196_1310 rfl (by decide) hov0 (xi_in (n := 6) (by decide) (by decide)) rfl ?_
              refine xi_virtual (mj := 71) (as := [.int a1, .int a2, .int a3, .int a4]) (st1 := [.int (-4)]) (lv0 := [(0, .ref 115), (1, .int a1), (2, .int a2), (3, .int a3), (4, .int a4)]) kc_196_1311 rfl rfl rfl rfl rfl ((eh1.2.1 115 (by decide)).trans (F 115 _ hl_115)) (Nat.le_of_ble_eq_true rfl) (hJ _ _ _ _ (by decide)) (xm_le ml_71 rfl) rfl ?_
              refine xi_aload_n (pc' := 1) (x := 115) kc_71_0 rfl rfl ?_
              refine xi_iconst (pc' := 2) (v := 0) kc_71_1 rfl rfl ?_
              refine xi_putfield (pc' := 5) (fs' := [.int 0, .int 0, .ref 116, .ref 117, .ref 118, .ref 119, .ref 120, .ref 121, .ref 122, .ref 123, .ref 124, .ref 125, .ref 126, .ref 127, .ref 128, .ref 129, .int 4, .ref 130, .int 0, .ref 131, .ref 132, .ref 133, .ref 134, .int 0, .ref 135, .ref 136, .ref 137, .ref 138, .ref 139, .ref 140, .ref 141, .ref 142, .int 0, .int 0, .int 0, .ref 143, .ref 144, .ref 145, .ref 146, .ref 147, .ref 148, .int 0, .ref 149, .ref 150, .ref 151, .int 0, .ref 152, .ref 153, .ref 154, .ref 155, .ref 156, .ref 157, .ref 158, .ref 159, .int 0, .ref 160, .int 0, .ref 161, .ref 162, .ref 163, .ref 164, .int 0, .ref 165, .ref 166]) kc_71_2 rfl rfl rfl ((eh1.2.1 115 (by decide)).trans (F 115 _ hl_115)) rfl rfl rfl (Nat.le_of_ble_eq_true rfl) rfl (fun hh2 eh2 => ?_)
              refine xi_iload_n (pc' := 6) (x := a2) kc_71_5 rfl rfl ?_
              refine xi_iconst (pc' := 7) (v := 0) kc_71_6 rfl rfl ?_
              refine xi_iconst (pc' := 8) (v := 3) kc_71_7 rfl rfl ?_
              refine xi_static (mj := 12) (as := [.int a2, .int 0, .int 3]) (st1 := []) (lv0 := [(0, .int a2), (1, .int 0), (2, .int 3)]) kc_71_8 rfl rfl (Nat.le_of_ble_eq_true rfl) rfl rfl (Nat.le_of_ble_eq_true rfl) (hJ _ _ _ _ (by decide)) (xm_le ml_12 rfl) rfl ?_
              refine xi_iload_n (pc' := 1) (x := a2) kc_12_0 rfl rfl ?_
              refine xi_iload_n (pc' := 2) (x := 0) kc_12_1 rfl rfl ?_
              refine xi_cmf (pc' := 5) kc_12_2 rfl (xc_lt_f (X := a2.toInt) (Y := 0) rfl (by decide) (by omega)) ?_
              refine xi_iload_n (pc' := 6) (x := a2) kc_12_5 rfl rfl ?_
              refine xi_iload_n (pc' := 7) (x := 3) kc_12_6 rfl rfl ?_
              refine xi_cmf (pc' := 10) kc_12_7 rfl (xc_gt_f (X := a2.toInt) (Y := 3) rfl (by decide) (by omega)) ?_
              refine xi_iconst (pc' := 11) (v := 1) kc_12_10 rfl rfl ?_
              refine xi_goto (pc' := 15) kc_12_11 rfl ?_
              refine xi_ireturn kc_12_15 mr_12 rfl ?_
              show xw J ov 99 71 (11, [(0, .ref 115), (1, .int a1), (2, .int a2), (3, .int a3), (4, .int a4)], [.int 1], hh2) _
              refine xi_iff (pc' := 14) kc_71_11 rfl rfl ?_
              refine xi_iload_n (pc' := 15) (x := a3) kc_71_14 rfl rfl ?_
              refine xi_iconst (pc' := 16) (v := 0) kc_71_15 rfl rfl ?_
              refine xi_iconst (pc' := 17) (v := 1) kc_71_16 rfl rfl ?_
              refine xi_static (mj := 12) (as := [.int a3, .int 0, .int 1]) (st1 := []) (lv0 := [(0, .int a3), (1, .int 0), (2, .int 1)]) kc_71_17 rfl rfl (Nat.le_of_ble_eq_true rfl) rfl rfl (Nat.le_of_ble_eq_true rfl) (hJ _ _ _ _ (by decide)) (xm_le ml_12 rfl) rfl ?_
              refine xi_iload_n (pc' := 1) (x := a3) kc_12_0 rfl rfl ?_
              refine xi_iload_n (pc' := 2) (x := 0) kc_12_1 rfl rfl ?_
              refine xi_cmf (pc' := 5) kc_12_2 rfl (xc_lt_f (X := a3.toInt) (Y := 0) rfl (by decide) (by omega)) ?_
              refine xi_iload_n (pc' := 6) (x := a3) kc_12_5 rfl rfl ?_
              refine xi_iload_n (pc' := 7) (x := 1) kc_12_6 rfl rfl ?_
              refine xi_cmf (pc' := 10) kc_12_7 rfl (xc_gt_f (X := a3.toInt) (Y := 1) rfl (by decide) (by omega)) ?_
              refine xi_iconst (pc' := 11) (v := 1) kc_12_10 rfl rfl ?_
              refine xi_goto (pc' := 15) kc_12_11 rfl ?_
              refine xi_ireturn kc_12_15 mr_12 rfl ?_
              show xw J ov 99 71 (20, [(0, .ref 115), (1, .int a1), (2, .int a2), (3, .int a3), (4, .int a4)], [.int 1], hh2) _
              refine xi_ift (pc' := 30) kc_71_20 rfl rfl ?_
              refine xi_iload_n (pc' := 31) (x := a1) kc_71_30 rfl rfl ?_
              refine xi_aload_n (pc' := 32) (x := 115) kc_71_31 rfl rfl ?_
              refine xi_getfield (pc' := 35) (v := .int 0) kc_71_32 rfl rfl rfl eh2.1 rfl ?_
              refine xi_bipush (pc' := 37) (v := 24) kc_71_35 rfl rfl ?_
              refine xi_idiv (pc' := 38) (v := 0) kc_71_37 rfl rfl (by decide) ?_
              refine xi_cmf (pc' := 41) kc_71_38 rfl (xc_lt_f (X := a1.toInt) (Y := 0) rfl (by decide) (by omega)) ?_
              refine xi_iload (pc' := 43) (x := a4) kc_71_41 rfl rfl ?_
              refine xi_iff (pc' := 46) kc_71_43 rfl (xc_ge_f (X := a4.toInt) (Y := 0) rfl (by decide) (by omega)) ?_
              refine xi_aload_n (pc' := 47) (x := 115) kc_71_46 rfl rfl ?_
              refine xi_bipush (pc' := 49) (v := (-4)) kc_71_47 rfl rfl ?_
              refine xi_virtual (mj := 13) (as := [.int (-4)]) (st1 := []) (lv0 := [(0, .ref 115), (1, .int (-4))]) kc_71_49 rfl rfl rfl rfl rfl eh2.1 (Nat.le_of_ble_eq_true rfl) (hJ _ _ _ _ (by decide)) (xm_le ml_13 rfl) rfl ?_
              refine xi_aload_n (pc' := 1) (x := 115) kc_13_0 rfl rfl ?_
              refine xi_getfield (pc' := 4) (v := .ref 140) kc_13_1 rfl rfl rfl eh2.1 rfl ?_
              refine xi_iload_n (pc' := 5) (x := (-4)) kc_13_4 rfl rfl ?_
              refine xi_ineg (pc' := 6) (v := 4) kc_13_5 rfl rfl ?_
              refine xi_dup2 (pc' := 7) kc_13_6 rfl ⟨rfl, rfl⟩ ?_
              refine xi_iaload (pc' := 8) (v := 0) kc_13_7 rfl ((eh2.2.1 140 (by decide)).trans ((eh1.2.1 140 (by decide)).trans (F 140 _ hl_140))) (by decide) rfl (xi_in (n := 7) (by decide) (by decide)) rfl ?_
              refine xi_iconst (pc' := 9) (v := 1) kc_13_8 rfl rfl ?_
              refine xi_iadd (pc' := 10) (v := 1) kc_13_9 rfl rfl ?_
              refine xi_iastore (pc' := 11) (x' := [0, 0, 0, 0, 1, 0, 0]) kc_13_10 rfl ((eh2.2.1 140 (by decide)).trans ((eh1.2.1 140 (by decide)).trans (F 140 _ hl_140))) rfl (xi_in (n := 7) (by decide) (by decide)) rfl (fun hh3 eh3 => ?_)
              refine xi_iload_n (pc' := 12) (x := (-4)) kc_13_11 rfl rfl ?_
              refine xi_ireturn kc_13_12 mr_13 rfl ?_
              show xw J ov 99 71 (52, [(0, .ref 115), (1, .int a1), (2, .int a2), (3, .int a3), (4, .int a4)], [.int (-4)], hh3) _
              refine xi_ireturn kc_71_52 mr_71 rfl ?_
              show xw J ov 100 196 (1314, [(4, .int 0), (3, .ref 167), (2, .ref 115), (1, .ref 0), (0, .ref 1000000)], [.int (-4), .int (-4)], hh3) _
              refine xi_cmt (pc' := 1528) kc_196_1314 rfl rfl ?_
              refine xi_iinc (pc' := 1531) (x := 0) (v := 6) (lv' := [(4, .int 6), (3, .ref 167), (2, .ref 115), (1, .ref 0), (0, .ref 1000000)]) kc_196_1528 rfl rfl rfl rfl (xm_lt ml_196 rfl) ?_
              refine xi_goto (pc' := 23) kc_196_1531 rfl ?_
              refine xi_iload (pc' := 25) (x := 6) kc_196_23 rfl rfl ?_
              refine xi_aload_n (pc' := 26) (x := 1000000) kc_196_25 rfl rfl ?_
              refine xi_arraylength (pc' := 27) (n := 6) (v := 6) kc_196_26 rfl (xl_lenO (by decide) hov0 rfl) rfl ?_
              refine xi_bipush (pc' := 29) (v := 6) kc_196_27 rfl rfl ?_
              refine xi_isub (pc' := 30) (v := 0) kc_196_29 rfl rfl ?_
              refine xi_cmt (pc' := 1534) kc_196_30 rfl rfl ?_
              refine xi_iconst (pc' := 1535) (v := 1) kc_196_1534 rfl rfl ?_
              refine xi_ireturn kc_196_1535 mr_196 rfl ?_
              refine ⟨rfl, ?_, ?_⟩
              · rw [eh3.2.2.1, eh2.2.2.1, eh1.2.2.1]; exact hn0
              · rw [eh3.2.2.2, eh2.2.2.2, eh1.2.2.2]; exact hz0
        · refine xi_cmf (pc' := 16) kc_178_13 rfl (xc_le_f (X := a3.toInt) (Y := 1) rfl (by decide) (by omega)) ?_
          refine xi_aload_n (pc' := 17) (x := 0) kc_178_16 rfl rfl ?_
          refine xi_bipush (pc' := 19) (v := (-2)) kc_178_17 rfl rfl ?_
          refine xi_virtual (mj := 91) (as := [.int (-2)]) (st1 := []) (lv0 := [(0, .ref 0), (1, .int (-2))]) kc_178_19 rfl rfl rfl rfl rfl (F 0 _ hl_0) (Nat.le_of_ble_eq_true rfl) (hJ _ _ _ _ (by decide)) (xm_le ml_91 rfl) rfl ?_
          refine xi_iload_n (pc' := 1) (x := (-2)) kc_91_0 rfl rfl ?_
          refine xi_ineg (pc' := 2) (v := 2) kc_91_1 rfl rfl ?_
          refine xi_istore_n (pc' := 3) (lv' := [(2, .int 2), (0, .ref 0), (1, .int (-2))]) kc_91_2 rfl rfl (xm_lt ml_91 rfl) ?_
          refine xi_iload_n (pc' := 4) (x := 2) kc_91_3 rfl rfl ?_
          refine xi_iff (pc' := 7) kc_91_4 rfl rfl ?_
          refine xi_iload_n (pc' := 8) (x := 2) kc_91_7 rfl rfl ?_
          refine xi_aload_n (pc' := 9) (x := 0) kc_91_8 rfl rfl ?_
          refine xi_getfield (pc' := 12) (v := .ref 94) kc_91_9 rfl rfl rfl (F 0 _ hl_0) rfl ?_
          refine xi_arraylength (pc' := 13) (n := 7) (v := 7) kc_91_12 rfl (xl_lenI (by decide) (by decide) (F 94 _ hl_94) (by simp only [List.length_replicate, List.length_cons, List.length_nil])) rfl ?_
          refine xi_cmf (pc' := 16) kc_91_13 rfl rfl ?_
          refine xi_aload_n (pc' := 17) (x := 0) kc_91_16 rfl rfl ?_
          refine xi_getfield (pc' := 20) (v := .ref 94) kc_91_17 rfl rfl rfl (F 0 _ hl_0) rfl ?_
          refine xi_iload_n (pc' := 21) (x := 2) kc_91_20 rfl rfl ?_
          refine xi_dup2 (pc' := 22) kc_91_21 rfl ⟨rfl, rfl⟩ ?_
          refine xi_iaload (pc' := 23) (v := 0) kc_91_22 rfl (F 94 _ hl_94) (by decide) rfl (xi_in (n := 7) (by decide) (by decide)) rfl ?_
          refine xi_iconst (pc' := 24) (v := 1) kc_91_23 rfl rfl ?_
          refine xi_iadd (pc' := 25) (v := 1) kc_91_24 rfl rfl ?_
          refine xi_iastore (pc' := 26) (x' := [0, 0, 1, 0, 0, 0, 0]) kc_91_25 rfl (F 94 _ hl_94) rfl (xi_in (n := 7) (by decide) (by decide)) rfl (fun hh1 eh1 => ?_)
          refine xi_iload_n (pc' := 27) (x := (-2)) kc_91_26 rfl rfl ?_
          refine xi_ireturn kc_91_27 mr_91 rfl ?_
          show xw J ov 99 178 (22, [(0, .ref 0), (1, .int a1), (2, .int a2), (3, .int a3), (4, .int a4)], [.int (-2)], hh1) _
          refine xi_ireturn kc_178_22 mr_178 rfl ?_
          show xw J ov 100 196 (1286, [(4, .int 0), (3, .ref 167), (2, .ref 115), (1, .ref 0), (0, .ref 1000000)], [.int (-2)], hh1) _
          refine xi_aload_n (pc' := 1287) (x := 115) kc_196_1286 rfl rfl ?_
          refine xi_aload_n (pc' := 1288) (x := 1000000) kc_196_1287 rfl rfl ?_
          refine xi_iload (pc' := 1290) (x := 0) kc_196_1288 rfl rfl ?_
          refine xi_iconst (pc' := 1291) (v := 1) kc_196_1290 rfl rfl ?_
          refine xi_iadd (pc' := 1292) (v := 1) kc_196_1291 rfl rfl ?_
          refine xi_ialoadO (pc' := 1293) (v := a1) kc_196_1292 rfl (by decide) hov0 (xi_in (n := 6) (by decide) (by decide)) rfl ?_
          refine xi_aload_n (pc' := 1294) (x := 1000000) kc_196_1293 rfl rfl ?_
          refine xi_iload (pc' := 1296) (x := 0) kc_196_1294 rfl rfl ?_
          refine xi_iconst (pc' := 1297) (v := 2) kc_196_1296 rfl rfl ?_
          refine xi_iadd (pc' := 1298) (v := 2) kc_196_1297 rfl rfl ?_
          refine xi_ialoadO (pc' := 1299) (v := a2) kc_196_1298 rfl (by decide) hov0 (xi_in (n := 6) (by decide) (by decide)) rfl ?_
          refine xi_aload_n (pc' := 1300) (x := 1000000) kc_196_1299 rfl rfl ?_
          refine xi_iload (pc' := 1302) (x := 0) kc_196_1300 rfl rfl ?_
          refine xi_iconst (pc' := 1303) (v := 3) kc_196_1302 rfl rfl ?_
          refine xi_iadd (pc' := 1304) (v := 3) kc_196_1303 rfl rfl ?_
          refine xi_ialoadO (pc' := 1305) (v := a3) kc_196_1304 rfl (by decide) hov0 (xi_in (n := 6) (by decide) (by decide)) rfl ?_
          refine xi_aload_n (pc' := 1306) (x := 1000000) kc_196_1305 rfl rfl ?_
          refine xi_iload (pc' := 1308) (x := 0) kc_196_1306 rfl rfl ?_
          refine xi_iconst (pc' := 1309) (v := 4) kc_196_1308 rfl rfl ?_
          refine xi_iadd (pc' := 1310) (v := 4) kc_196_1309 rfl rfl ?_
          refine xi_ialoadO (pc' := 1311) (v := a4) kc_196_1310 rfl (by decide) hov0 (xi_in (n := 6) (by decide) (by decide)) rfl ?_
          refine xi_virtual (mj := 71) (as := [.int a1, .int a2, .int a3, .int a4]) (st1 := [.int (-2)]) (lv0 := [(0, .ref 115), (1, .int a1), (2, .int a2), (3, .int a3), (4, .int a4)]) kc_196_1311 rfl rfl rfl rfl rfl ((eh1.2.1 115 (by decide)).trans (F 115 _ hl_115)) (Nat.le_of_ble_eq_true rfl) (hJ _ _ _ _ (by decide)) (xm_le ml_71 rfl) rfl ?_
          refine xi_aload_n (pc' := 1) (x := 115) kc_71_0 rfl rfl ?_
          refine xi_iconst (pc' := 2) (v := 0) kc_71_1 rfl rfl ?_
          refine xi_putfield (pc' := 5) (fs' := [.int 0, .int 0, .ref 116, .ref 117, .ref 118, .ref 119, .ref 120, .ref 121, .ref 122, .ref 123, .ref 124, .ref 125, .ref 126, .ref 127, .ref 128, .ref 129, .int 4, .ref 130, .int 0, .ref 131, .ref 132, .ref 133, .ref 134, .int 0, .ref 135, .ref 136, .ref 137, .ref 138, .ref 139, .ref 140, .ref 141, .ref 142, .int 0, .int 0, .int 0, .ref 143, .ref 144, .ref 145, .ref 146, .ref 147, .ref 148, .int 0, .ref 149, .ref 150, .ref 151, .int 0, .ref 152, .ref 153, .ref 154, .ref 155, .ref 156, .ref 157, .ref 158, .ref 159, .int 0, .ref 160, .int 0, .ref 161, .ref 162, .ref 163, .ref 164, .int 0, .ref 165, .ref 166]) kc_71_2 rfl rfl rfl ((eh1.2.1 115 (by decide)).trans (F 115 _ hl_115)) rfl rfl rfl (Nat.le_of_ble_eq_true rfl) rfl (fun hh2 eh2 => ?_)
          refine xi_iload_n (pc' := 6) (x := a2) kc_71_5 rfl rfl ?_
          refine xi_iconst (pc' := 7) (v := 0) kc_71_6 rfl rfl ?_
          refine xi_iconst (pc' := 8) (v := 3) kc_71_7 rfl rfl ?_
          refine xi_static (mj := 12) (as := [.int a2, .int 0, .int 3]) (st1 := []) (lv0 := [(0, .int a2), (1, .int 0), (2, .int 3)]) kc_71_8 rfl rfl (Nat.le_of_ble_eq_true rfl) rfl rfl (Nat.le_of_ble_eq_true rfl) (hJ _ _ _ _ (by decide)) (xm_le ml_12 rfl) rfl ?_
          refine xi_iload_n (pc' := 1) (x := a2) kc_12_0 rfl rfl ?_
          refine xi_iload_n (pc' := 2) (x := 0) kc_12_1 rfl rfl ?_
          refine xi_cmf (pc' := 5) kc_12_2 rfl (xc_lt_f (X := a2.toInt) (Y := 0) rfl (by decide) (by omega)) ?_
          refine xi_iload_n (pc' := 6) (x := a2) kc_12_5 rfl rfl ?_
          refine xi_iload_n (pc' := 7) (x := 3) kc_12_6 rfl rfl ?_
          refine xi_cmf (pc' := 10) kc_12_7 rfl (xc_gt_f (X := a2.toInt) (Y := 3) rfl (by decide) (by omega)) ?_
          refine xi_iconst (pc' := 11) (v := 1) kc_12_10 rfl rfl ?_
          refine xi_goto (pc' := 15) kc_12_11 rfl ?_
          refine xi_ireturn kc_12_15 mr_12 rfl ?_
          show xw J ov 99 71 (11, [(0, .ref 115), (1, .int a1), (2, .int a2), (3, .int a3), (4, .int a4)], [.int 1], hh2) _
          refine xi_iff (pc' := 14) kc_71_11 rfl rfl ?_
          refine xi_iload_n (pc' := 15) (x := a3) kc_71_14 rfl rfl ?_
          refine xi_iconst (pc' := 16) (v := 0) kc_71_15 rfl rfl ?_
          refine xi_iconst (pc' := 17) (v := 1) kc_71_16 rfl rfl ?_
          refine xi_static (mj := 12) (as := [.int a3, .int 0, .int 1]) (st1 := []) (lv0 := [(0, .int a3), (1, .int 0), (2, .int 1)]) kc_71_17 rfl rfl (Nat.le_of_ble_eq_true rfl) rfl rfl (Nat.le_of_ble_eq_true rfl) (hJ _ _ _ _ (by decide)) (xm_le ml_12 rfl) rfl ?_
          refine xi_iload_n (pc' := 1) (x := a3) kc_12_0 rfl rfl ?_
          refine xi_iload_n (pc' := 2) (x := 0) kc_12_1 rfl rfl ?_
          refine xi_cmf (pc' := 5) kc_12_2 rfl (xc_lt_f (X := a3.toInt) (Y := 0) rfl (by decide) (by omega)) ?_
          refine xi_iload_n (pc' := 6) (x := a3) kc_12_5 rfl rfl ?_
          refine xi_iload_n (pc' := 7) (x := 1) kc_12_6 rfl rfl ?_
          refine xi_cmt (pc' := 14) kc_12_7 rfl (xc_gt_t (X := a3.toInt) (Y := 1) rfl (by decide) (by omega)) ?_
          refine xi_iconst (pc' := 15) (v := 0) kc_12_14 rfl rfl ?_
          refine xi_ireturn kc_12_15 mr_12 rfl ?_
          show xw J ov 99 71 (20, [(0, .ref 115), (1, .int a1), (2, .int a2), (3, .int a3), (4, .int a4)], [.int 0], hh2) _
          refine xi_iff (pc' := 23) kc_71_20 rfl rfl ?_
          refine xi_aload_n (pc' := 24) (x := 115) kc_71_23 rfl rfl ?_
          refine xi_bipush (pc' := 26) (v := (-2)) kc_71_24 rfl rfl ?_
          refine xi_virtual (mj := 13) (as := [.int (-2)]) (st1 := []) (lv0 := [(0, .ref 115), (1, .int (-2))]) kc_71_26 rfl rfl rfl rfl rfl eh2.1 (Nat.le_of_ble_eq_true rfl) (hJ _ _ _ _ (by decide)) (xm_le ml_13 rfl) rfl ?_
          refine xi_aload_n (pc' := 1) (x := 115) kc_13_0 rfl rfl ?_
          refine xi_getfield (pc' := 4) (v := .ref 140) kc_13_1 rfl rfl rfl eh2.1 rfl ?_
          refine xi_iload_n (pc' := 5) (x := (-2)) kc_13_4 rfl rfl ?_
          refine xi_ineg (pc' := 6) (v := 2) kc_13_5 rfl rfl ?_
          refine xi_dup2 (pc' := 7) kc_13_6 rfl ⟨rfl, rfl⟩ ?_
          refine xi_iaload (pc' := 8) (v := 0) kc_13_7 rfl ((eh2.2.1 140 (by decide)).trans ((eh1.2.1 140 (by decide)).trans (F 140 _ hl_140))) (by decide) rfl (xi_in (n := 7) (by decide) (by decide)) rfl ?_
          refine xi_iconst (pc' := 9) (v := 1) kc_13_8 rfl rfl ?_
          refine xi_iadd (pc' := 10) (v := 1) kc_13_9 rfl rfl ?_
          refine xi_iastore (pc' := 11) (x' := [0, 0, 1, 0, 0, 0, 0]) kc_13_10 rfl ((eh2.2.1 140 (by decide)).trans ((eh1.2.1 140 (by decide)).trans (F 140 _ hl_140))) rfl (xi_in (n := 7) (by decide) (by decide)) rfl (fun hh3 eh3 => ?_)
          refine xi_iload_n (pc' := 12) (x := (-2)) kc_13_11 rfl rfl ?_
          refine xi_ireturn kc_13_12 mr_13 rfl ?_
          show xw J ov 99 71 (29, [(0, .ref 115), (1, .int a1), (2, .int a2), (3, .int a3), (4, .int a4)], [.int (-2)], hh3) _
          refine xi_ireturn kc_71_29 mr_71 rfl ?_
          show xw J ov 100 196 (1314, [(4, .int 0), (3, .ref 167), (2, .ref 115), (1, .ref 0), (0, .ref 1000000)], [.int (-2), .int (-2)], hh3) _
          refine xi_cmt (pc' := 1528) kc_196_1314 rfl rfl ?_
          refine xi_iinc (pc' := 1531) (x := 0) (v := 6) (lv' := [(4, .int 6), (3, .ref 167), (2, .ref 115), (1, .ref 0), (0, .ref 1000000)]) kc_196_1528 rfl rfl rfl rfl (xm_lt ml_196 rfl) ?_
          refine xi_goto (pc' := 23) kc_196_1531 rfl ?_
          refine xi_iload (pc' := 25) (x := 6) kc_196_23 rfl rfl ?_
          refine xi_aload_n (pc' := 26) (x := 1000000) kc_196_25 rfl rfl ?_
          refine xi_arraylength (pc' := 27) (n := 6) (v := 6) kc_196_26 rfl (xl_lenO (by decide) hov0 rfl) rfl ?_
          refine xi_bipush (pc' := 29) (v := 6) kc_196_27 rfl rfl ?_
          refine xi_isub (pc' := 30) (v := 0) kc_196_29 rfl rfl ?_
          refine xi_cmt (pc' := 1534) kc_196_30 rfl rfl ?_
          refine xi_iconst (pc' := 1535) (v := 1) kc_196_1534 rfl rfl ?_
          refine xi_ireturn kc_196_1535 mr_196 rfl ?_
          refine ⟨rfl, ?_, ?_⟩
          · rw [eh3.2.2.1, eh2.2.2.1, eh1.2.2.1]; exact hn0
          · rw [eh3.2.2.2, eh2.2.2.2, eh1.2.2.2]; exact hz0
