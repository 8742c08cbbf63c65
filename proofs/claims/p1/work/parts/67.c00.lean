set_option maxHeartbeats 8000000 in
theorem lc_0 {J : xe_J} {ov : List (List Int32)} (hJ : ∀ d mj as h, mj ≠ xe_loff → J d mj as h = none) {a0 a1 a2 a3 a4 a5 : Int32} (hov0 : ov[0]? = some [a0, a1, a2, a3, a4, a5]) (hov1 : ov[1]? = some [10, 0, 0, 0, 0, 0]) (hov2 : ov[2]? = some [99, 30, 50, 50, 1, 99999]) {h0 : xe_H} (F : xf_fr h0) (hn0 : h0.length ≤ 600002) (hz0 : xe_sz h0 ≤ 7302232) : xw J ov 100 196 (192, [(4, .int 0), (3, .ref 167), (2, .ref 115), (1, .ref 0), (0, .ref 1000000)], [], h0) xf_Q := by
  have rr1 := xc_rng a1
  have rr2 := xc_rng a2
  have rr3 := xc_rng a3
  have rr4 := xc_rng a4
  have rr5 := xc_rng a5
  refine xi_aload_n (pc' := 193) (x := 0) kc_196_192 rfl rfl ?_
  refine xi_aload_n (pc' := 194) (x := 1000000) kc_196_193 rfl rfl ?_
  refine xi_iload (pc' := 196) (x := 0) kc_196_194 rfl rfl ?_
  refine xi_iconst (pc' := 197) (v := 1) kc_196_196 rfl rfl ?_
  refine xi_iadd (pc' := 198) (v := 1) kc_196_197 rfl rfl ?_
  refine xi_ialoadO (pc' := 199) (v := a1) kc_196_198 rfl (by decide) hov0 (xi_in (n := 6) (by decide) (by decide)) rfl ?_
  refine xi_aload_n (pc' := 200) (x := 1000000) kc_196_199 rfl rfl ?_
  refine xi_iload (pc' := 202) (x := 0) kc_196_200 rfl rfl ?_
  refine xi_iconst (pc' := 203) (v := 2) kc_196_202 rfl rfl ?_
  refine xi_iadd (pc' := 204) (v := 2) kc_196_203 rfl rfl ?_
  refine xi_ialoadO (pc' := 205) (v := a2) kc_196_204 rfl (by decide) hov0 (xi_in (n := 6) (by decide) (by decide)) rfl ?_
  refine xi_aload_n (pc' := 206) (x := 1000000) kc_196_205 rfl rfl ?_
  refine xi_iload (pc' := 208) (x := 0) kc_196_206 rfl rfl ?_
  refine xi_iconst (pc' := 209) (v := 3) kc_196_208 rfl rfl ?_
  refine xi_iadd (pc' := 210) (v := 3) kc_196_209 rfl rfl ?_
  refine xi_ialoadO (pc' := 211) (v := a3) kc_196_210 rfl (by decide) hov0 (xi_in (n := 6) (by decide) (by decide)) rfl ?_
  refine xi_virtual (mj := 89) (as := [.int a1, .int a2, .int a3]) (st1 := []) (lv0 := [(0, .ref 0), (1, .int a1), (2, .int a2), (3, .int a3)]) kc_196_211 rfl rfl rfl rfl rfl (F 0 _ hl_0) (Nat.le_of_ble_eq_true rfl) (hJ _ _ _ _ (by decide)) (xm_le ml_89 rfl) rfl ?_
  refine xi_iload_n (pc' := 1) (x := a1) kc_89_0 rfl rfl ?_
  refine xi_static (mj := 90) (as := [.int a1]) (st1 := []) (lv0 := [(0, .int a1)]) kc_89_1 rfl rfl (Nat.le_of_ble_eq_true rfl) rfl rfl (Nat.le_of_ble_eq_true rfl) (hJ _ _ _ _ (by decide)) (xm_le ml_90 rfl) rfl ?_
  refine xi_iload_n (pc' := 1) (x := a1) kc_90_0 rfl rfl ?_
  by_cases c1 : a1.toInt < 0
  · refine xi_ift (pc' := 14) kc_90_1 rfl (xc_lt_t (X := a1.toInt) (Y := 0) rfl (by decide) (by omega)) ?_
    refine xi_iconst (pc' := 15) (v := 0) kc_90_14 rfl rfl ?_
    refine xi_ireturn kc_90_15 mr_90 rfl ?_
    show xw J ov 99 89 (4, [(0, .ref 0), (1, .int a1), (2, .int a2), (3, .int a3)], [.int 0], h0) _
    refine xi_iff (pc' := 7) kc_89_4 rfl rfl ?_
    refine xi_aload_n (pc' := 8) (x := 0) kc_89_7 rfl rfl ?_
    refine xi_iconst (pc' := 9) (v := (-1)) kc_89_8 rfl rfl ?_
    refine xi_virtual (mj := 91) (as := [.int (-1)]) (st1 := []) (lv0 := [(0, .ref 0), (1, .int (-1))]) kc_89_9 rfl rfl rfl rfl rfl (F 0 _ hl_0) (Nat.le_of_ble_eq_true rfl) (hJ _ _ _ _ (by decide)) (xm_le ml_91 rfl) rfl ?_
    refine xi_iload_n (pc' := 1) (x := (-1)) kc_91_0 rfl rfl ?_
    refine xi_ineg (pc' := 2) (v := 1) kc_91_1 rfl rfl ?_
    refine xi_istore_n (pc' := 3) (lv' := [(2, .int 1), (0, .ref 0), (1, .int (-1))]) kc_91_2 rfl rfl (xm_lt ml_91 rfl) ?_
    refine xi_iload_n (pc' := 4) (x := 1) kc_91_3 rfl rfl ?_
    refine xi_iff (pc' := 7) kc_91_4 rfl rfl ?_
    refine xi_iload_n (pc' := 8) (x := 1) kc_91_7 rfl rfl ?_
    refine xi_aload_n (pc' := 9) (x := 0) kc_91_8 rfl rfl ?_
    refine xi_getfield (pc' := 12) (v := .ref 94) kc_91_9 rfl rfl rfl (F 0 _ hl_0) rfl ?_
    refine xi_arraylength (pc' := 13) (n := 7) (v := 7) kc_91_12 rfl (xl_lenI (by decide) (by decide) (F 94 _ hl_94) (by simp only [List.length_replicate, List.length_cons, List.length_nil])) rfl ?_
    refine xi_cmf (pc' := 16) kc_91_13 rfl rfl ?_
    refine xi_aload_n (pc' := 17) (x := 0) kc_91_16 rfl rfl ?_
    refine xi_getfield (pc' := 20) (v := .ref 94) kc_91_17 rfl rfl rfl (F 0 _ hl_0) rfl ?_
    refine xi_iload_n (pc' := 21) (x := 1) kc_91_20 rfl rfl ?_
    refine xi_dup2 (pc' := 22) kc_91_21 rfl ⟨rfl, rfl⟩ ?_
    refine xi_iaload (pc' := 23) (v := 0) kc_91_22 rfl (F 94 _ hl_94) (by decide) rfl (xi_in (n := 7) (by decide) (by decide)) rfl ?_
    refine xi_iconst (pc' := 24) (v := 1) kc_91_23 rfl rfl ?_
    refine xi_iadd (pc' := 25) (v := 1) kc_91_24 rfl rfl ?_
    refine xi_iastore (pc' := 26) (x' := [0, 1, 0, 0, 0, 0, 0]) kc_91_25 rfl (F 94 _ hl_94) rfl (xi_in (n := 7) (by decide) (by decide)) rfl (fun hh1 eh1 => ?_)
    refine xi_iload_n (pc' := 27) (x := (-1)) kc_91_26 rfl rfl ?_
    refine xi_ireturn kc_91_27 mr_91 rfl ?_
    show xw J ov 99 89 (12, [(0, .ref 0), (1, .int a1), (2, .int a2), (3, .int a3)], [.int (-1)], hh1) _
    refine xi_ireturn kc_89_12 mr_89 rfl ?_
    show xw J ov 100 196 (214, [(4, .int 0), (3, .ref 167), (2, .ref 115), (1, .ref 0), (0, .ref 1000000)], [.int (-1)], hh1) _
    refine xi_aload_n (pc' := 215) (x := 115) kc_196_214 rfl rfl ?_
    refine xi_aload_n (pc' := 216) (x := 1000000) kc_196_215 rfl rfl ?_
    refine xi_iload (pc' := 218) (x := 0) kc_196_216 rfl rfl ?_
    refine xi_iconst (pc' := 219) (v := 1) kc_196_218 rfl rfl ?_
    refine xi_iadd (pc' := 220) (v := 1) kc_196_219 rfl rfl ?_
    refine xi_ialoadO (pc' := 221) (v := a1) kc_196_220 rfl (by decide) hov0 (xi_in (n := 6) (by decide) (by decide)) rfl ?_
    refine xi_aload_n (pc' := 222) (x := 1000000) kc_196_221 rfl rfl ?_
    refine xi_iload (pc' := 224) (x := 0) kc_196_222 rfl rfl ?_
    refine xi_iconst (pc' := 225) (v := 2) kc_196_224 rfl rfl ?_
    refine xi_iadd (pc' := 226) (v := 2) kc_196_225 rfl rfl ?_
    refine xi_ialoadO (pc' := 227) (v := a2) kc_196_226 rfl (by decide) hov0 (xi_in (n := 6) (by decide) (by decide)) rfl ?_
    refine xi_aload_n (pc' := 228) (x := 1000000) kc_196_227 rfl rfl ?_
    refine xi_iload (pc' := 230) (x := 0) kc_196_228 rfl rfl ?_
    refine xi_iconst (pc' := 231) (v := 3) kc_196_230 rfl rfl ?_
    refine xi_iadd (pc' := 232) (v := 3) kc_196_231 rfl rfl ?_
    refine xi_ialoadO (pc' := 233) (v := a3) kc_196_232 rfl (by decide) hov0 (xi_in (n := 6) (by decide) (by decide)) rfl ?_
    refine xi_virtual (mj := 10) (as := [.int a1, .int a2, .int a3]) (st1 := [.int (-1)]) (lv0 := [(0, .ref 115), (1, .int a1), (2, .int a2), (3, .int a3)]) kc_196_233 rfl rfl rfl rfl rfl ((eh1.2.1 115 (by decide)).trans (F 115 _ hl_115)) (Nat.le_of_ble_eq_true rfl) (hJ _ _ _ _ (by decide)) (xm_le ml_10 rfl) rfl ?_
    refine xi_aload_n (pc' := 1) (x := 115) kc_10_0 rfl rfl ?_
    refine xi_iconst (pc' := 2) (v := 0) kc_10_1 rfl rfl ?_
    refine xi_putfield (pc' := 5) (fs' := [.int 0, .int 0, .ref 116, .ref 117, .ref 118, .ref 119, .ref 120, .ref 121, .ref 122, .ref 123, .ref 124, .ref 125, .ref 126, .ref 127, .ref 128, .ref 129, .int 4, .ref 130, .int 0, .ref 131, .ref 132, .ref 133, .ref 134, .int 0, .ref 135, .ref 136, .ref 137, .ref 138, .ref 139, .ref 140, .ref 141, .ref 142, .int 0, .int 0, .int 0, .ref 143, .ref 144, .ref 145, .ref 146, .ref 147, .ref 148, .int 0, .ref 149, .ref 150, .ref 151, .int 0, .ref 152, .ref 153, .ref 154, .ref 155, .ref 156, .ref 157, .ref 158, .ref 159, .int 0, .ref 160, .int 0, .ref 161, .ref 162, .ref 163, .ref 164, .int 0, .ref 165, .ref 166]) kc_10_2 rfl rfl rfl ((eh1.2.1 115 (by decide)).trans (F 115 _ hl_115)) rfl rfl rfl (Nat.le_of_ble_eq_true rfl) rfl (fun hh2 eh2 => ?_)
    refine xi_iload_n (pc' := 6) (x := a1) kc_10_5 rfl rfl ?_
    refine xi_static (mj := 11) (as := [.int a1]) (st1 := []) (lv0 := [(0, .int a1)]) kc_10_6 rfl rfl (Nat.le_of_ble_eq_true rfl) rfl rfl (Nat.le_of_ble_eq_true rfl) (hJ _ _ _ _ (by decide)) (xm_le ml_11 rfl) rfl ?_
    refine xi_iload_n (pc' := 1) (x := a1) kc_11_0 rfl rfl ?_
    refine xi_iconst (pc' := 2) (v := 0) kc_11_1 rfl rfl ?_
    refine xi_iconst (pc' := 3) (v := 5) kc_11_2 rfl rfl ?_
    refine xi_static (mj := 12) (as := [.int a1, .int 0, .int 5]) (st1 := []) (lv0 := [(0, .int a1), (1, .int 0), (2, .int 5)]) kc_11_3 rfl rfl (Nat.le_of_ble_eq_true rfl) rfl rfl (Nat.le_of_ble_eq_true rfl) (hJ _ _ _ _ (by decide)) (xm_le ml_12 rfl) rfl ?_
    refine xi_iload_n (pc' := 1) (x := a1) kc_12_0 rfl rfl ?_
    refine xi_iload_n (pc' := 2) (x := 0) kc_12_1 rfl rfl ?_
    refine xi_cmt (pc' := 14) kc_12_2 rfl (xc_lt_t (X := a1.toInt) (Y := 0) rfl (by decide) (by omega)) ?_
    refine xi_iconst (pc' := 15) (v := 0) kc_12_14 rfl rfl ?_
    refine xi_ireturn kc_12_15 mr_12 rfl ?_
    show xw J ov 98 11 (6, [(0, .int a1)], [.int 0], hh2) _
    refine xi_ireturn kc_11_6 mr_11 rfl ?_
    show xw J ov 99 10 (9, [(0, .ref 115), (1, .int a1), (2, .int a2), (3, .int a3)], [.int 0], hh2) _
    refine xi_iff (pc' := 12) kc_10_9 rfl rfl ?_
    refine xi_aload_n (pc' := 13) (x := 115) kc_10_12 rfl rfl ?_
    refine xi_iconst (pc' := 14) (v := (-1)) kc_10_13 rfl rfl ?_
    refine xi_virtual (mj := 13) (as := [.int (-1)]) (st1 := []) (lv0 := [(0, .ref 115), (1, .int (-1))]) kc_10_14 rfl rfl rfl rfl rfl eh2.1 (Nat.le_of_ble_eq_true rfl) (hJ _ _ _ _ (by decide)) (xm_le ml_13 rfl) rfl ?_
    refine xi_aload_n (pc' := 1) (x := 115) kc_13_0 rfl rfl ?_
    refine xi_getfield (pc' := 4) (v := .ref 140) kc_13_1 rfl rfl rfl eh2.1 rfl ?_
    refine xi_iload_n (pc' := 5) (x := (-1)) kc_13_4 rfl rfl ?_
    refine xi_ineg (pc' := 6) (v := 1) kc_13_5 rfl rfl ?_
    refine xi_dup2 (pc' := 7) kc_13_6 rfl ⟨rfl, rfl⟩ ?_
    refine xi_iaload (pc' := 8) (v := 0) kc_13_7 rfl ((eh2.2.1 140 (by decide)).trans ((eh1.2.1 140 (by decide)).trans (F 140 _ hl_140))) (by decide) rfl (xi_in (n := 7) (by decide) (by decide)) rfl ?_
    refine xi_iconst (pc' := 9) (v := 1) kc_13_8 rfl rfl ?_
    refine xi_iadd (pc' := 10) (v := 1) kc_13_9 rfl rfl ?_
    refine xi_iastore (pc' := 11) (x' := [0, 1, 0, 0, 0, 0, 0]) kc_13_10 rfl ((eh2.2.1 140 (by decide)).trans ((eh1.2.1 140 (by decide)).trans (F 140 _ hl_140))) rfl (xi_in (n := 7) (by decide) (by decide)) rfl (fun hh3 eh3 => ?_)
    refine xi_iload_n (pc' := 12) (x := (-1)) kc_13_11 rfl rfl ?_
    refine xi_ireturn kc_13_12 mr_13 rfl ?_
    show xw J ov 99 10 (17, [(0, .ref 115), (1, .int a1), (2, .int a2), (3, .int a3)], [.int (-1)], hh3) _
    refine xi_ireturn kc_10_17 mr_10 rfl ?_
    show xw J ov 100 196 (236, [(4, .int 0), (3, .ref 167), (2, .ref 115), (1, .ref 0), (0, .ref 1000000)], [.int (-1), .int (-1)], hh3) _
    refine xi_cmt (pc' := 1528) kc_196_236 rfl rfl ?_
    refine xi_iinc (pc' := 1531) (x := 0) (v := 6) (lv' := [(4, .int 6), (3, .ref 167), (2, .ref 115), (1, .ref 0), (0, .ref 1000000)]) kc_196_1528 rfl rfl rfl rfl (xm_lt ml_196 rfl) ?_
    refine xi_goto (pc' := 23) kc_196_1531 rfl ?_
    refine xi_iload (pc' := 25) (x := 6) kc_196_23 rfl rfl ?_
    refine xi_aload_n (pc' := 26) (x := 1000000) kc_196_25 rfl rfl ?_
    refine xi_arraylength (pc' := 27) (n := 6) (v := 6) kc_196_26 rfl (xl_lenO (by decide) hov0 rfl) rfl ?_
    refine xi_bipush (pc' := 29) (v := 6) kc_196_27 rfl rfl ?_
    refine xi_isub (pc' := 30) (v := 0) kc_196_29 rfl rfl ?_
    refine xi_cmt (pc' := 1534) kc_196_30 rfl rfl ?_
    refine xi_iconst (pc' := 1535) (v := 1) kc_196_1534 rfl rfl ?_
    refine xi_ireturn kc_196_1535 mr_196 rfl ?_
    refine ⟨rfl, ?_, ?_⟩
    · rw [eh3.2.2.1, eh2.2.2.1, eh1.2.2.1]; exact hn0
    · rw [eh3.2.2.2, eh2.2.2.2, eh1.2.2.2]; exact hz0
  · refine xi_iff (pc' := 4) kc_90_1 rfl (xc_lt_f (X := a1.toInt) (Y := 0) rfl (by decide) (by omega)) ?_
    refine xi_iload_n (pc' := 5) (x := a1) kc_90_4 rfl rfl ?_
    refine xi_bipush (pc' := 7) (v := 6) kc_90_5 rfl rfl ?_
    by_cases c2 : 6 ≤ a1.toInt
    · refine xi_cmt (pc' := 14) kc_90_7 rfl (xc_ge_t (X := a1.toInt) (Y := 6) rfl (by decide) (by omega)) ?_
      refine xi_iconst (pc' := 15) (v := 0) kc_90_14 rfl rfl ?_
      refine xi_ireturn kc_90_15 mr_90 rfl ?_
      show xw J ov 99 89 (4, [(0, .ref 0), (1, .int a1), (2, .int a2), (3, .int a3)], [.int 0], h0) _
      refine xi_iff (pc' := 7) kc_89_4 rfl rfl ?_
      refine xi_aload_n (pc' := 8) (x := 0) kc_89_7 rfl rfl ?_
      refine xi_iconst (pc' := 9) (v := (-1)) kc_89_8 rfl rfl ?_
      refine xi_virtual (mj := 91) (as := [.int (-1)]) (st1 := []) (lv0 := [(0, .ref 0), (1, .int (-1))]) kc_89_9 rfl rfl rfl rfl rfl (F 0 _ hl_0) (Nat.le_of_ble_eq_true rfl) (hJ _ _ _ _ (by decide)) (xm_le ml_91 rfl) rfl ?_
      refine xi_iload_n (pc' := 1) (x := (-1)) kc_91_0 rfl rfl ?_
      refine xi_ineg (pc' := 2) (v := 1) kc_91_1 rfl rfl ?_
      refine xi_istore_n (pc' := 3) (lv' := [(2, .int 1), (0, .ref 0), (1, .int (-1))]) kc_91_2 rfl rfl (xm_lt ml_91 rfl) ?_
      refine xi_iload_n (pc' := 4) (x := 1) kc_91_3 rfl rfl ?_
      refine xi_iff (pc' := 7) kc_91_4 rfl rfl ?_
      refine xi_iload_n (pc' := 8) (x := 1) kc_91_7 rfl rfl ?_
      refine xi_aload_n (pc' := 9) (x := 0) kc_91_8 rfl rfl ?_
      refine xi_getfield (pc' := 12) (v := .ref 94) kc_91_9 rfl rfl rfl (F 0 _ hl_0) rfl ?_
      refine xi_arraylength (pc' := 13) (n := 7) (v := 7) kc_91_12 rfl (xl_lenI (by decide) (by decide) (F 94 _ hl_94) (by simp only [List.length_replicate, List.length_cons, List.length_nil])) rfl ?_
      refine xi_cmf (pc' := 16) kc_91_13 rfl rfl ?_
      refine xi_aload_n (pc' := 17) (x := 0) kc_91_16 rfl rfl ?_
      refine xi_getfield (pc' := 20) (v := .ref 94) kc_91_17 rfl rfl rfl (F 0 _ hl_0) rfl ?_
      refine xi_iload_n (pc' := 21) (x := 1) kc_91_20 rfl rfl ?_
      refine xi_dup2 (pc' := 22) kc_91_21 rfl ⟨rfl, rfl⟩ ?_
      refine xi_iaload (pc' := 23) (v := 0) kc_91_22 rfl (F 94 _ hl_94) (by decide) rfl (xi_in (n := 7) (by decide) (by decide)) rfl ?_
      refine xi_iconst (pc' := 24) (v := 1) kc_91_23 rfl rfl ?_
      refine xi_iadd (pc' := 25) (v := 1) kc_91_24 rfl rfl ?_
      refine xi_iastore (pc' := 26) (x' := [0, 1, 0, 0, 0, 0, 0]) kc_91_25 rfl (F 94 _ hl_94) rfl (xi_in (n := 7) (by decide) (by decide)) rfl (fun hh1 eh1 => ?_)
      refine xi_iload_n (pc' := 27) (x := (-1)) kc_91_26 rfl rfl ?_
      refine xi_ireturn kc_91_27 mr_91 rfl ?_
      show xw J ov 99 89 (12, [(0, .ref 0), (1, .int a1), (2, .int a2), (3, .int a3)], [.int (-1)], hh1) _
      refine xi_ireturn kc_89_12 mr_89 rfl ?_
      show xw J ov 100 196 (214, [(4, .int 0), (3, .ref 167), (2, .ref 115), (1, .ref 0), (0, .ref 1000000)], [.int (-1)], hh1) _
      refine xi_aload_n (pc' := 215) (x := 115) kc_196_214 rfl rfl ?_
      refine xi_aload_n (pc' := 216) (x := 1000000) kc_196_215 rfl rfl ?_
      refine xi_iload (pc' := 218) (x := 0) kc_196_216 rfl rfl ?_
      refine xi_iconst (pc' := 219) (v := 1) kc_196_218 rfl rfl ?_
      refine xi_iadd (pc' := 220) (v := 1) kc_196_219 rfl rfl ?_
      refine xi_ialoadO (pc' := 221) (v := a1) kc_196_220 rfl (by decide) hov0 (xi_in (n := 6) (by decide) (by decide)) rfl ?_
      refine xi_aload_n (pc' := 222) (x := 1000000) kc_196_221 rfl rfl ?_
      refine xi_iload (pc' := 224) (x := 0) kc_196_222 rfl rfl ?_
      refine xi_iconst (pc' := 225) (v := 2) kc_196_224 rfl rfl ?_
      refine xi_iadd (pc' := 226) (v := 2) kc_196_225 rfl rfl ?_
      refine xi_ialoadO (pc' := 227) (v := a2) kc_196_226 rfl (by decide) hov0 (xi_in (n := 6) (by decide) (by decide)) rfl ?_
      refine xi_aload_n (pc' := 228) (x := 1000000) kc_196_227 rfl rfl ?_
      refine xi_iload (pc' := 230) (x := 0) kc_196_228 rfl rfl ?_
      refine xi_iconst (pc' := 231) (v := 3) kc_196_230 rfl rfl ?_
      refine xi_iadd (pc' := 232) (v := 3) kc_196_231 rfl rfl ?_
      refine xi_ialoadO (pc' := 233) (v := a3) kc_196_232 rfl (by decide) hov0 (xi_in (n := 6) (by decide) (by decide)) rfl ?_
      refine xi_virtual (mj := 10) (as := [.int a1, .int a2, .int a3]) (st1 := [.int (-1)]) (lv0 := [(0, .ref 115), (1, .int a1), (2, .int a2), (3, .int a3)]) kc_196_233 rfl rfl rfl rfl rfl ((eh1.2.1 115 (by decide)).trans (F 115 _ hl_115)) (Nat.le_of_ble_eq_true rfl) (hJ _ _ _ _ (by decide)) (xm_le ml_10 rfl) rfl ?_
      refine xi_aload_n (pc' := 1) (x := 115) kc_10_0 rfl rfl ?_
      refine xi_iconst (pc' := 2) (v := 0) kc_10_1 rfl rfl ?_
      refine xi_putfield (pc' := 5) (fs' := [.int 0, .int 0, .ref 116, .ref 117, .ref 118, .ref 119, .ref 120, .ref 121, .ref 122, .ref 123, .ref 124, .ref 125, .ref 126, .ref 127, .ref 128, .ref 129, .int 4, .ref 130, .int 0, .ref 131, .ref 132, .ref 133, .ref 134, .int 0, .ref 135, .ref 136, .ref 137, .ref 138, .ref 139, .ref 140, .ref 141, .ref 142, .int 0, .int 0, .int 0, .ref 143, .ref 144, .ref 145, .ref 146, .ref 147, .ref 148, .int 0, .ref 149, .ref 150, .ref 151, .int 0, .ref 152, .ref 153, .ref 154, .ref 155, .ref 156, .ref 157, .ref 158, .ref 159, .int 0, .ref 160, .int 0, .ref 161, .ref 162, .ref 163, .ref 164, .int 0, .ref 165, .ref 166]) kc_10_2 rfl rfl rfl ((eh1.2.1 115 (by decide)).trans (F 115 _ hl_115)) rfl rfl rfl (Nat.le_of_ble_eq_true rfl) rfl (fun hh2 eh2 => ?_)
      refine xi_iload_n (pc' := 6) (x := a1) kc_10_5 rfl rfl ?_
      refine xi_static (mj := 11) (as := [.int a1]) (st1 := []) (lv0 := [(0, .int a1)]) kc_10_6 rfl rfl (Nat.le_of_ble_eq_true rfl) rfl rfl (Nat.le_of_ble_eq_true rfl) (hJ _ _ _ _ (by decide)) (xm_le ml_11 rfl) rfl ?_
      refine xi_iload_n (pc' := 1) (x := a1) kc_11_0 rfl rfl ?_
      refine xi_iconst (pc' := 2) (v := 0) kc_11_1 rfl rfl ?_
      refine xi_iconst (pc' := 3) (v := 5) kc_11_2 rfl rfl ?_
      refine xi_static (mj := 12) (as := [.int a1, .int 0, .int 5]) (st1 := []) (lv0 := [(0, .int a1), (1, .int 0), (2, .int 5)]) kc_11_3 rfl rfl (Nat.le_of_ble_eq_true rfl) rfl rfl (Nat.le_of_ble_eq_true rfl) (hJ _ _ _ _ (by decide)) (xm_le ml_12 rfl) rfl ?_
      refine xi_iload_n (pc' := 1) (x := a1) kc_12_0 rfl rfl ?_
      refine xi_iload_n (pc' := 2) (x := 0) kc_12_1 rfl rfl ?_
      refine xi_cmf (pc' := 5) kc_12_2 rfl (xc_lt_f (X := a1.toInt) (Y := 0) rfl (by decide) (by omega)) ?_
      refine xi_iload_n (pc' := 6) (x := a1) kc_12_5 rfl rfl ?_
      refine xi_iload_n (pc' := 7) (x := 5) kc_12_6 rfl rfl ?_
      refine xi_cmt (pc' := 14) kc_12_7 rfl (xc_gt_t (X := a1.toInt) (Y := 5) rfl (by decide) (by omega)) ?_
      refine xi_iconst (pc' := 15) (v := 0) kc_12_14 rfl rfl ?_
      refine xi_ireturn kc_12_15 mr_12 rfl ?_
      show xw J ov 98 11 (6, [(0, .int a1)], [.int 0], hh2) _
      refine xi_ireturn kc_11_6 mr_11 rfl ?_
      show xw J ov 99 10 (9, [(0, .ref 115), (1, .int a1), (2, .int a2), (3, .int a3)], [.int 0], hh2) _
      refine xi_iff (pc' := 12) kc_10_9 rfl rfl ?_
      refine xi_aload_n (pc' := 13) (x := 115) kc_10_12 rfl rfl ?_
      refine xi_iconst (pc' := 14) (v := (-1)) kc_10_13 rfl rfl ?_
      refine xi_virtual (mj := 13) (as := [.int (-1)]) (st1 := []) (lv0 := [(0, .ref 115), (1, .int (-1))]) kc_10_14 rfl rfl rfl rfl rfl eh2.1 (Nat.le_of_ble_eq_true rfl) (hJ _ _ _ _ (by decide)) (xm_le ml_13 rfl) rfl ?_
      refine xi_aload_n (pc' := 1) (x := 115) kc_13_0 rfl rfl ?_
      refine xi_getfield (pc' := 4) (v := .ref 140) kc_13_1 rfl rfl rfl eh2.1 rfl ?_
      refine xi_iload_n (pc' := 5) (x := (-1)) kc_13_4 rfl rfl ?_
      refine xi_ineg (pc' := 6) (v := 1) kc_13_5 rfl rfl ?_
      refine xi_dup2 (pc' := 7) kc_13_6 rfl ⟨rfl, rfl⟩ ?_
      refine xi_iaload (pc' := 8) (v := 0) kc_13_7 rfl ((eh2.2.1 140 (by decide)).trans ((eh1.2.1 140 (by decide)).trans (F 140 _ hl_140))) (by decide) rfl (xi_in (n := 7) (by decide) (by decide)) rfl ?_
      refine xi_iconst (pc' := 9) (v := 1) kc_13_8 rfl rfl ?_
      refine xi_iadd (pc' := 10) (v := 1) kc_13_9 rfl rfl ?_
      refine xi_iastore (pc' := 11) (x' := [0, 1, 0, 0, 0, 0, 0]) kc_13_10 rfl ((eh2.2.1 140 (by decide)).trans ((eh1.2.1 140 (by decide)).trans (F 140 _ hl_140))) rfl (xi_in (n := 7) (by decide) (by decide)) rfl (fun hh3 eh3 => ?_)
      refine xi_iload_n (pc' := 12) (x := (-1)) kc_13_11 rfl rfl ?_
      refine xi_ireturn kc_13_12 mr_13 rfl ?_
      show xw J ov 99 10 (17, [(0, .ref 115), (1, .int a1), (2, .int a2), (3, .int a3)], [.int (-1)], hh3) _
      refine xi_ireturn kc_10_17 mr_10 rfl ?_
      show xw J ov 100 196 (236, [(4, .int 0), (3, .ref 167), (2, .ref 115), (1, .ref 0), (0, .ref 1000000)], [.int (-1), .int (-1)], hh3) _
      refine xi_cmt (pc' := 1528) kc_196_236 rfl rfl ?_
      refine xi_iinc (pc' := 1531) (x := 0) (v := 6) (lv' := [(4, .int 6), (3, .ref 167), (2, .ref 115), (1, .ref 0), (0, .ref 1000000)]) kc_196_1528 rfl rfl rfl rfl (xm_lt ml_196 rfl) ?_
      refine xi_goto (pc' := 23) kc_196_1531 rfl ?_
      refine xi_iload (pc' := 25) (x := 6) kc_196_23 rfl rfl ?_
      refine xi_aload_n (pc' := 26) (x := 1000000) kc_196_25 rfl rfl ?_
      refine xi_arraylength (pc' := 27) (n := 6) (v := 6) kc_196_26 rfl (xl_lenO (by decide) hov0 rfl) rfl ?_
      refine xi_bipush (pc' := 29) (v := 6) kc_196_27 rfl rfl ?_
      refine xi_isub (pc' := 30) (v := 0) kc_196_29 rfl rfl ?_
      refine xi_cmt (pc' := 1534) kc_196_30 rfl rfl ?_
      refine xi_iconst (pc' := 1535) (v := 1) kc_196_1534 rfl rfl ?_
      refine xi_ireturn kc_196_1535 mr_196 rfl ?_
      refine ⟨rfl, ?_, ?_⟩
      · rw [eh3.2.2.1, eh2.2.2.1, eh1.2.2.1]; exact hn0
      · rw [eh3.2.2.2, eh2.2.2.2, eh1.2.2.2]; exact hz0
    · refine xi_cmf (pc' := 10) kc_90_7 rfl (xc_ge_f (X := a1.toInt) (Y := 6) rfl (by decide) (by omega)) ?_
      refine xi_iconst (pc' := 11) (v := 1) kc_90_10 rfl rfl ?_
      refine xi_goto (pc' := 15) kc_90_11 rfl ?_
      refine xi_ireturn kc_90_15 mr_90 rfl ?_
      show xw J ov 99 89 (4, [(0, .ref 0), (1, .int a1), (2, .int a2), (3, .int a3)], [.int 1], h0) _
      refine xi_ift (pc' := 13) kc_89_4 rfl rfl ?_
      refine xi_iload_n (pc' := 14) (x := a2) kc_89_13 rfl rfl ?_
      by_cases c3 : a2.toInt < 0
      · refine xi_ift (pc' := 22) kc_89_14 rfl (xc_lt_t (X := a2.toInt) (Y := 0) rfl (by decide) (by omega)) ?_
        refine xi_aload_n (pc' := 23) (x := 0) kc_89_22 rfl rfl ?_
        refine xi_bipush (pc' := 25) (v := (-2)) kc_89_23 rfl rfl ?_
        refine xi_virtual (mj := 91) (as := [.int (-2)]) (st1 := []) (lv0 := [(0, .ref 0), (1, .int (-2))]) kc_89_25 rfl rfl rfl rfl rfl (F 0 _ hl_0) (Nat.le_of_ble_eq_true rfl) (hJ _ _ _ _ (by decide)) (xm_le ml_91 rfl) rfl ?_
        refine xi_iload_n (pc' := 1) (x := (-2)) kc_91_0 rfl rfl ?_
        refine xi_ineg (pc' := 2) (v := 2) kc_91_1 rfl rfl ?_
        refine xi_istore_n (pc' := 3) (lv' := [(2, .int 2), (0, .ref 0), (1, .int (-2))]) kc_91_2 rfl rfl (xm_lt ml_91 rfl) ?_
        refine xi_iload_n (pc' := 4) (x := 2) kc_91_3 rfl rfl ?_
        refine xi_iff (pc' := 7) kc_91_4 rfl rfl ?_
        refine xi_iload_n (pc' := 8) (x := 2) kc_91_7 rfl rfl ?_
        refine xi_aload_n (pc' := 9) (x := 0) kc_91_8 rfl rfl ?_
        refine xi_getfield (pc' := 12) (v := .ref 94) kc_91_9 rfl rfl rfl (F 0 _ hl_0) rfl ?_
        refine xi_arraylength (pc' := 13) (n := 7) (v := 7) kc_91_12 rfl (xl_lenI (by decide) (by decide) (F 94 _ hl_94) (by simp only [List.length_replicate, List.length_cons, List.length_nil])) rfl ?_
        refine xi_cmf (pc' := 16) kc_91_13 rfl rfl ?_
        refine xi_aload_n (pc' := 17) (x := 0) kc_91_16 rfl rfl ?_
        refine xi_getfield (pc' := 20) (v := .ref 94) kc_91_17 rfl rfl rfl (F 0 _ hl_0) rfl ?_
        refine xi_iload_n (pc' := 21) (x := 2) kc_91_20 rfl rfl ?_
        refine xi_dup2 (pc' := 22) kc_91_21 rfl ⟨rfl, rfl⟩ ?_
        refine xi_iaload (pc' := 23) (v := 0) kc_91_22 rfl (F 94 _ hl_94) (by decide) rfl (xi_in (n := 7) (by decide) (by decide)) rfl ?_
        refine xi_iconst (pc' := 24) (v := 1) kc_91_23 rfl rfl ?_
        refine xi_iadd (pc' := 25) (v := 1) kc_91_24 rfl rfl ?_
        refine xi_iastore (pc' := 26) (x' := [0, 0, 1, 0, 0, 0, 0]) kc_91_25 rfl (F 94 _ hl_94) rfl (xi_in (n := 7) (by decide) (by decide)) rfl (fun hh1 eh1 => ?_)
        refine xi_iload_n (pc' := 27) (x := (-2)) kc_91_26 rfl rfl ?_
        refine xi_ireturn kc_91_27 mr_91 rfl ?_
        show xw J ov 99 89 (28, [(0, .ref 0), (1, .int a1), (2, .int a2), (3, .int a3)], [.int (-2)], hh1) _
        refine xi_ireturn kc_89_28 mr_89 rfl ?_
        show xw J ov 100 196 (214, [(4, .int 0), (3, .ref 167), (2, .ref 115), (1, .ref 0), (0, .ref 1000000)], [.int (-2)], hh1) _
        refine xi_aload_n (pc' := 215) (x := 115) kc_196_214 rfl rfl ?_
        refine xi_aload_n (pc' := 216) (x := 1000000) kc_196_215 rfl rfl ?_
        refine xi_iload (pc' := 218) (x := 0) kc_196_216 rfl rfl ?_
        refine xi_iconst (pc' := 219) (v := 1) kc_196_218 rfl rfl ?_
        refine xi_iadd (pc' := 220) (v := 1) kc_196_219 rfl rfl ?_
        refine xi_ialoadO (pc' := 221) (v := a1) kc_196_220 rfl (by decide) hov0 (xi_in (n := 6) (by decide) (by decide)) rfl ?_
        refine xi_aload_n (pc' := 222) (x := 1000000) kc_196_221 rfl rfl ?_
        refine xi_iload (pc' := 224) (x := 0) kc_196_222 rfl rfl ?_
        refine xi_iconst (pc' := 225) (v := 2) kc_196_224 rfl rfl ?_
        refine xi_iadd (pc' := 226) (v := 2) kc_196_225 rfl rfl ?_
        refine xi_ialoadO (pc' := 227) (v := a2) kc_196_226 rfl (by decide) hov0 (xi_in (n := 6) (by decide) (by decide)) rfl ?_
        refine xi_aload_n (pc' := 228) (x := 1000000) kc_196_227 rfl rfl ?_
        refine xi_iload (pc' := 230) (x := 0) kc_196_228 rfl rfl ?_
        refine xi_iconst (pc' := 231) (v := 3) kc_196_230 rfl rfl ?_
        refine xi_iadd (pc' := 232) (v := 3) kc_196_231 rfl rfl ?_
        refine xi_ialoadO (pc' := 233) (v := a3) kc_196_232 rfl (by decide) hov0 (xi_in (n := 6) (by decide) (by decide)) rfl ?_
        refine xi_virtual (mj := 10) (as := [.int a1, .int a2, .int a3]) (st1 := [.int (-2)]) (lv0 := [(0, .ref 115), (1, .int a1), (2, .int a2), (3, .int a3)]) kc_196_233 rfl rfl rfl rfl rfl ((eh1.2.1 115 (by decide)).trans (F 115 _ hl_115)) (Nat.le_of_ble_eq_true rfl) (hJ _ _ _ _ (by decide)) (xm_le ml_10 rfl) rfl ?_
        refine xi_aload_n (pc' := 1) (x := 115) kc_10_0 rfl rfl ?_
        refine xi_iconst (pc' := 2) (v := 0) kc_10_1 rfl rfl ?_
        refine xi_putfield (pc' := 5) (fs' := [.int 0, .int 0, .ref 116, .ref 117, .ref 118, .ref 119, .ref 120, .ref 121, .ref 122, .ref 123, .ref 124, .ref 125, .ref 126, .ref 127, .ref 128, .ref 129, .int 4, .ref 130, .int 0, .ref 131, .ref 132, .ref 133, .ref 134, .int 0, .ref 135, .ref 136, .ref 137, .ref 138, .ref 139, .ref 140, .ref 141, .ref 142, .int 0, .int 0, .int 0, .ref 143, .ref 144, .ref 145, .ref 146, .ref 147, .ref 148, .int 0, .ref 149, .ref 150, .ref 151, .int 0, .ref 152, .ref 153, .ref 154, .ref 155, .ref 156, .ref 157, .ref 158, .ref 159, .int 0, .ref 160, .int 0, .ref 161, .ref 162, .ref 163, .ref 164, .int 0, .ref 165, .ref 166]) kc_10_2 rfl rfl rfl ((eh1.2.1 115 (by decide)).trans (F 115 _ hl_115)) rfl rfl rfl (Nat.le_of_ble_eq_true rfl) rfl (fun hh2 eh2 => ?_)
        refine xi_iload_n (pc' := 6) (x := a1) kc_10_5 rfl rfl ?_
        refine xi_static (mj := 11) (as := [.int a1]) (st1 := []) (lv0 := [(0, .int a1)]) kc_10_6 rfl rfl (Nat.le_of_ble_eq_true rfl) rfl rfl (Nat.le_of_ble_eq_true rfl) (hJ _ _ _ _ (by decide)) (xm_le ml_11 rfl) rfl ?_
        refine xi_iload_n (pc' := 1) (x := a1) kc_11_0 rfl rfl ?_
        refine xi_iconst (pc' := 2) (v := 0) kc_11_1 rfl rfl ?_
        refine xi_iconst (pc' := 3) (v := 5) kc_11_2 rfl rfl ?_
        refine xi_static (mj := 12) (as := [.int a1, .int 0, .int 5]) (st1 := []) (lv0 := [(0, .int a1), (1, .int 0), (2, .int 5)]) kc_11_3 rfl rfl (Nat.le_of_ble_eq_true rfl) rfl rfl (Nat.le_of_ble_eq_true rfl) (hJ _ _ _ _ (by decide)) (xm_le ml_12 rfl) rfl ?_
        refine xi_iload_n (pc' := 1) (x := a1) kc_12_0 rfl rfl ?_
        refine xi_iload_n (pc' := 2) (x := 0) kc_12_1 rfl rfl ?_
        refine xi_cmf (pc' := 5) kc_12_2 rfl (xc_lt_f (X := a1.toInt) (Y := 0) rfl (by decide) (by omega)) ?_
        refine xi_iload_n (pc' := 6) (x := a1) kc_12_5 rfl rfl ?_
        refine xi_iload_n (pc' := 7) (x := 5) kc_12_6 rfl rfl ?_
        refine xi_cmf (pc' := 10) kc_12_7 rfl (xc_gt_f (X := a1.toInt) (Y := 5) rfl (by decide) (by omega)) ?_
        refine xi_iconst (pc' := 11) (v := 1) kc_12_10 rfl rfl ?_
        refine xi_goto (pc' := 15) kc_12_11 rfl ?_
        refine xi_ireturn kc_12_15 mr_12 rfl ?_
        show xw J ov 98 11 (6, [(0, .int a1)], [.int 1], hh2) _
        refine xi_ireturn kc_11_6 mr_11 rfl ?_
        show xw J ov 99 10 (9, [(0, .ref 115), (1, .int a1), (2, .int a2), (3, .int a3)], [.int 1], hh2) _
        refine xi_ift (pc' := 18) kc_10_9 rfl rfl ?_
        refine xi_iload_n (pc' := 19) (x := a2) kc_10_18 rfl rfl ?_
        refine xi_iconst (pc' := 20) (v := 0) kc_10_19 rfl rfl ?_
        refine xi_iconst (pc' := 21) (v := 5) kc_10_20 rfl rfl ?_
        refine xi_static (mj := 12) (as := [.int a2, .int 0, .int 5]) (st1 := []) (lv0 := [(0, .int a2), (1, .int 0), (2, .int 5)]) kc_10_21 rfl rfl (Nat.le_of_ble_eq_true rfl) rfl rfl (Nat.le_of_ble_eq_true rfl) (hJ _ _ _ _ (by decide)) (xm_le ml_12 rfl) rfl ?_
        refine xi_iload_n (pc' := 1) (x := a2) kc_12_0 rfl rfl ?_
        refine xi_iload_n (pc' := 2) (x := 0) kc_12_1 rfl rfl ?_
        refine xi_cmt (pc' := 14) kc_12_2 rfl (xc_lt_t (X := a2.toInt) (Y := 0) rfl (by decide) (by omega)) ?_
        refine xi_iconst (pc' := 15) (v := 0) kc_12_14 rfl rfl ?_
        refine xi_ireturn kc_12_15 mr_12 rfl ?_
        show xw J ov 99 10 (24, [(0, .ref 115), (1, .int a1), (2, .int a2), (3, .int a3)], [.int 0], hh2) _
        refine xi_iff (pc' := 27) kc_10_24 rfl rfl ?_
        refine xi_aload_n (pc' := 28) (x := 115) kc_10_27 rfl rfl ?_
        refine xi_bipush (pc' := 30) (v := (-2)) kc_10_28 rfl rfl ?_
        refine xi_virtual (mj := 13) (as := [.int (-2)]) (st1 := []) (lv0 := [(0, .ref 115), (1, .int (-2))]) kc_10_30 rfl rfl rfl rfl rfl eh2.1 (Nat.le_of_ble_eq_true rfl) (hJ _ _ _ _ (by decide)) (xm_le ml_13 rfl) rfl ?_
        refine xi_aload_n (pc' := 1) (x := 115) kc_13_0 rfl rfl ?_
        refine xi_getfield (pc' := 4) (v := .ref 140) kc_13_1 rfl rfl rfl eh2.1 rfl ?_
        refine xi_iload_n (pc' := 5) (x := (-2)) kc_13_4 rfl rfl ?_
        refine xi_ineg (pc' := 6) (v := 2) kc_13_5 rfl rfl ?_
        refine xi_dup2 (pc' := 7) kc_13_6 rfl ⟨rfl, rfl⟩ ?_
        refine xi_iaload (pc' := 8) (v := 0) kc_13_7 rfl ((eh2.2.1 140 (by decide)).trans ((eh1.2.1 140 (by decide)).trans (F 140 _ hl_140))) (by decide) rfl (xi_in (n := 7) (by decide) (by decide)) rfl ?_
        refine xi_iconst (pc' := 9) (v := 1) kc_13_8 rfl rfl ?_
        refine xi_iadd (pc' := 10) (v := 1) kc_13_9 rfl rfl ?_
        refine xi_iastore (pc' := 11) (x' := [0, 0, 1, 0, 0, 0, 0]) kc_13_10 rfl ((eh2.2.1 140 (by decide)).trans ((eh1.2.1 140 (by decide)).trans (F 140 _ hl_140))) rfl (xi_in (n := 7) (by decide) (by decide)) rfl (fun hh3 eh3 => ?_)
        refine xi_iload_n (pc' := 12) (x := (-2)) kc_13_11 rfl rfl ?_
        refine xi_ireturn kc_13_12 mr_13 rfl ?_
        show xw J ov 99 10 (33, [(0, .ref 115), (1, .int a1), (2, .int a2), (3, .int a3)], [.int (-2)], hh3) _
        refine xi_ireturn kc_10_33 mr_10 rfl ?_
        show xw J ov 100 196 (236, [(4, .int 0), (3, .ref 167), (2, .ref 115), (1, .ref 0), (0, .ref 1000000)], [.int (-2), .int (-2)], hh3) _
        refine xi_cmt (pc' := 1528) kc_196_236 rfl rfl ?_
        refine xi_iinc (pc' := 1531) (x := 0) (v := 6) (lv' := [(4, .int 6), (3, .ref 167), (2, .ref 115), (1, .ref 0), (0, .ref 1000000)]) kc_196_1528 rfl rfl rfl rfl (xm_lt ml_196 rfl) ?_
        refine xi_goto (pc' := 23) kc_196_1531 rfl ?_
        refine xi_iload (pc' := 25) (x := 6) kc_196_23 rfl rfl ?_
        refine xi_aload_n (pc' := 26) (x := 1000000) kc_196_25 rfl rfl ?_
        refine xi_arraylength (pc' := 27) (n := 6) (v := 6) kc_196_26 rfl (xl_lenO (by decide) hov0 rfl) rfl ?_
        refine xi_bipush (pc' := 29) (v := 6) kc_196_27 rfl rfl ?_
        refine xi_isub (pc' := 30) (v := 0) kc_196_29 rfl rfl ?_
        refine xi_cmt (pc' := 1534) kc_196_30 rfl rfl ?_
        refine xi_iconst (pc' := 1535) (v := 1) kc_196_1534 rfl rfl ?_
        refine xi_ireturn kc_196_1535 mr_196 rfl ?_
        refine ⟨rfl, ?_, ?_⟩
        · rw [eh3.2.2.1, eh2.2.2.1, eh1.2.2.1]; exact hn0
        · rw [eh3.2.2.2, eh2.2.2.2, eh1.2.2.2]; exact hz0
      · refine xi_iff (pc' := 17) kc_89_14 rfl (xc_lt_f (X := a2.toInt) (Y := 0) rfl (by decide) (by omega)) ?_
        refine xi_iload_n (pc' := 18) (x := a2) kc_89_17 rfl rfl ?_
        refine xi_iconst (pc' := 19) (v := 5) kc_89_18 rfl rfl ?_
        by_cases c4 : a2.toInt ≤ 5
        · refine xi_cmt (pc' := 29) kc_89_19 rfl (xc_le_t (X := a2.toInt) (Y := 5) rfl (by decide) (by omega)) ?_
          refine xi_iload_n (pc' := 30) (x := a3) kc_89_29 rfl rfl ?_
          refine xi_getstatic (pc' := 33) (j := 1000001) kc_89_30 rfl rfl ?_
          refine xi_iload_n (pc' := 34) (x := a2) kc_89_33 rfl rfl ?_
          by_cases c5 : a2.toInt = 0
          · have qa2 : a2 = 0 := xc_of (Eq.trans (by omega) (show (0 : Int) = (0 : Int32).toInt by decide))
            subst qa2
            refine xi_ialoadO (pc' := 35) (v := 10) kc_89_34 rfl (by decide) hov1 (xi_in (n := 6) (by decide) (by decide)) rfl ?_
            by_cases c6 : 10 ≤ a3.toInt
            · refine xi_cmt (pc' := 45) kc_89_35 rfl (xc_ge_t (X := a3.toInt) (Y := 10) rfl (by decide) (by omega)) ?_
              refine xi_iload_n (pc' := 46) (x := a3) kc_89_45 rfl rfl ?_
              refine xi_getstatic (pc' := 49) (j := 1000002) kc_89_46 rfl rfl ?_
              refine xi_iload_n (pc' := 50) (x := 0) kc_89_49 rfl rfl ?_
              refine xi_ialoadO (pc' := 51) (v := 99) kc_89_50 rfl (by decide) hov2 (xi_in (n := 6) (by decide) (by decide)) rfl ?_
              by_cases c7 : a3.toInt ≤ 99
              · refine xi_cmt (pc' := 61) kc_89_51 rfl (xc_le_t (X := a3.toInt) (Y := 99) rfl (by decide) (by omega)) ?_
                refine xi_iload_n (pc' := 62) (x := 0) kc_89_61 rfl rfl ?_
                refine xi_iconst (pc' := 63) (v := 5) kc_89_62 rfl rfl ?_
                refine xi_cmt (pc' := 90) kc_89_63 rfl rfl ?_
                refine xi_aload_n (pc' := 91) (x := 0) kc_89_90 rfl rfl ?_
                refine xi_getfield (pc' := 94) (v := .ref 66) kc_89_91 rfl rfl rfl (F 0 _ hl_0) rfl ?_
                refine xi_virtual (mj := 92) (as := []) (st1 := []) (lv0 := [(0, .ref 66)]) kc_89_94 rfl rfl rfl rfl rfl (F 66 _ hl_66) (Nat.le_of_ble_eq_true rfl) (hJ _ _ _ _ (by decide)) (xm_le ml_92 rfl) rfl ?_
                refine xi_aload_n (pc' := 1) (x := 66) kc_92_0 rfl rfl ?_
                refine xi_lconst (pc' := 2) (v := 0) kc_92_1 rfl rfl ?_
                refine xi_putfield (pc' := 5) (fs' := [.ref 1, .ref 67, .ref 70, .ref 71, .ref 72, .ref 73, .ref 74, .long 0, .int 0]) kc_92_2 rfl rfl rfl (F 66 _ hl_66) rfl rfl rfl (Nat.le_of_ble_eq_true rfl) rfl (fun hh1 eh1 => ?_)
                refine xi_return kc_92_5 mr_92 ?_
                show xw J ov 99 89 (97, [(0, .ref 0), (1, .int a1), (2, .int 0), (3, .int a3)], [], hh1) _
                refine xi_aload_n (pc' := 98) (x := 0) kc_89_97 rfl rfl ?_
                refine xi_getfield (pc' := 101) (v := .ref 1) kc_89_98 rfl rfl rfl ((eh1.2.1 0 (by decide)).trans (F 0 _ hl_0)) rfl ?_
                refine xi_iload_n (pc' := 102) (x := a1) kc_89_101 rfl rfl ?_
                refine xi_iload_n (pc' := 103) (x := 0) kc_89_102 rfl rfl ?_
                refine xi_iload_n (pc' := 104) (x := a3) kc_89_103 rfl rfl ?_
                refine xi_virtual (mj := 93) (as := [.int a1, .int 0, .int a3]) (st1 := []) (lv0 := [(0, .ref 1), (1, .int a1), (2, .int 0), (3, .int a3)]) kc_89_104 rfl rfl rfl rfl rfl ((eh1.2.1 1 (by decide)).trans (F 1 _ hl_1)) (Nat.le_of_ble_eq_true rfl) (hJ _ _ _ _ (by decide)) (xm_le ml_93 rfl) rfl ?_
                refine xi_iload_n (pc' := 1) (x := a1) kc_93_0 rfl rfl ?_
                refine xi_static (mj := 90) (as := [.int a1]) (st1 := []) (lv0 := [(0, .int a1)]) kc_93_1 rfl rfl (Nat.le_of_ble_eq_true rfl) rfl rfl (Nat.le_of_ble_eq_true rfl) (hJ _ _ _ _ (by decide)) (xm_le ml_90 rfl) rfl ?_
                refine xi_iload_n (pc' := 1) (x := a1) kc_90_0 rfl rfl ?_
                refine xi_iff (pc' := 4) kc_90_1 rfl (xc_lt_f (X := a1.toInt) (Y := 0) rfl (by decide) (by omega)) ?_
                refine xi_iload_n (pc' := 5) (x := a1) kc_90_4 rfl rfl ?_
                refine xi_bipush (pc' := 7) (v := 6) kc_90_5 rfl rfl ?_
                refine xi_cmf (pc' := 10) kc_90_7 rfl (xc_ge_f (X := a1.toInt) (Y := 6) rfl (by decide) (by omega)) ?_
                refine xi_iconst (pc' := 11) (v := 1) kc_90_10 rfl rfl ?_
                refine xi_goto (pc' := 15) kc_90_11 rfl ?_
                refine xi_ireturn kc_90_15 mr_90 rfl ?_
                show xw J ov 98 93 (4, [(0, .ref 1), (1, .int a1), (2, .int 0), (3, .int a3)], [.int 1], hh1) _
                refine xi_iff (pc' := 7) kc_93_4 rfl rfl ?_
                refine xi_aload_n (pc' := 8) (x := 1) kc_93_7 rfl rfl ?_
                refine xi_getfield (pc' := 11) (v := .ref 2) kc_93_8 rfl rfl rfl ((eh1.2.1 1 (by decide)).trans (F 1 _ hl_1)) rfl ?_
                refine xi_iload_n (pc' := 12) (x := a1) kc_93_11 rfl rfl ?_
                by_cases c8 : a1.toInt = 0
                · have qa1 : a1 = 0 := xc_of (Eq.trans (by omega) (show (0 : Int) = (0 : Int32).toInt by decide))
                  subst qa1
                  refine xi_aaload (pc' := 13) (b := 11) kc_93_12 rfl ((eh1.2.1 2 (by decide)).trans (F 2 _ hl_2)) rfl (xi_in (n := 6) (by decide) (by decide)) rfl ?_
                  refine xi_iload_n (pc' := 14) (x := 0) kc_93_13 rfl rfl ?_
                  refine xi_iload_n (pc' := 15) (x := a3) kc_93_14 rfl rfl ?_
                  refine xi_virtual (mj := 94) (as := [.int 0, .int a3]) (st1 := []) (lv0 := [(0, .ref 11), (1, .int 0), (2, .int a3)]) kc_93_15 rfl rfl rfl rfl rfl ((eh1.2.1 11 (by decide)).trans (F 11 _ hl_11)) (Nat.le_of_ble_eq_true rfl) (hJ _ _ _ _ (by decide)) (xm_le ml_94 rfl) rfl ?_
                  refine xi_iload_n (pc' := 1) (x := 0) kc_94_0 rfl rfl ?_
                  refine xi_iff (pc' := 4) kc_94_1 rfl rfl ?_
                  refine xi_iload_n (pc' := 5) (x := 0) kc_94_4 rfl rfl ?_
                  refine xi_iconst (pc' := 6) (v := 5) kc_94_5 rfl rfl ?_
                  refine xi_cmt (pc' := 11) kc_94_6 rfl rfl ?_
                  refine xi_aload_n (pc' := 12) (x := 11) kc_94_11 rfl rfl ?_
                  refine xi_getfield (pc' := 15) (v := .ref 12) kc_94_12 rfl rfl rfl ((eh1.2.1 11 (by decide)).trans (F 11 _ hl_11)) rfl ?_
                  refine xi_iload_n (pc' := 16) (x := 0) kc_94_15 rfl rfl ?_
                  refine xi_iaload (pc' := 17) (v := 40) kc_94_16 rfl ((eh1.2.1 12 (by decide)).trans (F 12 _ hl_12)) (by decide) rfl (xi_in (n := 5) (by decide) (by decide)) rfl ?_
                  refine xi_istore_n (pc' := 18) (lv' := [(3, .int 40), (0, .ref 11), (1, .int 0), (2, .int a3)]) kc_94_17 rfl rfl (xm_lt ml_94 rfl) ?_
                  refine xi_aload_n (pc' := 19) (x := 11) kc_94_18 rfl rfl ?_
                  refine xi_getfield (pc' := 22) (v := .ref 12) kc_94_19 rfl rfl rfl ((eh1.2.1 11 (by decide)).trans (F 11 _ hl_11)) rfl ?_
                  refine xi_iload_n (pc' := 23) (x := 0) kc_94_22 rfl rfl ?_
                  refine xi_iload_n (pc' := 24) (x := a3) kc_94_23 rfl rfl ?_
                  refine xi_iastore (pc' := 25) (x' := [a3, 18, 10, 0, 0]) kc_94_24 rfl ((eh1.2.1 12 (by decide)).trans (F 12 _ hl_12)) rfl (xi_in (n := 5) (by decide) (by decide)) rfl (fun hh2 eh2 => ?_)
                  refine xi_iload_n (pc' := 26) (x := 40) kc_94_25 rfl rfl ?_
                  refine xi_ireturn kc_94_26 mr_94 rfl ?_
                  show xw J ov 98 93 (18, [(0, .ref 1), (1, .int 0), (2, .int 0), (3, .int a3)], [.int 40], hh2) _
                  refine xi_goto (pc' := 22) kc_93_18 rfl ?_
                  refine xi_ireturn kc_93_22 mr_93 rfl ?_
                  show xw J ov 99 89 (107, [(0, .ref 0), (1, .int 0), (2, .int 0), (3, .int a3)], [.int 40], hh2) _
                  refine xi_ireturn kc_89_107 mr_89 rfl ?_
                  show xw J ov 100 196 (214, [(4, .int 0), (3, .ref 167), (2, .ref 115), (1, .ref 0), (0, .ref 1000000)], [.int 40], hh2) _
                  refine xi_aload_n (pc' := 215) (x := 115) kc_196_214 rfl rfl ?_
                  refine xi_aload_n (pc' := 216) (x := 1000000) kc_196_215 rfl rfl ?_
                  refine xi_iload (pc' := 218) (x := 0) kc_196_216 rfl rfl ?_
                  refine xi_iconst (pc' := 219) (v := 1) kc_196_218 rfl rfl ?_
                  refine xi_iadd (pc' := 220) (v := 1) kc_196_219 rfl rfl ?_
                  refine xi_ialoadO (pc' := 221) (v := 0) kc_196_220 rfl (by decide) hov0 (xi_in (n := 6) (by decide) (by decide)) rfl ?_
                  refine xi_aload_n (pc' := 222) (x := 1000000) kc_196_221 rfl rfl ?_
                  refine xi_iload (pc' := 224) (x := 0) kc_196_222 rfl rfl ?_
                  refine xi_iconst (pc' := 225) (v := 2) kc_196_224 rfl rfl ?_
                  refine xi_iadd (pc' := 226) (v := 2) kc_196_225 rfl rfl ?_
                  refine xi_ialoadO (pc' := 227) (v := 0) kc_196_226 rfl (by decide) hov0 (xi_in (n := 6) (by decide) (by decide)) rfl ?_
                  refine xi_aload_n (pc' := 228) (x := 1000000) kc_196_227 rfl rfl ?_
                  refine xi_iload (pc' := 230) (x := 0) kc_196_228 rfl rfl ?_
                  refine xi_iconst (pc' := 231) (v := 3) kc_196_230 rfl rfl ?_
                  refine xi_iadd (pc' := 232) (v := 3) kc_196_231 rfl rfl ?_
                  refine xi_ialoadO (pc' := 233) (v := a3) kc_196_232 rfl (by decide) hov0 (xi_in (n := 6) (by decide) (by decide)) rfl ?_
                  refine xi_virtual (mj := 10) (as := [.int 0, .int 0, .int a3]) (st1 := [.int 40]) (lv0 := [(0, .ref 115), (1, .int 0), (2, .int 0), (3, .int a3)]) kc_196_233 rfl rfl rfl rfl rfl ((eh2.2.1 115 (by decide)).trans ((eh1.2.1 115 (by decide)).trans (F 115 _ hl_115))) (Nat.le_of_ble_eq_true rfl) (hJ _ _ _ _ (by decide)) (xm_le ml_10 rfl) rfl ?_
                  refine xi_aload_n (pc' := 1) (x := 115) kc_10_0 rfl rfl ?_
                  refine xi_iconst (pc' := 2) (v := 0) kc_10_1 rfl rfl ?_
                  refine xi_putfield (pc' := 5) (fs' := [.int 0, .int 0, .ref 116, .ref 117, .ref 118, .ref 119, .ref 120, .ref 121, .ref 122, .ref 123, .ref 124, .ref 125, .ref 126, .ref 127, .ref 128, .ref 129, .int 4, .ref 130, .int 0, .ref 131, .ref 132, .ref 133, .ref 134, .int 0, .ref 135, .ref 136, .ref 137, .ref 138, .ref 139, .ref 140, .ref 141, .ref 142, .int 0, .int 0, .int 0, .ref 143, .ref 144, .ref 145, .ref 146, .ref 147, .ref 148, .int 0, .ref 149, .ref 150, .ref 151, .int 0, .ref 152, .ref 153, .ref 154, .ref 155, .ref 156, .ref 157, .ref 158, .ref 159, .int 0, .ref 160, .int 0, .ref 161, .ref 162, .ref 163, .ref 164, .int 0, .ref 165, .ref 166]) kc_10_2 rfl rfl rfl ((eh2.2.1 115 (by decide)).trans ((eh1.2.1 115 (by decide)).trans (F 115 _ hl_115))) rfl rfl rfl (Nat.le_of_ble_eq_true rfl) rfl (fun hh3 eh3 => ?_)
                  refine xi_iload_n (pc' := 6) (x := 0) kc_10_5 rfl rfl ?_
                  refine xi_static (mj := 11) (as := [.int 0]) (st1 := []) (lv0 := [(0, .int 0)]) kc_10_6 rfl rfl (Nat.le_of_ble_eq_true rfl) rfl rfl (Nat.le_of_ble_eq_true rfl) (hJ _ _ _ _ (by decide)) (xm_le ml_11 rfl) rfl ?_
                  refine xi_iload_n (pc' := 1) (x := 0) kc_11_0 rfl rfl ?_
                  refine xi_iconst (pc' := 2) (v := 0) kc_11_1 rfl rfl ?_
                  refine xi_iconst (pc' := 3) (v := 5) kc_11_2 rfl rfl ?_
                  refine xi_static (mj := 12) (as := [.int 0, .int 0, .int 5]) (st1 := []) (lv0 := [(0, .int 0), (1, .int 0), (2, .int 5)]) kc_11_3 rfl rfl (Nat.le_of_ble_eq_true rfl) rfl rfl (Nat.le_of_ble_eq_true rfl) (hJ _ _ _ _ (by decide)) (xm_le ml_12 rfl) rfl ?_
                  refine xi_iload_n (pc' := 1) (x := 0) kc_12_0 rfl rfl ?_
                  refine xi_iload_n (pc' := 2) (x := 0) kc_12_1 rfl rfl ?_
                  refine xi_cmf (pc' := 5) kc_12_2 rfl rfl ?_
                  refine xi_iload_n (pc' := 6) (x := 0) kc_12_5 rfl rfl ?_
                  refine xi_iload_n (pc' := 7) (x := 5) kc_12_6 rfl rfl ?_
                  refine xi_cmf (pc' := 10) kc_12_7 rfl rfl ?_
                  refine xi_iconst (pc' := 11) (v := 1) kc_12_10 rfl rfl ?_
                  refine xi_goto (pc' := 15) kc_12_11 rfl ?_
                  refine xi_ireturn kc_12_15 mr_12 rfl ?_
                  show xw J ov 98 11 (6, [(0, .int 0)], [.int 1], hh3) _
                  refine xi_ireturn kc_11_6 mr_11 rfl ?_
                  show xw J ov 99 10 (9, [(0, .ref 115), (1, .int 0), (2, .int 0), (3, .int a3)], [.int 1], hh3) _
                  refine xi_ift (pc' := 18) kc_10_9 rfl rfl ?_
                  refine xi_iload_n (pc' := 19) (x := 0) kc_10_18 rfl rfl ?_
                  refine xi_iconst (pc' := 20) (v := 0) kc_10_19 rfl rfl ?_
                  refine xi_iconst (pc' := 21) (v := 5) kc_10_20 rfl rfl ?_
                  refine xi_static (mj := 12) (as := [.int 0, .int 0, .int 5]) (st1 := []) (lv0 := [(0, .int 0), (1, .int 0), (2, .int 5)]) kc_10_21 rfl rfl (Nat.le_of_ble_eq_true rfl) rfl rfl (Nat.le_of_ble_eq_true rfl) (hJ _ _ _ _ (by decide)) (xm_le ml_12 rfl) rfl ?_
                  refine xi_iload_n (pc' := 1) (x := 0) kc_12_0 rfl rfl ?_
                  refine xi_iload_n (pc' := 2) (x := 0) kc_12_1 rfl rfl ?_
                  refine xi_cmf (pc' := 5) kc_12_2 rfl rfl ?_
                  refine xi_iload_n (pc' := 6) (x := 0) kc_12_5 rfl rfl ?_
                  refine xi_iload_n (pc' := 7) (x := 5) kc_12_6 rfl rfl ?_
                  refine xi_cmf (pc' := 10) kc_12_7 rfl rfl ?_
                  refine xi_iconst (pc' := 11) (v := 1) kc_12_10 rfl rfl ?_
                  refine xi_goto (pc' := 15) kc_12_11 rfl ?_
                  refine xi_ireturn kc_12_15 mr_12 rfl ?_
                  show xw J ov 99 10 (24, [(0, .ref 115), (1, .int 0), (2, .int 0), (3, .int a3)], [.int 1], hh3) _
                  refine xi_ift (pc' := 34) kc_10_24 rfl rfl ?_
                  refine xi_iload_n (pc' := 35) (x := a3) kc_10_34 rfl rfl ?_
                  refine xi_iload_n (pc' := 36) (x := 0) kc_10_35 rfl rfl ?_
                  refine xi_iff (pc' := 39) kc_10_36 rfl rfl ?_
                  refine xi_bipush (pc' := 41) (v := 10) kc_10_39 rfl rfl ?_
                  refine xi_goto (pc' := 45) kc_10_41 rfl ?_
                  refine xi_cmt (pc' := 55) kc_10_45 rfl (xc_ge_t (X := a3.toInt) (Y := 10) rfl (by decide) (by omega)) ?_
                  refine xi_iload_n (pc' := 56) (x := a3) kc_10_55 rfl rfl ?_
                  refine xi_iload_n (pc' := 57) (x := 0) kc_10_56 rfl rfl ?_
                  refine xi_iff (pc' := 60) kc_10_57 rfl rfl ?_
                  refine xi_bipush (pc' := 62) (v := 99) kc_10_60 rfl rfl ?_
                  refine xi_goto (pc' := 96) kc_10_62 rfl ?_
                  refine xi_cmt (pc' := 106) kc_10_96 rfl (xc_le_t (X := a3.toInt) (Y := 99) rfl (by decide) (by omega)) ?_
                  refine xi_aload_n (pc' := 107) (x := 115) kc_10_106 rfl rfl ?_
                  refine xi_iload_n (pc' := 108) (x := 0) kc_10_107 rfl rfl ?_
                  refine xi_iload_n (pc' := 109) (x := 0) kc_10_108 rfl rfl ?_
                  refine xi_virtual (mj := 14) (as := [.int 0, .int 0]) (st1 := []) (lv0 := [(0, .ref 115), (1, .int 0), (2, .int 0)]) kc_10_109 rfl rfl rfl rfl rfl eh3.1 (Nat.le_of_ble_eq_true rfl) (hJ _ _ _ _ (by decide)) (xm_le ml_14 rfl) rfl ?_
                  refine xi_iload_n (pc' := 1) (x := 0) kc_14_0 rfl rfl ?_
                  refine xi_tsi (pc' := 36) (z := 0) kc_14_1 (rfl) rfl (by decide) ?_
                  refine xi_aload_n (pc' := 37) (x := 115) kc_14_36 rfl rfl ?_
                  refine xi_getfield (pc' := 40) (v := .ref 116) kc_14_37 rfl rfl rfl eh3.1 rfl ?_
                  refine xi_iload_n (pc' := 41) (x := 0) kc_14_40 rfl rfl ?_
                  refine xi_iaload (pc' := 42) (v := 40) kc_14_41 rfl ((eh3.2.1 116 (by decide)).trans ((eh2.2.1 116 (by decide)).trans ((eh1.2.1 116 (by decide)).trans (F 116 _ hl_116)))) (by decide) rfl (xi_in (n := 6) (by decide) (by decide)) rfl ?_
                  refine xi_ireturn kc_14_42 mr_14 rfl ?_
                  show xw J ov 99 10 (112, [(0, .ref 115), (1, .int 0), (2, .int 0), (3, .int a3)], [.int 40], hh3) _
                  refine xi_istore (pc' := 114) (lv' := [(4, .int 40), (0, .ref 115), (1, .int 0), (2, .int 0), (3, .int a3)]) kc_10_112 rfl rfl (xm_lt ml_10 rfl) ?_
                  refine xi_aload_n (pc' := 115) (x := 115) kc_10_114 rfl rfl ?_
                  refine xi_iload_n (pc' := 116) (x := 0) kc_10_115 rfl rfl ?_
                  refine xi_iload_n (pc' := 117) (x := 0) kc_10_116 rfl rfl ?_
                  refine xi_iload_n (pc' := 118) (x := a3) kc_10_117 rfl rfl ?_
                  refine xi_virtual (mj := 15) (as := [.int 0, .int 0, .int a3]) (st1 := []) (lv0 := [(0, .ref 115), (1, .int 0), (2, .int 0), (3, .int a3)]) kc_10_118 rfl rfl rfl rfl rfl eh3.1 (Nat.le_of_ble_eq_true rfl) (hJ _ _ _ _ (by decide)) (xm_le ml_15 rfl) rfl ?_
                  refine xi_aload_n (pc' := 1) (x := 115) kc_15_0 rfl rfl ?_
                  refine xi_getfield (pc' := 4) (v := .ref 116) kc_15_1 rfl rfl rfl eh3.1 rfl ?_
                  refine xi_iload_n (pc' := 5) (x := 0) kc_15_4 rfl rfl ?_
                  refine xi_iload_n (pc' := 6) (x := 0) kc_15_5 rfl rfl ?_
                  refine xi_iff (pc' := 9) kc_15_6 rfl rfl ?_
                  refine xi_iload_n (pc' := 10) (x := a3) kc_15_9 rfl rfl ?_
                  refine xi_goto (pc' := 19) kc_15_10 rfl ?_
                  refine xi_iastore (pc' := 20) (x' := [a3, 40, 40, 40, 40, 40]) kc_15_19 rfl ((eh3.2.1 116 (by decide)).trans ((eh2.2.1 116 (by decide)).trans ((eh1.2.1 116 (by decide)).trans (F 116 _ hl_116)))) rfl (xi_in (n := 6) (by decide) (by decide)) rfl (fun hh4 eh4 => ?_)
                  refine xi_aload_n (pc' := 21) (x := 115) kc_15_20 rfl rfl ?_
                  refine xi_getfield (pc' := 24) (v := .ref 117) kc_15_21 rfl rfl rfl ((eh4.2.1 115 (by decide)).trans eh3.1) rfl ?_
                  refine xi_iload_n (pc' := 25) (x := 0) kc_15_24 rfl rfl ?_
                  refine xi_iload_n (pc' := 26) (x := 0) kc_15_25 rfl rfl ?_
                  refine xi_iconst (pc' := 27) (v := 1) kc_15_26 rfl rfl ?_
                  refine xi_cmt (pc' := 34) kc_15_27 rfl rfl ?_
                  refine xi_aload_n (pc' := 35) (x := 115) kc_15_34 rfl rfl ?_
                  refine xi_getfield (pc' := 38) (v := .ref 117) kc_15_35 rfl rfl rfl ((eh4.2.1 115 (by decide)).trans eh3.1) rfl ?_
                  refine xi_iload_n (pc' := 39) (x := 0) kc_15_38 rfl rfl ?_
                  refine xi_iaload (pc' := 40) (v := 18) kc_15_39 rfl ((eh4.2.1 117 (by decide)).trans ((eh3.2.1 117 (by decide)).trans ((eh2.2.1 117 (by decide)).trans ((eh1.2.1 117 (by decide)).trans (F 117 _ hl_117))))) (by decide) rfl (xi_in (n := 6) (by decide) (by decide)) rfl ?_
                  refine xi_iastore (pc' := 41) (x' := [18, 18, 18, 18, 18, 18]) kc_15_40 rfl ((eh4.2.1 117 (by decide)).trans ((eh3.2.1 117 (by decide)).trans ((eh2.2.1 117 (by decide)).trans ((eh1.2.1 117 (by decide)).trans (F 117 _ hl_117))))) rfl (xi_in (n := 6) (by decide) (by decide)) rfl (fun hh5 eh5 => ?_)
                  refine xi_aload_n (pc' := 42) (x := 115) kc_15_41 rfl rfl ?_
                  refine xi_getfield (pc' := 45) (v := .ref 118) kc_15_42 rfl rfl rfl ((eh5.2.1 115 (by decide)).trans ((eh4.2.1 115 (by decide)).trans eh3.1)) rfl ?_
                  refine xi_iload_n (pc' := 46) (x := 0) kc_15_45 rfl rfl ?_
                  refine xi_iload_n (pc' := 47) (x := 0) kc_15_46 rfl rfl ?_
                  refine xi_iconst (pc' := 48) (v := 2) kc_15_47 rfl rfl ?_
                  refine xi_cmt (pc' := 55) kc_15_48 rfl rfl ?_
                  refine xi_aload_n (pc' := 56) (x := 115) kc_15_55 rfl rfl ?_
                  refine xi_getfield (pc' := 59) (v := .ref 118) kc_15_56 rfl rfl rfl ((eh5.2.1 115 (by decide)).trans ((eh4.2.1 115 (by decide)).trans eh3.1)) rfl ?_
                  refine xi_iload_n (pc' := 60) (x := 0) kc_15_59 rfl rfl ?_
                  refine xi_iaload (pc' := 61) (v := 10) kc_15_60 rfl ((eh5.2.1 118 (by decide)).trans ((eh4.2.1 118 (by decide)).trans ((eh3.2.1 118 (by decide)).trans ((eh2.2.1 118 (by decide)).trans ((eh1.2.1 118 (by decide)).trans (F 118 _ hl_118)))))) (by decide) rfl (xi_in (n := 6) (by decide) (by decide)) rfl ?_
                  refine xi_iastore (pc' := 62) (x' := [10, 10, 10, 10, 10, 10]) kc_15_61 rfl ((eh5.2.1 118 (by decide)).trans ((eh4.2.1 118 (by decide)).trans ((eh3.2.1 118 (by decide)).trans ((eh2.2.1 118 (by decide)).trans ((eh1.2.1 118 (by decide)).trans (F 118 _ hl_118)))))) rfl (xi_in (n := 6) (by decide) (by decide)) rfl (fun hh6 eh6 => ?_)
                  refine xi_aload_n (pc' := 63) (x := 115) kc_15_62 rfl rfl ?_
                  refine xi_getfield (pc' := 66) (v := .ref 119) kc_15_63 rfl rfl rfl ((eh6.2.1 115 (by decide)).trans ((eh5.2.1 115 (by decide)).trans ((eh4.2.1 115 (by decide)).trans eh3.1))) rfl ?_
                  refine xi_iload_n (pc' := 67) (x := 0) kc_15_66 rfl rfl ?_
                  refine xi_iload_n (pc' := 68) (x := 0) kc_15_67 rfl rfl ?_
                  refine xi_iconst (pc' := 69) (v := 3) kc_15_68 rfl rfl ?_
                  refine xi_cmt (pc' := 76) kc_15_69 rfl rfl ?_
                  refine xi_aload_n (pc' := 77) (x := 115) kc_15_76 rfl rfl ?_
                  refine xi_getfield (pc' := 80) (v := .ref 119) kc_15_77 rfl rfl rfl ((eh6.2.1 115 (by decide)).trans ((eh5.2.1 115 (by decide)).trans ((eh4.2.1 115 (by decide)).trans eh3.1))) rfl ?_
                  refine xi_iload_n (pc' := 81) (x := 0) kc_15_80 rfl rfl ?_
                  refine xi_iaload (pc' := 82) (v := 0) kc_15_81 rfl ((eh6.2.1 119 (by decide)).trans ((eh5.2.1 119 (by decide)).trans ((eh4.2.1 119 (by decide)).trans ((eh3.2.1 119 (by decide)).trans ((eh2.2.1 119 (by decide)).trans ((eh1.2.1 119 (by decide)).trans (F 119 _ hl_119))))))) (by decide) rfl (xi_in (n := 6) (by decide) (by decide)) rfl ?_
                  refine xi_iastore (pc' := 83) (x' := [0, 0, 0, 0, 0, 0]) kc_15_82 rfl ((eh6.2.1 119 (by decide)).trans ((eh5.2.1 119 (by decide)).trans ((eh4.2.1 119 (by decide)).trans ((eh3.2.1 119 (by decide)).trans ((eh2.2.1 119 (by decide)).trans ((eh1.2.1 119 (by decide)).trans (F 119 _ hl_119))))))) rfl (xi_in (n := 6) (by decide) (by decide)) rfl (fun hh7 eh7 => ?_)
                  refine xi_aload_n (pc' := 84) (x := 115) kc_15_83 rfl rfl ?_
                  refine xi_getfield (pc' := 87) (v := .ref 120) kc_15_84 rfl rfl rfl ((eh7.2.1 115 (by decide)).trans ((eh6.2.1 115 (by decide)).trans ((eh5.2.1 115 (by decide)).trans ((eh4.2.1 115 (by decide)).trans eh3.1)))) rfl ?_
                  refine xi_iload_n (pc' := 88) (x := 0) kc_15_87 rfl rfl ?_
                  refine xi_iload_n (pc' := 89) (x := 0) kc_15_88 rfl rfl ?_
                  refine xi_iconst (pc' := 90) (v := 4) kc_15_89 rfl rfl ?_
                  refine xi_cmt (pc' := 97) kc_15_90 rfl rfl ?_
                  refine xi_aload_n (pc' := 98) (x := 115) kc_15_97 rfl rfl ?_
                  refine xi_getfield (pc' := 101) (v := .ref 120) kc_15_98 rfl rfl rfl ((eh7.2.1 115 (by decide)).trans ((eh6.2.1 115 (by decide)).trans ((eh5.2.1 115 (by decide)).trans ((eh4.2.1 115 (by decide)).trans eh3.1)))) rfl ?_
                  refine xi_iload_n (pc' := 102) (x := 0) kc_15_101 rfl rfl ?_
                  refine xi_iaload (pc' := 103) (v := 0) kc_15_102 rfl ((eh7.2.1 120 (by decide)).trans ((eh6.2.1 120 (by decide)).trans ((eh5.2.1 120 (by decide)).trans ((eh4.2.1 120 (by decide)).trans ((eh3.2.1 120 (by decide)).trans ((eh2.2.1 120 (by decide)).trans ((eh1.2.1 120 (by decide)).trans (F 120 _ hl_120)))))))) (by decide) rfl (xi_in (n := 6) (by decide) (by decide)) rfl ?_
                  refine xi_iastore (pc' := 104) (x' := [0, 0, 0, 0, 0, 0]) kc_15_103 rfl ((eh7.2.1 120 (by decide)).trans ((eh6.2.1 120 (by decide)).trans ((eh5.2.1 120 (by decide)).trans ((eh4.2.1 120 (by decide)).trans ((eh3.2.1 120 (by decide)).trans ((eh2.2.1 120 (by decide)).trans ((eh1.2.1 120 (by decide)).trans (F 120 _ hl_120)))))))) rfl (xi_in (n := 6) (by decide) (by decide)) rfl (fun hh8 eh8 => ?_)
                  refine xi_aload_n (pc' := 105) (x := 115) kc_15_104 rfl rfl ?_
                  refine xi_getfield (pc' := 108) (v := .ref 121) kc_15_105 rfl rfl rfl ((eh8.2.1 115 (by decide)).trans ((eh7.2.1 115 (by decide)).trans ((eh6.2.1 115 (by decide)).trans ((eh5.2.1 115 (by decide)).trans ((eh4.2.1 115 (by decide)).trans eh3.1))))) rfl ?_
                  refine xi_iload_n (pc' := 109) (x := 0) kc_15_108 rfl rfl ?_
                  refine xi_iload_n (pc' := 110) (x := 0) kc_15_109 rfl rfl ?_
                  refine xi_iconst (pc' := 111) (v := 5) kc_15_110 rfl rfl ?_
                  refine xi_cmt (pc' := 118) kc_15_111 rfl rfl ?_
                  refine xi_aload_n (pc' := 119) (x := 115) kc_15_118 rfl rfl ?_
                  refine xi_getfield (pc' := 122) (v := .ref 121) kc_15_119 rfl rfl rfl ((eh8.2.1 115 (by decide)).trans ((eh7.2.1 115 (by decide)).trans ((eh6.2.1 115 (by decide)).trans ((eh5.2.1 115 (by decide)).trans ((eh4.2.1 115 (by decide)).trans eh3.1))))) rfl ?_
                  refine xi_iload_n (pc' := 123) (x := 0) kc_15_122 rfl rfl ?_
                  refine xi_iaload (pc' := 124) (v := 0) kc_15_123 rfl ((eh8.2.1 121 (by decide)).trans ((eh7.2.1 121 (by decide)).trans ((eh6.2.1 121 (by decide)).trans ((eh5.2.1 121 (by decide)).trans ((eh4.2.1 121 (by decide)).trans ((eh3.2.1 121 (by decide)).trans ((eh2.2.1 121 (by decide)).trans ((eh1.2.1 121 (by decide)).trans (F 121 _ hl_121))))))))) (by decide) rfl (xi_in (n := 6) (by decide) (by decide)) rfl ?_
                  refine xi_iastore (pc' := 125) (x' := [0, 0, 0, 0, 0, 0]) kc_15_124 rfl ((eh8.2.1 121 (by decide)).trans ((eh7.2.1 121 (by decide)).trans ((eh6.2.1 121 (by decide)).trans ((eh5.2.1 121 (by decide)).trans ((eh4.2.1 121 (by decide)).trans ((eh3.2.1 121 (by decide)).trans ((eh2.2.1 121 (by decide)).trans ((eh1.2.1 121 (by decide)).trans (F 121 _ hl_121))))))))) rfl (xi_in (n := 6) (by decide) (by decide)) rfl (fun hh9 eh9 => ?_)
                  refine xi_aload_n (pc' := 126) (x := 115) kc_15_125 rfl rfl ?_
                  refine xi_iconst (pc' := 127) (v := 0) kc_15_126 rfl rfl ?_
                  refine xi_putfield (pc' := 130) (fs' := [.int 0, .int 0, .ref 116, .ref 117, .ref 118, .ref 119, .ref 120, .ref 121, .ref 122, .ref 123, .ref 124, .ref 125, .ref 126, .ref 127, .ref 128, .ref 129, .int 4, .ref 130, .int 0, .ref 131, .ref 132, .ref 133, .ref 134, .int 0, .ref 135, .ref 136, .ref 137, .ref 138, .ref 139, .ref 140, .ref 141, .ref 142, .int 0, .int 0, .int 0, .ref 143, .ref 144, .ref 145, .ref 146, .ref 147, .ref 148, .int 0, .ref 149, .ref 150, .ref 151, .int 0, .ref 152, .ref 153, .ref 154, .ref 155, .ref 156, .ref 157, .ref 158, .ref 159, .int 0, .ref 160, .int 0, .ref 161, .ref 162, .ref 163, .ref 164, .int 0, .ref 165, .ref 166]) kc_15_127 rfl rfl rfl ((eh9.2.1 115 (by decide)).trans ((eh8.2.1 115 (by decide)).trans ((eh7.2.1 115 (by decide)).trans ((eh6.2.1 115 (by decide)).trans ((eh5.2.1 115 (by decide)).trans ((eh4.2.1 115 (by decide)).trans eh3.1)))))) rfl rfl rfl (Nat.le_of_ble_eq_true rfl) rfl (fun hh10 eh10 => ?_)
                  refine xi_return kc_15_130 mr_15 ?_
                  show xw J ov 99 10 (121, [(4, .int 40), (0, .ref 115), (1, .int 0), (2, .int 0), (3, .int a3)], [], hh10) _
                  refine xi_iload (pc' := 123) (x := 40) kc_10_121 rfl rfl ?_
                  refine xi_ireturn kc_10_123 mr_10 rfl ?_
                  show xw J ov 100 196 (236, [(4, .int 0), (3, .ref 167), (2, .ref 115), (1, .ref 0), (0, .ref 1000000)], [.int 40, .int 40], hh10) _
                  refine xi_cmt (pc' := 1528) kc_196_236 rfl rfl ?_
                  refine xi_iinc (pc' := 1531) (x := 0) (v := 6) (lv' := [(4, .int 6), (3, .ref 167), (2, .ref 115), (1, .ref 0), (0, .ref 1000000)]) kc_196_1528 rfl rfl rfl rfl (xm_lt ml_196 rfl) ?_
                  refine xi_goto (pc' := 23) kc_196_1531 rfl ?_
                  refine xi_iload (pc' := 25) (x := 6) kc_196_23 rfl rfl ?_
                  refine xi_aload_n (pc' := 26) (x := 1000000) kc_196_25 rfl rfl ?_
                  refine xi_arraylength (pc' := 27) (n := 6) (v := 6) kc_196_26 rfl (xl_lenO (by decide) hov0 rfl) rfl ?_
                  refine xi_bipush (pc' := 29) (v := 6) kc_196_27 rfl rfl ?_
                  refine xi_isub (pc' := 30) (v := 0) kc_196_29 rfl rfl ?_
                  refine xi_cmt (pc' := 1534) kc_196_30 rfl rfl ?_
                  refine xi_iconst (pc' := 1535) (v := 1) kc_196_1534 rfl rfl ?_
                  refine xi_ireturn kc_196_1535 mr_196 rfl ?_
                  refine ⟨rfl, ?_, ?_⟩
                  · rw [eh10.2.2.1, eh9.2.2.1, eh8.2.2.1, eh7.2.2.1, eh6.2.2.1, eh5.2.2.1, eh4.2.2.1, eh3.2.2.1, eh2.2.2.1, eh1.2.2.1]; exact hn0
                  · rw [eh10.2.2.2, eh9.2.2.2, eh8.2.2.2, eh7.2.2.2, eh6.2.2.2, eh5.2.2.2, eh4.2.2.2, eh3.2.2.2, eh2.2.2.2, eh1.2.2.2]; exact hz0
                by_cases c9 : a1.toInt = 1
                · have qa1 : a1 = 1 := xc_of (Eq.trans (by omega) (show (1 : Int) = (1 : Int32).toInt by decide))
                  subst qa1
                  refine xi_aaload (pc' := 13) (b := 14) kc_93_12 rfl ((eh1.2.1 2 (by decide)).trans (F 2 _ hl_2)) rfl (xi_in (n := 6) (by decide) (by decide)) rfl ?_
                  refine xi_iload_n (pc' := 14) (x := 0) kc_93_13 rfl rfl ?_
                  refine xi_iload_n (pc' := 15) (x := a3) kc_93_14 rfl rfl ?_
                  refine xi_virtual (mj := 94) (as := [.int 0, .int a3]) (st1 := []) (lv0 := [(0, .ref 14), (1, .int 0), (2, .int a3)]) kc_93_15 rfl rfl rfl rfl rfl ((eh1.2.1 14 (by decide)).trans (F 14 _ hl_14)) (Nat.le_of_ble_eq_true rfl) (hJ _ _ _ _ (by decide)) (xm_le ml_94 rfl) rfl ?_
                  refine xi_iload_n (pc' := 1) (x := 0) kc_94_0 rfl rfl ?_
                  refine xi_iff (pc' := 4) kc_94_1 rfl rfl ?_
                  refine xi_iload_n (pc' := 5) (x := 0) kc_94_4 rfl rfl ?_
                  refine xi_iconst (pc' := 6) (v := 5) kc_94_5 rfl rfl ?_
                  refine xi_cmt (pc' := 11) kc_94_6 rfl rfl ?_
                  refine xi_aload_n (pc' := 12) (x := 14) kc_94_11 rfl rfl ?_
                  refine xi_getfield (pc' := 15) (v := .ref 15) kc_94_12 rfl rfl rfl ((eh1.2.1 14 (by decide)).trans (F 14 _ hl_14)) rfl ?_
                  refine xi_iload_n (pc' := 16) (x := 0) kc_94_15 rfl rfl ?_
                  refine xi_iaload (pc' := 17) (v := 40) kc_94_16 rfl ((eh1.2.1 15 (by decide)).trans (F 15 _ hl_15)) (by decide) rfl (xi_in (n := 5) (by decide) (by decide)) rfl ?_
                  refine xi_istore_n (pc' := 18) (lv' := [(3, .int 40), (0, .ref 14), (1, .int 0), (2, .int a3)]) kc_94_17 rfl rfl (xm_lt ml_94 rfl) ?_
                  refine xi_aload_n (pc' := 19) (x := 14) kc_94_18 rfl rfl ?_
                  refine xi_getfield (pc' := 22) (v := .ref 15) kc_94_19 rfl rfl rfl ((eh1.2.1 14 (by decide)).trans (F 14 _ hl_14)) rfl ?_
                  refine xi_iload_n (pc' := 23) (x := 0) kc_94_22 rfl rfl ?_
                  refine xi_iload_n (pc' := 24) (x := a3) kc_94_23 rfl rfl ?_
                  refine xi_iastore (pc' := 25) (x' := [a3, 18, 10, 0, 0]) kc_94_24 rfl ((eh1.2.1 15 (by decide)).trans (F 15 _ hl_15)) rfl (xi_in (n := 5) (by decide) (by decide)) rfl (fun hh2 eh2 => ?_)
                  refine xi_iload_n (pc' := 26) (x := 40) kc_94_25 rfl rfl ?_
                  refine xi_ireturn kc_94_26 mr_94 rfl ?_
                  show xw J ov 98 93 (18, [(0, .ref 1), (1, .int 1), (2, .int 0), (3, .int a3)], [.int 40], hh2) _
                  refine xi_goto (pc' := 22) kc_93_18 rfl ?_
                  refine xi_ireturn kc_93_22 mr_93 rfl ?_
                  show xw J ov 99 89 (107, [(0, .ref 0), (1, .int 1), (2, .int 0), (3, .int a3)], [.int 40], hh2) _
                  refine xi_ireturn kc_89_107 mr_89 rfl ?_
                  show xw J ov 100 196 (214, [(4, .int 0), (3, .ref 167), (2, .ref 115), (1, .ref 0), (0, .ref 1000000)], [.int 40], hh2) _
                  refine xi_aload_n (pc' := 215) (x := 115) kc_196_214 rfl rfl ?_
                  refine xi_aload_n (pc' := 216) (x := 1000000) kc_196_215 rfl rfl ?_
                  refine xi_iload (pc' := 218) (x := 0) kc_196_216 rfl rfl ?_
                  refine xi_iconst (pc' := 219) (v := 1) kc_196_218 rfl rfl ?_
                  refine xi_iadd (pc' := 220) (v := 1) kc_196_219 rfl rfl ?_
                  refine xi_ialoadO (pc' := 221) (v := 1) kc_196_220 rfl (by decide) hov0 (xi_in (n := 6) (by decide) (by decide)) rfl ?_
                  refine xi_aload_n (pc' := 222) (x := 1000000) kc_196_221 rfl rfl ?_
                  refine xi_iload (pc' := 224) (x := 0) kc_196_222 rfl rfl ?_
                  refine xi_iconst (pc' := 225) (v := 2) kc_196_224 rfl rfl ?_
                  refine xi_iadd (pc' := 226) (v := 2) kc_196_225 rfl rfl ?_
                  refine xi_ialoadO (pc' := 227) (v := 0) kc_196_226 rfl (by decide) hov0 (xi_in (n := 6) (by decide) (by decide)) rfl ?_
                  refine xi_aload_n (pc' := 228) (x := 1000000) kc_196_227 rfl rfl ?_
                  refine xi_iload (pc' := 230) (x := 0) kc_196_228 rfl rfl ?_
                  refine xi_iconst (pc' := 231) (v := 3) kc_196_230 rfl rfl ?_
                  refine xi_iadd (pc' := 232) (v := 3) kc_196_231 rfl rfl ?_
                  refine xi_ialoadO (pc' := 233) (v := a3) kc_196_232 rfl (by decide) hov0 (xi_in (n := 6) (by decide) (by decide)) rfl ?_
                  refine xi_virtual (mj := 10) (as := [.int 1, .int 0, .int a3]) (st1 := [.int 40]) (lv0 := [(0, .ref 115), (1, .int 1), (2, .int 0), (3, .int a3)]) kc_196_233 rfl rfl rfl rfl rfl ((eh2.2.1 115 (by decide)).trans ((eh1.2.1 115 (by decide)).trans (F 115 _ hl_115))) (Nat.le_of_ble_eq_true rfl) (hJ _ _ _ _ (by decide)) (xm_le ml_10 rfl) rfl ?_
                  refine xi_aload_n (pc' := 1) (x := 115) kc_10_0 rfl rfl ?_
                  refine xi_iconst (pc' := 2) (v := 0) kc_10_1 rfl rfl ?_
                  refine xi_putfield (pc' := 5) (fs' := [.int 0, .int 0, .ref 116, .ref 117, .ref 118, .ref 119, .ref 120, .ref 121, .ref 122, .ref 123, .ref 124, .ref 125, .ref 126, .ref 127, .ref 128, .ref 129, .int 4, .ref 130, .int 0, .ref 131, .ref 132, .ref 133, .ref 134, .int 0, .ref 135, .ref 136, .ref 137, .ref 138, .ref 139, .ref 140, .ref 141, .ref 142, .int 0, .int 0, .int 0, .ref 143, .ref 144, .ref 145, .ref 146, .ref 147, .ref 148, .int 0, .ref 149, .ref 150, .ref 151, .int 0, .ref 152, .ref 153, .ref 154, .ref 155, .ref 156, .ref 157, .ref 158, .ref 159, .int 0, .ref 160, .int 0, .ref 161, .ref 162, .ref 163, .ref 164, .int 0, .ref 165, .ref 166]) kc_10_2 rfl rfl rfl ((eh2.2.1 115 (by decide)).trans ((eh1.2.1 115 (by decide)).trans (F 115 _ hl_115))) rfl rfl rfl (Nat.le_of_ble_eq_true rfl) rfl (fun hh3 eh3 => ?_)
                  refine xi_iload_n (pc' := 6) (x := 1) kc_10_5 rfl rfl ?_
                  refine xi_static (mj := 11) (as := [.int 1]) (st1 := []) (lv0 := [(0, .int 1)]) kc_10_6 rfl rfl (Nat.le_of_ble_eq_true rfl) rfl rfl (Nat.le_of_ble_eq_true rfl) (hJ _ _ _ _ (by decide)) (xm_le ml_11 rfl) rfl ?_
                  refine xi_iload_n (pc' := 1) (x := 1) kc_11_0 rfl rfl ?_
                  refine xi_iconst (pc' := 2) (v := 0) kc_11_1 rfl rfl ?_
                  refine xi_iconst (pc' := 3) (v := 5) kc_11_2 rfl rfl ?_
                  refine xi_static (mj := 12) (as := [.int 1, .int 0, .int 5]) (st1 := []) (lv0 := [(0, .int 1), (1, .int 0), (2, .int 5)]) kc_11_3 rfl rfl (Nat.le_of_ble_eq_true rfl) rfl rfl (Nat.le_of_ble_eq_true rfl) (hJ _ _ _ _ (by decide)) (xm_le ml_12 rfl) rfl ?_
                  refine xi_iload_n (pc' := 1) (x := 1) kc_12_0 rfl rfl ?_
                  refine xi_iload_n (pc' := 2) (x := 0) kc_12_1 rfl rfl ?_
                  refine xi_cmf (pc' := 5) kc_12_2 rfl rfl ?_
                  refine xi_iload_n (pc' := 6) (x := 1) kc_12_5 rfl rfl ?_
                  refine xi_iload_n (pc' := 7) (x := 5) kc_12_6 rfl rfl ?_
                  refine xi_cmf (pc' := 10) kc_12_7 rfl rfl ?_
                  refine xi_iconst (pc' := 11) (v := 1) kc_12_10 rfl rfl ?_
                  refine xi_goto (pc' := 15) kc_12_11 rfl ?_
                  refine xi_ireturn kc_12_15 mr_12 rfl ?_
                  show xw J ov 98 11 (6, [(0, .int 1)], [.int 1], hh3) _
                  refine xi_ireturn kc_11_6 mr_11 rfl ?_
                  show xw J ov 99 10 (9, [(0, .ref 115), (1, .int 1), (2, .int 0), (3, .int a3)], [.int 1], hh3) _
                  refine xi_ift (pc' := 18) kc_10_9 rfl rfl ?_
                  refine xi_iload_n (pc' := 19) (x := 0) kc_10_18 rfl rfl ?_
                  refine xi_iconst (pc' := 20) (v := 0) kc_10_19 rfl rfl ?_
                  refine xi_iconst (pc' := 21) (v := 5) kc_10_20 rfl rfl ?_
                  refine xi_static (mj := 12) (as := [.int 0, .int 0, .int 5]) (st1 := []) (lv0 := [(0, .int 0), (1, .int 0), (2, .int 5)]) kc_10_21 rfl rfl (Nat.le_of_ble_eq_true rfl) rfl rfl (Nat.le_of_ble_eq_true rfl) (hJ _ _ _ _ (by decide)) (xm_le ml_12 rfl) rfl ?_
                  refine xi_iload_n (pc' := 1) (x := 0) kc_12_0 rfl rfl ?_
                  refine xi_iload_n (pc' := 2) (x := 0) kc_12_1 rfl rfl ?_
                  refine xi_cmf (pc' := 5) kc_12_2 rfl rfl ?_
                  refine xi_iload_n (pc' := 6) (x := 0) kc_12_5 rfl rfl ?_
                  refine xi_iload_n (pc' := 7) (x := 5) kc_12_6 rfl rfl ?_
                  refine xi_cmf (pc' := 10) kc_12_7 rfl rfl ?_
                  refine xi_iconst (pc' := 11) (v := 1) kc_12_10 rfl rfl ?_
                  refine xi_goto (pc' := 15) kc_12_11 rfl ?_
                  refine xi_ireturn kc_12_15 mr_12 rfl ?_
                  show xw J ov 99 10 (24, [(0, .ref 115), (1, .int 1), (2, .int 0), (3, .int a3)], [.int 1], hh3) _
                  refine xi_ift (pc' := 34) kc_10_24 rfl rfl ?_
                  refine xi_iload_n (pc' := 35) (x := a3) kc_10_34 rfl rfl ?_
                  refine xi_iload_n (pc' := 36) (x := 0) kc_10_35 rfl rfl ?_
                  refine xi_iff (pc' := 39) kc_10_36 rfl rfl ?_
                  refine xi_bipush (pc' := 41) (v := 10) kc_10_39 rfl rfl ?_
                  refine xi_goto (pc' := 45) kc_10_41 rfl ?_
                  refine xi_cmt (pc' := 55) kc_10_45 rfl (xc_ge_t (X := a3.toInt) (Y := 10) rfl (by decide) (by omega)) ?_
                  refine xi_iload_n (pc' := 56) (x := a3) kc_10_55 rfl rfl ?_
                  refine xi_iload_n (pc' := 57) (x := 0) kc_10_56 rfl rfl ?_
                  refine xi_iff (pc' := 60) kc_10_57 rfl rfl ?_
                  refine xi_bipush (pc' := 62) (v := 99) kc_10_60 rfl rfl ?_
                  refine xi_goto (pc' := 96) kc_10_62 rfl ?_
                  refine xi_cmt (pc' := 106) kc_10_96 rfl (xc_le_t (X := a3.toInt) (Y := 99) rfl (by decide) (by omega)) ?_
                  refine xi_aload_n (pc' := 107) (x := 115) kc_10_106 rfl rfl ?_
                  refine xi_iload_n (pc' := 108) (x := 1) kc_10_107 rfl rfl ?_
                  refine xi_iload_n (pc' := 109) (x := 0) kc_10_108 rfl rfl ?_
                  refine xi_virtual (mj := 14) (as := [.int 1, .int 0]) (st1 := []) (lv0 := [(0, .ref 115), (1, .int 1), (2, .int 0)]) kc_10_109 rfl rfl rfl rfl rfl eh3.1 (Nat.le_of_ble_eq_true rfl) (hJ _ _ _ _ (by decide)) (xm_le ml_14 rfl) rfl ?_
                  refine xi_iload_n (pc' := 1) (x := 0) kc_14_0 rfl rfl ?_
                  refine xi_tsi (pc' := 36) (z := 0) kc_14_1 (rfl) rfl (by decide) ?_
                  refine xi_aload_n (pc' := 37) (x := 115) kc_14_36 rfl rfl ?_
                  refine xi_getfield (pc' := 40) (v := .ref 116) kc_14_37 rfl rfl rfl eh3.1 rfl ?_
                  refine xi_iload_n (pc' := 41) (x := 1) kc_14_40 rfl rfl ?_
                  refine xi_iaload (pc' := 42) (v := 40) kc_14_41 rfl ((eh3.2.1 116 (by decide)).trans ((eh2.2.1 116 (by decide)).trans ((eh1.2.1 116 (by decide)).trans (F 116 _ hl_116)))) (by decide) rfl (xi_in (n := 6) (by decide) (by decide)) rfl ?_
                  refine xi_ireturn kc_14_42 mr_14 rfl ?_
                  show xw J ov 99 10 (112, [(0, .ref 115), (1, .int 1), (2, .int 0), (3, .int a3)], [.int 40], hh3) _
                  refine xi_istore (pc' := 114) (lv' := [(4, .int 40), (0, .ref 115), (1, .int 1), (2, .int 0), (3, .int a3)]) kc_10_112 rfl rfl (xm_lt ml_10 rfl) ?_
                  refine xi_aload_n (pc' := 115) (x := 115) kc_10_114 rfl rfl ?_
                  refine xi_iload_n (pc' := 116) (x := 1) kc_10_115 rfl rfl ?_
                  refine xi_iload_n (pc' := 117) (x := 0) kc_10_116 rfl rfl ?_
                  refine xi_iload_n (pc' := 118) (x := a3) kc_10_117 rfl rfl ?_
                  refine xi_virtual (mj := 15) (as := [.int 1, .int 0, .int a3]) (st1 := []) (lv0 := [(0, .ref 115), (1, .int 1), (2, .int 0), (3, .int a3)]) kc_10_118 rfl rfl rfl rfl rfl eh3.1 (Nat.le_of_ble_eq_true rfl) (hJ _ _ _ _ (by decide)) (xm_le ml_15 rfl) rfl ?_
                  refine xi_aload_n (pc' := 1) (x := 115) kc_15_0 rfl rfl ?_
                  refine xi_getfield (pc' := 4) (v := .ref 116) kc_15_1 rfl rfl rfl eh3.1 rfl ?_
                  refine xi_iload_n (pc' := 5) (x := 1) kc_15_4 rfl rfl ?_
                  refine xi_iload_n (pc' := 6) (x := 0) kc_15_5 rfl rfl ?_
                  refine xi_iff (pc' := 9) kc_15_6 rfl rfl ?_
                  refine xi_iload_n (pc' := 10) (x := a3) kc_15_9 rfl rfl ?_
                  refine xi_goto (pc' := 19) kc_15_10 rfl ?_
                  refine xi_iastore (pc' := 20) (x' := [40, a3, 40, 40, 40, 40]) kc_15_19 rfl ((eh3.2.1 116 (by decide)).trans ((eh2.2.1 116 (by decide)).trans ((eh1.2.1 116 (by decide)).trans (F 116 _ hl_116)))) rfl (xi_in (n := 6) (by decide) (by decide)) rfl (fun hh4 eh4 => ?_)
                  refine xi_aload_n (pc' := 21) (x := 115) kc_15_20 rfl rfl ?_
                  refine xi_getfield (pc' := 24) (v := .ref 117) kc_15_21 rfl rfl rfl ((eh4.2.1 115 (by decide)).trans eh3.1) rfl ?_
                  refine xi_iload_n (pc' := 25) (x := 1) kc_15_24 rfl rfl ?_
                  refine xi_iload_n (pc' := 26) (x := 0) kc_15_25 rfl rfl ?_
                  refine xi_iconst (pc' := 27) (v := 1) kc_15_26 rfl rfl ?_
                  refine xi_cmt (pc' := 34) kc_15_27 rfl rfl ?_
                  refine xi_aload_n (pc' := 35) (x := 115) kc_15_34 rfl rfl ?_
                  refine xi_getfield (pc' := 38) (v := .ref 117) kc_15_35 rfl rfl rfl ((eh4.2.1 115 (by decide)).trans eh3.1) rfl ?_
                  refine xi_iload_n (pc' := 39) (x := 1) kc_15_38 rfl rfl ?_
                  refine xi_iaload (pc' := 40) (v := 18) kc_15_39 rfl ((eh4.2.1 117 (by decide)).trans ((eh3.2.1 117 (by decide)).trans ((eh2.2.1 117 (by decide)).trans ((eh1.2.1 117 (by decide)).trans (F 117 _ hl_117))))) (by decide) rfl (xi_in (n := 6) (by decide) (by decide)) rfl ?_
                  refine xi_iastore (pc' := 41) (x' := [18, 18, 18, 18, 18, 18]) kc_15_40 rfl ((eh4.2.1 117 (by decide)).trans ((eh3.2.1 117 (by decide)).trans ((eh2.2.1 117 (by decide)).trans ((eh1.2.1 117 (by decide)).trans (F 117 _ hl_117))))) rfl (xi_in (n := 6) (by decide) (by decide)) rfl (fun hh5 eh5 => ?_)
                  refine xi_aload_n (pc' := 42) (x := 115) kc_15_41 rfl rfl ?_
                  refine xi_getfield (pc' := 45) (v := .ref 118) kc_15_42 rfl rfl rfl ((eh5.2.1 115 (by decide)).trans ((eh4.2.1 115 (by decide)).trans eh3.1)) rfl ?_
                  refine xi_iload_n (pc' := 46) (x := 1) kc_15_45 rfl rfl ?_
                  refine xi_iload_n (pc' := 47) (x := 0) kc_15_46 rfl rfl ?_
                  refine xi_iconst (pc' := 48) (v := 2) kc_15_47 rfl rfl ?_
                  refine xi_cmt (pc' := 55) kc_15_48 rfl rfl ?_
                  refine xi_aload_n (pc' := 56) (x := 115) kc_15_55 rfl rfl ?_
                  refine xi_getfield (pc' := 59) (v := .ref 118) kc_15_56 rfl rfl rfl ((eh5.2.1 115 (by decide)).trans ((eh4.2.1 115 (by decide)).trans eh3.1)) rfl ?_
                  refine xi_iload_n (pc' := 60) (x := 1) kc_15_59 rfl rfl ?_
                  refine xi_iaload (pc' := 61) (v := 10) kc_15_60 rfl ((eh5.2.1 118 (by decide)).trans ((eh4.2.1 118 (by decide)).trans ((eh3.2.1 118 (by decide)).trans ((eh2.2.1 118 (by decide)).trans ((eh1.2.1 118 (by decide)).trans (F 118 _ hl_118)))))) (by decide) rfl (xi_in (n := 6) (by decide) (by decide)) rfl ?_
                  refine xi_iastore (pc' := 62) (x' := [10, 10, 10, 10, 10, 10]) kc_15_61 rfl ((eh5.2.1 118 (by decide)).trans ((eh4.2.1 118 (by decide)).trans ((eh3.2.1 118 (by decide)).trans ((eh2.2.1 118 (by decide)).trans ((eh1.2.1 118 (by decide)).trans (F 118 _ hl_118)))))) rfl (xi_in (n := 6) (by decide) (by decide)) rfl (fun hh6 eh6 => ?_)
                  refine xi_aload_n (pc' := 63) (x := 115) kc_15_62 rfl rfl ?_
                  refine xi_getfield (pc' := 66) (v := .ref 119) kc_15_63 rfl rfl rfl ((eh6.2.1 115 (by decide)).trans ((eh5.2.1 115 (by decide)).trans ((eh4.2.1 115 (by decide)).trans eh3.1))) rfl ?_
                  refine xi_iload_n (pc' := 67) (x := 1) kc_15_66 rfl rfl ?_
                  refine xi_iload_n (pc' := 68) (x := 0) kc_15_67 rfl rfl ?_
                  refine xi_iconst (pc' := 69) (v := 3) kc_15_68 rfl rfl ?_
                  refine xi_cmt (pc' := 76) kc_15_69 rfl rfl ?_
                  refine xi_aload_n (pc' := 77) (x := 115) kc_15_76 rfl rfl ?_
                  refine xi_getfield (pc' := 80) (v := .ref 119) kc_15_77 rfl rfl rfl ((eh6.2.1 115 (by decide)).trans ((eh5.2.1 115 (by decide)).trans ((eh4.2.1 115 (by decide)).trans eh3.1))) rfl ?_
                  refine xi_iload_n (pc' := 81) (x := 1) kc_15_80 rfl rfl ?_
                  refine xi_iaload (pc' := 82) (v := 0) kc_15_81 rfl ((eh6.2.1 119 (by decide)).trans ((eh5.2.1 119 (by decide)).trans ((eh4.2.1 119 (by decide)).trans ((eh3.2.1 119 (by decide)).trans ((eh2.2.1 119 (by decide)).trans ((eh1.2.1 119 (by decide)).trans (F 119 _ hl_119))))))) (by decide) rfl (xi_in (n := 6) (by decide) (by decide)) rfl ?_
                  refine xi_iastore (pc' := 83) (x' := [0, 0, 0, 0, 0, 0]) kc_15_82 rfl ((eh6.2.1 119 (by decide)).trans ((eh5.2.1 119 (by decide)).trans ((eh4.2.1 119 (by decide)).trans ((eh3.2.1 119 (by decide)).trans ((eh2.2.1 119 (by decide)).trans ((eh1.2.1 119 (by decide)).trans (F 119 _ hl_119))))))) rfl (xi_in (n := 6) (by decide) (by decide)) rfl (fun hh7 eh7 => ?_)
                  refine xi_aload_n (pc' := 84) (x := 115) kc_15_83 rfl rfl ?_
                  refine xi_getfield (pc' := 87) (v := .ref 120) kc_15_84 rfl rfl rfl ((eh7.2.1 115 (by decide)).trans ((eh6.2.1 115 (by decide)).trans ((eh5.2.1 115 (by decide)).trans ((eh4.2.1 115 (by decide)).trans eh3.1)))) rfl ?_
                  refine xi_iload_n (pc' := 88) (x := 1) kc_15_87 rfl rfl ?_
                  refine xi_iload_n (pc' := 89) (x := 0) kc_15_88 rfl rfl ?_
                  refine xi_iconst (pc' := 90) (v := 4) kc_15_89 rfl rfl ?_
                  refine xi_cmt (pc' := 97) kc_15_90 rfl rfl ?_
                  refine xi_aload_n (pc' := 98) (x := 115) kc_15_97 rfl rfl ?_
                  refine xi_getfield (pc' := 101) (v := .ref 120) kc_15_98 rfl rfl rfl ((eh7.2.1 115 (by decide)).trans ((eh6.2.1 115 (by decide)).trans ((eh5.2.1 115 (by decide)).trans ((eh4.2.1 115 (by decide)).trans eh3.1)))) rfl ?_
                  refine xi_iload_n (pc' := 102) (x := 1) kc_15_101 rfl rfl ?_
                  refine xi_iaload (pc' := 103) (v := 0) kc_15_102 rfl ((eh7.2.1 120 (by decide)).trans ((eh6.2.1 120 (by decide)).trans ((eh5.2.1 120 (by decide)).trans ((eh4.2.1 120 (by decide)).trans ((eh3.2.1 120 (by decide)).trans ((eh2.2.1 120 (by decide)).trans ((eh1.2.1 120 (by decide)).trans (F 120 _ hl_120)))))))) (by decide) rfl (xi_in (n := 6) (by decide) (by decide)) rfl ?_
                  refine xi_iastore (pc' := 104) (x' := [0, 0, 0, 0, 0, 0]) kc_15_103 rfl ((eh7.2.1 120 (by decide)).trans ((eh6.2.1 120 (by decide)).trans ((eh5.2.1 120 (by decide)).trans ((eh4.2.1 120 (by decide)).trans ((eh3.2.1 120 (by decide)).trans ((eh2.2.1 120 (by decide)).trans ((eh1.2.1 120 (by decide)).trans (F 120 _ hl_120)))))))) rfl (xi_in (n := 6) (by decide) (by decide)) rfl (fun hh8 eh8 => ?_)
                  refine xi_aload_n (pc' := 105) (x := 115) kc_15_104 rfl rfl ?_
                  refine xi_getfield (pc' := 108) (v := .ref 121) kc_15_105 rfl rfl rfl ((eh8.2.1 115 (by decide)).trans ((eh7.2.1 115 (by decide)).trans ((eh6.2.1 115 (by decide)).trans ((eh5.2.1 115 (by decide)).trans ((eh4.2.1 115 (by decide)).trans eh3.1))))) rfl ?_
                  refine xi_iload_n (pc' := 109) (x := 1) kc_15_108 rfl rfl ?_
                  refine xi_iload_n (pc' := 110) (x := 0) kc_15_109 rfl rfl ?_
                  refine xi_iconst (pc' := 111) (v := 5) kc_15_110 rfl rfl ?_
                  refine xi_cmt (pc' := 118) kc_15_111 rfl rfl ?_
                  refine xi_aload_n (pc' := 119) (x := 115) kc_15_118 rfl rfl ?_
                  refine xi_getfield (pc' := 122) (v := .ref 121) kc_15_119 rfl rfl rfl ((eh8.2.1 115 (by decide)).trans ((eh7.2.1 115 (by decide)).trans ((eh6.2.1 115 (by decide)).trans ((eh5.2.1 115 (by decide)).trans ((eh4.2.1 115 (by decide)).trans eh3.1))))) rfl ?_
                  refine xi_iload_n (pc' := 123) (x := 1) kc_15_122 rfl rfl ?_
                  refine xi_iaload (pc' := 124) (v := 0) kc_15_123 rfl ((eh8.2.1 121 (by decide)).trans ((eh7.2.1 121 (by decide)).trans ((eh6.2.1 121 (by decide)).trans ((eh5.2.1 121 (by decide)).trans ((eh4.2.1 121 (by decide)).trans ((eh3.2.1 121 (by decide)).trans ((eh2.2.1 121 (by decide)).trans ((eh1.2.1 121 (by decide)).trans (F 121 _ hl_121))))))))) (by decide) rfl (xi_in (n := 6) (by decide) (by decide)) rfl ?_
                  refine xi_iastore (pc' := 125) (x' := [0, 0, 0, 0, 0, 0]) kc_15_124 rfl ((eh8.2.1 121 (by decide)).trans ((eh7.2.1 121 (by decide)).trans ((eh6.2.1 121 (by decide)).trans ((eh5.2.1 121 (by decide)).trans ((eh4.2.1 121 (by decide)).trans ((eh3.2.1 121 (by decide)).trans ((eh2.2.1 121 (by decide)).trans ((eh1.2.1 121 (by decide)).trans (F 121 _ hl_121))))))))) rfl (xi_in (n := 6) (by decide) (by decide)) rfl (fun hh9 eh9 => ?_)
                  refine xi_aload_n (pc' := 126) (x := 115) kc_15_125 rfl rfl ?_
                  refine xi_iconst (pc' := 127) (v := 0) kc_15_126 rfl rfl ?_
                  refine xi_putfield (pc' := 130) (fs' := [.int 0, .int 0, .ref 116, .ref 117, .ref 118, .ref 119, .ref 120, .ref 121, .ref 122, .ref 123, .ref 124, .ref 125, .ref 126, .ref 127, .ref 128, .ref 129, .int 4, .ref 130, .int 0, .ref 131, .ref 132, .ref 133, .ref 134, .int 0, .ref 135, .ref 136, .ref 137, .ref 138, .ref 139, .ref 140, .ref 141, .ref 142, .int 0, .int 0, .int 0, .ref 143, .ref 144, .ref 145, .ref 146, .ref 147, .ref 148, .int 0, .ref 149, .ref 150, .ref 151, .int 0, .ref 152, .ref 153, .ref 154, .ref 155, .ref 156, .ref 157, .ref 158, .ref 159, .int 0, .ref 160, .int 0, .ref 161, .ref 162, .ref 163, .ref 164, .int 0, .ref 165, .ref 166]) kc_15_127 rfl rfl rfl ((eh9.2.1 115 (by decide)).trans ((eh8.2.1 115 (by decide)).trans ((eh7.2.1 115 (by decide)).trans ((eh6.2.1 115 (by decide)).trans ((eh5.2.1 115 (by decide)).trans ((eh4.2.1 115 (by decide)).trans eh3.1)))))) rfl rfl rfl (Nat.le_of_ble_eq_true rfl) rfl (fun hh10 eh10 => ?_)
                  refine xi_return kc_15_130 mr_15 ?_
                  show xw J ov 99 10 (121, [(4, .int 40), (0, .ref 115), (1, .int 1), (2, .int 0), (3, .int a3)], [], hh10) _
                  refine xi_iload (pc' := 123) (x := 40) kc_10_121 rfl rfl ?_
                  refine xi_ireturn kc_10_123 mr_10 rfl ?_
                  show xw J ov 100 196 (236, [(4, .int 0), (3, .ref 167), (2, .ref 115), (1, .ref 0), (0, .ref 1000000)], [.int 40, .int 40], hh10) _
                  refine xi_cmt (pc' := 1528) kc_196_236 rfl rfl ?_
                  refine xi_iinc (pc' := 1531) (x := 0) (v := 6) (lv' := [(4, .int 6), (3, .ref 167), (2, .ref 115), (1, .ref 0), (0, .ref 1000000)]) kc_196_1528 rfl rfl rfl rfl (xm_lt ml_196 rfl) ?_
                  refine xi_goto (pc' := 23) kc_196_1531 rfl ?_
                  refine xi_iload (pc' := 25) (x := 6) kc_196_23 rfl rfl ?_
                  refine xi_aload_n (pc' := 26) (x := 1000000) kc_196_25 rfl rfl ?_
                  refine xi_arraylength (pc' := 27) (n := 6) (v := 6) kc_196_26 rfl (xl_lenO (by decide) hov0 rfl) rfl ?_
                  refine xi_bipush (pc' := 29) (v := 6) kc_196_27 rfl rfl ?_
                  refine xi_isub (pc' := 30) (v := 0) kc_196_29 rfl rfl ?_
                  refine xi_cmt (pc' := 1534) kc_196_30 rfl rfl ?_
                  refine xi_iconst (pc' := 1535) (v := 1) kc_196_1534 rfl rfl ?_
                  refine xi_ireturn kc_196_1535 mr_196 rfl ?_
                  refine ⟨rfl, ?_, ?_⟩
                  · rw [eh10.2.2.1, eh9.2.2.1, eh8.2.2.1, eh7.2.2.1, eh6.2.2.1, eh5.2.2.1, eh4.2.2.1, eh3.2.2.1, eh2.2.2.1, eh1.2.2.1]; exact hn0
                  · rw [eh10.2.2.2, eh9.2.2.2, eh8.2.2.2, eh7.2.2.2, eh6.2.2.2, eh5.2.2.2, eh4.2.2.2, eh3.2.2.2, eh2.2.2.2, eh1.2.2.2]; exact hz0
                by_cases c10 : a1.toInt = 2
                · have qa1 : a1 = 2 := xc_of (Eq.trans (by omega) (show (2 : Int) = (2 : Int32).toInt by decide))
                  subst qa1
                  refine xi_aaload (pc' := 13) (b := 17) kc_93_12 rfl ((eh1.2.1 2 (by decide)).trans (F 2 _ hl_2)) rfl (xi_in (n := 6) (by decide) (by decide)) rfl ?_
                  refine xi_iload_n (pc' := 14) (x := 0) kc_93_13 rfl rfl ?_
                  refine xi_iload_n (pc' := 15) (x := a3) kc_93_14 rfl rfl ?_
                  refine xi_virtual (mj := 94) (as := [.int 0, .int a3]) (st1 := []) (lv0 := [(0, .ref 17), (1, .int 0), (2, .int a3)]) kc_93_15 rfl rfl rfl rfl rfl ((eh1.2.1 17 (by decide)).trans (F 17 _ hl_17)) (Nat.le_of_ble_eq_true rfl) (hJ _ _ _ _ (by decide)) (xm_le ml_94 rfl) rfl ?_
                  refine xi_iload_n (pc' := 1) (x := 0) kc_94_0 rfl rfl ?_
                  refine xi_iff (pc' := 4) kc_94_1 rfl rfl ?_
                  refine xi_iload_n (pc' := 5) (x := 0) kc_94_4 rfl rfl ?_
                  refine xi_iconst (pc' := 6) (v := 5) kc_94_5 rfl rfl ?_
                  refine xi_cmt (pc' := 11) kc_94_6 rfl rfl ?_
                  refine xi_aload_n (pc' := 12) (x := 17) kc_94_11 rfl rfl ?_
                  refine xi_getfield (pc' := 15) (v := .ref 18) kc_94_12 rfl rfl rfl ((eh1.2.1 17 (by decide)).trans (F 17 _ hl_17)) rfl ?_
                  refine xi_iload_n (pc' := 16) (x := 0) kc_94_15 rfl rfl ?_
                  refine xi_iaload (pc' := 17) (v := 40) kc_94_16 rfl ((eh1.2.1 18 (by decide)).trans (F 18 _ hl_18)) (by decide) rfl (xi_in (n := 5) (by decide) (by decide)) rfl ?_
                  refine xi_istore_n (pc' := 18) (lv' := [(3, .int 40), (0, .ref 17), (1, .int 0), (2, .int a3)]) kc_94_17 rfl rfl (xm_lt ml_94 rfl) ?_
                  refine xi_aload_n (pc' := 19) (x := 17) kc_94_18 rfl rfl ?_
                  refine xi_getfield (pc' := 22) (v := .ref 18) kc_94_19 rfl rfl rfl ((eh1.2.1 17 (by decide)).trans (F 17 _ hl_17)) rfl ?_
                  refine xi_iload_n (pc' := 23) (x := 0) kc_94_22 rfl rfl ?_
                  refine xi_iload_n (pc' := 24) (x := a3) kc_94_23 rfl rfl ?_
                  refine xi_iastore (pc' := 25) (x' := [a3, 18, 10, 0, 0]) kc_94_24 rfl ((eh1.2.1 18 (by decide)).trans (F 18 _ hl_18)) rfl (xi_in (n := 5) (by decide) (by decide)) rfl (fun hh2 eh2 => ?_)
                  refine xi_iload_n (pc' := 26) (x := 40) kc_94_25 rfl rfl ?_
                  refine xi_ireturn kc_94_26 mr_94 rfl ?_
                  show xw J ov 98 93 (18, [(0, .ref 1), (1, .int 2), (2, .int 0), (3, .int a3)], [.int 40], hh2) _
                  refine xi_goto (pc' := 22) kc_93_18 rfl ?_
                  refine xi_ireturn kc_93_22 mr_93 rfl ?_
                  show xw J ov 99 89 (107, [(0, .ref 0), (1, .int 2), (2, .int 0), (3, .int a3)], [.int 40], hh2) _
                  refine xi_ireturn kc_89_107 mr_89 rfl ?_
                  show xw J ov 100 196 (214, [(4, .int 0), (3, .ref 167), (2, .ref 115), (1, .ref 0), (0, .ref 1000000)], [.int 40], hh2) _
                  refine xi_aload_n (pc' := 215) (x := 115) kc_196_214 rfl rfl ?_
                  refine xi_aload_n (pc' := 216) (x := 1000000) kc_196_215 rfl rfl ?_
                  refine xi_iload (pc' := 218) (x := 0) kc_196_216 rfl rfl ?_
                  refine xi_iconst (pc' := 219) (v := 1) kc_196_218 rfl rfl ?_
                  refine xi_iadd (pc' := 220) (v := 1) kc_196_219 rfl rfl ?_
                  refine xi_ialoadO (pc' := 221) (v := 2) kc_196_220 rfl (by decide) hov0 (xi_in (n := 6) (by decide) (by decide)) rfl ?_
                  refine xi_aload_n (pc' := 222) (x := 1000000) kc_196_221 rfl rfl ?_
                  refine xi_iload (pc' := 224) (x := 0) kc_196_222 rfl rfl ?_
                  refine xi_iconst (pc' := 225) (v := 2) kc_196_224 rfl rfl ?_
                  refine xi_iadd (pc' := 226) (v := 2) kc_196_225 rfl rfl ?_
                  refine xi_ialoadO (pc' := 227) (v := 0) kc_196_226 rfl (by decide) hov0 (xi_in (n := 6) (by decide) (by decide)) rfl ?_
                  refine xi_aload_n (pc' := 228) (x := 1000000) kc_196_227 rfl rfl ?_
                  refine xi_iload (pc' := 230) (x := 0) kc_196_228 rfl rfl ?_
                  refine xi_iconst (pc' := 231) (v := 3) kc_196_230 rfl rfl ?_
                  refine xi_iadd (pc' := 232) (v := 3) kc_196_231 rfl rfl ?_
                  refine xi_ialoadO (pc' := 233) (v := a3) kc_196_232 rfl (by decide) hov0 (xi_in (n := 6) (by decide) (by decide)) rfl ?_
                  refine xi_virtual (mj := 10) (as := [.int 2, .int 0, .int a3]) (st1 := [.int 40]) (lv0 := [(0, .ref 115), (1, .int 2), (2, .int 0), (3, .int a3)]) kc_196_233 rfl rfl rfl rfl rfl ((eh2.2.1 115 (by decide)).trans ((eh1.2.1 115 (by decide)).trans (F 115 _ hl_115))) (Nat.le_of_ble_eq_true rfl) (hJ _ _ _ _ (by decide)) (xm_le ml_10 rfl) rfl ?_
                  refine xi_aload_n (pc' := 1) (x := 115) kc_10_0 rfl rfl ?_
                  refine xi_iconst (pc' := 2) (v := 0) kc_10_1 rfl rfl ?_
                  refine xi_putfield (pc' := 5) (fs' := [.int 0, .int 0, .ref 116, .ref 117, .ref 118, .ref 119, .ref 120, .ref 121, .ref 122, .ref 123, .ref 124, .ref 125, .ref 126, .ref 127, .ref 128, .ref 129, .int 4, .ref 130, .int 0, .ref 131, .ref 132, .ref 133, .ref 134, .int 0, .ref 135, .ref 136, .ref 137, .ref 138, .ref 139, .ref 140, .ref 141, .ref 142, .int 0, .int 0, .int 0, .ref 143, .ref 144, .ref 145, .ref 146, .ref 147, .ref 148, .int 0, .ref 149, .ref 150, .ref 151, .int 0, .ref 152, .ref 153, .ref 154, .ref 155, .ref 156, .ref 157, .ref 158, .ref 159, .int 0, .ref 160, .int 0, .ref 161, .ref 162, .ref 163, .ref 164, .int 0, .ref 165, .ref 166]) kc_10_2 rfl rfl rfl ((eh2.2.1 115 (by decide)).trans ((eh1.2.1 115 (by decide)).trans (F 115 _ hl_115))) rfl rfl rfl (Nat.le_of_ble_eq_true rfl) rfl (fun hh3 eh3 => ?_)
                  refine xi_iload_n (pc' := 6) (x := 2) kc_10_5 rfl rfl ?_
                  refine xi_static (mj := 11) (as := [.int 2]) (st1 := []) (lv0 := [(0, .int 2)]) kc_10_6 rfl rfl (Nat.le_of_ble_eq_true rfl) rfl rfl (Nat.le_of_ble_eq_true rfl) (hJ _ _ _ _ (by decide)) (xm_le ml_11 rfl) rfl ?_
                  refine xi_iload_n (pc' := 1) (x := 2) kc_11_0 rfl rfl ?_
                  refine xi_iconst (pc' := 2) (v := 0) kc_11_1 rfl rfl ?_
                  refine xi_iconst (pc' := 3) (v := 5) kc_11_2 rfl rfl ?_
                  refine xi_static (mj := 12) (as := [.int 2, .int 0, .int 5]) (st1 := []) (lv0 := [(0, .int 2), (1, .int 0), (2, .int 5)]) kc_11_3 rfl rfl (Nat.le_of_ble_eq_true rfl) rfl rfl (Nat.le_of_ble_eq_true rfl) (hJ _ _ _ _ (by decide)) (xm_le ml_12 rfl) rfl ?_
                  refine xi_iload_n (pc' := 1) (x := 2) kc_12_0 rfl rfl ?_
                  refine xi_iload_n (pc' := 2) (x := 0) kc_12_1 rfl rfl ?_
                  refine xi_cmf (pc' := 5) kc_12_2 rfl rfl ?_
                  refine xi_iload_n (pc' := 6) (x := 2) kc_12_5 rfl rfl ?_
                  refine xi_iload_n (pc' := 7) (x := 5) kc_12_6 rfl rfl ?_
                  refine xi_cmf (pc' := 10) kc_12_7 rfl rfl ?_
                  refine xi_iconst (pc' := 11) (v := 1) kc_12_10 rfl rfl ?_
                  refine xi_goto (pc' := 15) kc_12_11 rfl ?_
                  refine xi_ireturn kc_12_15 mr_12 rfl ?_
                  show xw J ov 98 11 (6, [(0, .int 2)], [.int 1], hh3) _
                  refine xi_ireturn kc_11_6 mr_11 rfl ?_
                  show xw J ov 99 10 (9, [(0, .ref 115), (1, .int 2), (2, .int 0), (3, .int a3)], [.int 1], hh3) _
                  refine xi_ift (pc' := 18) kc_10_9 rfl rfl ?_
                  refine xi_iload_n (pc' := 19) (x := 0) kc_10_18 rfl rfl ?_
                  refine xi_iconst (pc' := 20) (v := 0) kc_10_19 rfl rfl ?_
                  refine xi_iconst (pc' := 21) (v := 5) kc_10_20 rfl rfl ?_
                  refine xi_static (mj := 12) (as := [.int 0, .int 0, .int 5]) (st1 := []) (lv0 := [(0, .int 0), (1, .int 0), (2, .int 5)]) kc_10_21 rfl rfl (Nat.le_of_ble_eq_true rfl) rfl rfl (Nat.le_of_ble_eq_true rfl) (hJ _ _ _ _ (by decide)) (xm_le ml_12 rfl) rfl ?_
                  refine xi_iload_n (pc' := 1) (x := 0) kc_12_0 rfl rfl ?_
                  refine xi_iload_n (pc' := 2) (x := 0) kc_12_1 rfl rfl ?_
                  refine xi_cmf (pc' := 5) kc_12_2 rfl rfl ?_
                  refine xi_iload_n (pc' := 6) (x := 0) kc_12_5 rfl rfl ?_
                  refine xi_iload_n (pc' := 7) (x := 5) kc_12_6 rfl rfl ?_
                  refine xi_cmf (pc' := 10) kc_12_7 rfl rfl ?_
                  refine xi_iconst (pc' := 11) (v := 1) kc_12_10 rfl rfl ?_
                  refine xi_goto (pc' := 15) kc_12_11 rfl ?_
                  refine xi_ireturn kc_12_15 mr_12 rfl ?_
                  show xw J ov 99 10 (24, [(0, .ref 115), (1, .int 2), (2, .int 0), (3, .int a3)], [.int 1], hh3) _
                  refine xi_ift (pc' := 34) kc_10_24 rfl rfl ?_
                  refine xi_iload_n (pc' := 35) (x := a3) kc_10_34 rfl rfl ?_
                  refine xi_iload_n (pc' := 36) (x := 0) kc_10_35 rfl rfl ?_
                  refine xi_iff (pc' := 39) kc_10_36 rfl rfl ?_
                  refine xi_bipush (pc' := 41) (v := 10) kc_10_39 rfl rfl ?_
                  refine xi_goto (pc' := 45) kc_10_41 rfl ?_
                  refine xi_cmt (pc' := 55) kc_10_45 rfl (xc_ge_t (X := a3.toInt) (Y := 10) rfl (by decide) (by omega)) ?_
                  refine xi_iload_n (pc' := 56) (x := a3) kc_10_55 rfl rfl ?_
                  refine xi_iload_n (pc' := 57) (x := 0) kc_10_56 rfl rfl ?_
                  refine xi_iff (pc' := 60) kc_10_57 rfl rfl ?_
                  refine xi_bipush (pc' := 62) (v := 99) kc_10_60 rfl rfl ?_
                  refine xi_goto (pc' := 96) kc_10_62 rfl ?_
                  refine xi_cmt (pc' := 106) kc_10_96 rfl (xc_le_t (X := a3.toInt) (Y := 99) rfl (by decide) (by omega)) ?_
                  refine xi_aload_n (pc' := 107) (x := 115) kc_10_106 rfl rfl ?_
                  refine xi_iload_n (pc' := 108) (x := 2) kc_10_107 rfl rfl ?_
                  refine xi_iload_n (pc' := 109) (x := 0) kc_10_108 rfl rfl ?_
                  refine xi_virtual (mj := 14) (as := [.int 2, .int 0]) (st1 := []) (lv0 := [(0, .ref 115), (1, .int 2), (2, .int 0)]) kc_10_109 rfl rfl rfl rfl rfl eh3.1 (Nat.le_of_ble_eq_true rfl) (hJ _ _ _ _ (by decide)) (xm_le ml_14 rfl) rfl ?_
                  refine xi_iload_n (pc' := 1) (x := 0) kc_14_0 rfl rfl ?_
                  refine xi_tsi (pc' := 36) (z := 0) kc_14_1 (rfl) rfl (by decide) ?_
                  refine xi_aload_n (pc' := 37) (x := 115) kc_14_36 rfl rfl ?_
                  refine xi_getfield (pc' := 40) (v := .ref 116) kc_14_37 rfl rfl rfl eh3.1 rfl ?_
                  refine xi_iload_n (pc' := 41) (x := 2) kc_14_40 rfl rfl ?_
                  refine xi_iaload (pc' := 42) (v := 40) kc_14_41 rfl ((eh3.2.1 116 (by decide)).trans ((eh2.2.1 116 (by decide)).trans ((eh1.2.1 116 (by decide)).trans (F 116 _ hl_116)))) (by decide) rfl (xi_in (n := 6) (by decide) (by decide)) rfl ?_
                  refine xi_ireturn kc_14_42 mr_14 rfl ?_
                  show xw J ov 99 10 (112, [(0, .ref 115), (1, .int 2), (2, .int 0), (3, .int a3)], [.int 40], hh3) _
                  refine xi_istore (pc' := 114) (lv' := [(4, .int 40), (0, .ref 115), (1, .int 2), (2, .int 0), (3, .int a3)]) kc_10_112 rfl rfl (xm_lt ml_10 rfl) ?_
                  refine xi_aload_n (pc' := 115) (x := 115) kc_10_114 rfl rfl ?_
                  refine xi_iload_n (pc' := 116) (x := 2) kc_10_115 rfl rfl ?_
                  refine xi_iload_n (pc' := 117) (x := 0) kc_10_116 rfl rfl ?_
                  refine xi_iload_n (pc' := 118) (x := a3) kc_10_117 rfl rfl ?_
                  refine xi_virtual (mj := 15) (as := [.int 2, .int 0, .int a3]) (st1 := []) (lv0 := [(0, .ref 115), (1, .int 2), (2, .int 0), (3, .int a3)]) kc_10_118 rfl rfl rfl rfl rfl eh3.1 (Nat.le_of_ble_eq_true rfl) (hJ _ _ _ _ (by decide)) (xm_le ml_15 rfl) rfl ?_
                  refine xi_aload_n (pc' := 1) (x := 115) kc_15_0 rfl rfl ?_
                  refine xi_getfield (pc' := 4) (v := .ref 116) kc_15_1 rfl rfl rfl eh3.1 rfl ?_
                  refine xi_iload_n (pc' := 5) (x := 2) kc_15_4 rfl rfl ?_
                  refine xi_iload_n (pc' := 6) (x := 0) kc_15_5 rfl rfl ?_
                  refine xi_iff (pc' := 9) kc_15_6 rfl rfl ?_
                  refine xi_iload_n (pc' := 10) (x := a3) kc_15_9 rfl rfl ?_
                  refine xi_goto (pc' := 19) kc_15_10 rfl ?_
                  refine xi_iastore (pc' := 20) (x' := [40, 40, a3, 40, 40, 40]) kc_15_19 rfl ((eh3.2.1 116 (by decide)).trans ((eh2.2.1 116 (by decide)).trans ((eh1.2.1 116 (by decide)).trans (F 116 _ hl_116)))) rfl (xi_in (n := 6) (by decide) (by decide)) rfl (fun hh4 eh4 => ?_)
                  refine xi_aload_n (pc' := 21) (x := 115) kc_15_20 rfl rfl ?_
                  refine xi_getfield (pc' := 24) (v := .ref 117) kc_15_21 rfl rfl rfl ((eh4.2.1 115 (by decide)).trans eh3.1) rfl ?_
                  refine xi_iload_n (pc' := 25) (x := 2) kc_15_24 rfl rfl ?_
                  refine xi_iload_n (pc' := 26) (x := 0) kc_15_25 rfl rfl ?_
                  refine xi_iconst (pc' := 27) (v := 1) kc_15_26 rfl rfl ?_
                  refine xi_cmt (pc' := 34) kc_15_27 rfl rfl ?_
                  refine xi_aload_n (pc' := 35) (x := 115) kc_15_34 rfl rfl ?_
                  refine xi_getfield (pc' := 38) (v := .ref 117) kc_15_35 rfl rfl rfl ((eh4.2.1 115 (by decide)).trans eh3.1) rfl ?_
                  refine xi_iload_n (pc' := 39) (x := 2) kc_15_38 rfl rfl ?_
                  refine xi_iaload (pc' := 40) (v := 18) kc_15_39 rfl ((eh4.2.1 117 (by decide)).trans ((eh3.2.1 117 (by decide)).trans ((eh2.2.1 117 (by decide)).trans ((eh1.2.1 117 (by decide)).trans (F 117 _ hl_117))))) (by decide) rfl (xi_in (n := 6) (by decide) (by decide)) rfl ?_
                  refine xi_iastore (pc' := 41) (x' := [18, 18, 18, 18, 18, 18]) kc_15_40 rfl ((eh4.2.1 117 (by decide)).trans ((eh3.2.1 117 (by decide)).trans ((eh2.2.1 117 (by decide)).trans ((eh1.2.1 117 (by decide)).trans (F 117 _ hl_117))))) rfl (xi_in (n := 6) (by decide) (by decide)) rfl (fun hh5 eh5 => ?_)
                  refine xi_aload_n (pc' := 42) (x := 115) kc_15_41 rfl rfl ?_
                  refine xi_getfield (pc' := 45) (v := .ref 118) kc_15_42 rfl rfl rfl ((eh5.2.1 115 (by decide)).trans ((eh4.2.1 115 (by decide)).trans eh3.1)) rfl ?_
                  refine xi_iload_n (pc' := 46) (x := 2) kc_15_45 rfl rfl ?_
                  refine xi_iload_n (pc' := 47) (x := 0) kc_15_46 rfl rfl ?_
                  refine xi_iconst (pc' := 48) (v := 2) kc_15_47 rfl rfl ?_
                  refine xi_cmt (pc' := 55) kc_15_48 rfl rfl ?_
                  refine xi_aload_n (pc' := 56) (x := 115) kc_15_55 rfl rfl ?_
                  refine xi_getfield (pc' := 59) (v := .ref 118) kc_15_56 rfl rfl rfl ((eh5.2.1 115 (by decide)).trans ((eh4.2.1 115 (by decide)).trans eh3.1)) rfl ?_
                  refine xi_iload_n (pc' := 60) (x := 2) kc_15_59 rfl rfl ?_
                  refine xi_iaload (pc' := 61) (v := 10) kc_15_60 rfl ((eh5.2.1 118 (by decide)).trans ((eh4.2.1 118 (by decide)).trans ((eh3.2.1 118 (by decide)).trans ((eh2.2.1 118 (by decide)).trans ((eh1.2.1 118 (by decide)).trans (F 118 _ hl_118)))))) (by decide) rfl (xi_in (n := 6) (by decide) (by decide)) rfl ?_
                  refine xi_iastore (pc' := 62) (x' := [10, 10, 10, 10, 10, 10]) kc_15_61 rfl ((eh5.2.1 118 (by decide)).trans ((eh4.2.1 118 (by decide)).trans ((eh3.2.1 118 (by decide)).trans ((eh2.2.1 118 (by decide)).trans ((eh1.2.1 118 (by decide)).trans (F 118 _ hl_118)))))) rfl (xi_in (n := 6) (by decide) (by decide)) rfl (fun hh6 eh6 => ?_)
                  refine xi_aload_n (pc' := 63) (x := 115) kc_15_62 rfl rfl ?_
                  refine xi_getfield (pc' := 66) (v := .ref 119) kc_15_63 rfl rfl rfl ((eh6.2.1 115 (by decide)).trans ((eh5.2.1 115 (by decide)).trans ((eh4.2.1 115 (by decide)).trans eh3.1))) rfl ?_
                  refine xi_iload_n (pc' := 67) (x := 2) kc_15_66 rfl rfl ?_
                  refine xi_iload_n (pc' := 68) (x := 0) kc_15_67 rfl rfl ?_
                  refine xi_iconst (pc' := 69) (v := 3) kc_15_68 rfl rfl ?_
                  refine xi_cmt (pc' := 76) kc_15_69 rfl rfl ?_
                  refine xi_aload_n (pc' := 77) (x := 115) kc_15_76 rfl rfl ?_
                  refine xi_getfield (pc' := 80) (v := .ref 119) kc_15_77 rfl rfl rfl ((eh6.2.1 115 (by decide)).trans ((eh5.2.1 115 (by decide)).trans ((eh4.2.1 115 (by decide)).trans eh3.1))) rfl ?_
                  refine xi_iload_n (pc' := 81) (x := 2) kc_15_80 rfl rfl ?_
                  refine xi_iaload (pc' := 82) (v := 0) kc_15_81 rfl ((eh6.2.1 119 (by decide)).trans ((eh5.2.1 119 (by decide)).trans ((eh4.2.1 119 (by decide)).trans ((eh3.2.1 119 (by decide)).trans ((eh2.2.1 119 (by decide)).trans ((eh1.2.1 119 (by decide)).trans (F 119 _ hl_119))))))) (by decide) rfl (xi_in (n := 6) (by decide) (by decide)) rfl ?_
                  refine xi_iastore (pc' := 83) (x' := [0, 0, 0, 0, 0, 0]) kc_15_82 rfl ((eh6.2.1 119 (by decide)).trans ((eh5.2.1 119 (by decide)).trans ((eh4.2.1 119 (by decide)).trans ((eh3.2.1 119 (by decide)).trans ((eh2.2.1 119 (by decide)).trans ((eh1.2.1 119 (by decide)).trans (F 119 _ hl_119))))))) rfl (xi_in (n := 6) (by decide) (by decide)) rfl (fun hh7 eh7 => ?_)
                  refine xi_aload_n (pc' := 84) (x := 115) kc_15_83 rfl rfl ?_
                  refine xi_getfield (pc' := 87) (v := .ref 120) kc_15_84 rfl rfl rfl ((eh7.2.1 115 (by decide)).trans ((eh6.2.1 115 (by decide)).trans ((eh5.2.1 115 (by decide)).trans ((eh4.2.1 115 (by decide)).trans eh3.1)))) rfl ?_
                  refine xi_iload_n (pc' := 88) (x := 2) kc_15_87 rfl rfl ?_
                  refine xi_iload_n (pc' := 89) (x := 0) kc_15_88 rfl rfl ?_
                  refine xi_iconst (pc' := 90) (v := 4) kc_15_89 rfl rfl ?_
                  refine xi_cmt (pc' := 97) kc_15_90 rfl rfl ?_
                  refine xi_aload_n (pc' := 98) (x := 115) kc_15_97 rfl rfl ?_
                  refine xi_getfield (pc' := 101) (v := .ref 120) kc_15_98 rfl rfl rfl ((eh7.2.1 115 (by decide)).trans ((eh6.2.1 115 (by decide)).trans ((eh5.2.1 115 (by decide)).trans ((eh4.2.1 115 (by decide)).trans eh3.1)))) rfl ?_
                  refine xi_iload_n (pc' := 102) (x := 2) kc_15_101 rfl rfl ?_
                  refine xi_iaload (pc' := 103) (v := 0) kc_15_102 rfl ((eh7.2.1 120 (by decide)).trans ((eh6.2.1 120 (by decide)).trans ((eh5.2.1 120 (by decide)).trans ((eh4.2.1 120 (by decide)).trans ((eh3.2.1 120 (by decide)).trans ((eh2.2.1 120 (by decide)).trans ((eh1.2.1 120 (by decide)).trans (F 120 _ hl_120)))))))) (by decide) rfl (xi_in (n := 6) (by decide) (by decide)) rfl ?_
                  refine xi_iastore (pc' := 104) (x' := [0, 0, 0, 0, 0, 0]) kc_15_103 rfl ((eh7.2.1 120 (by decide)).trans ((eh6.2.1 120 (by decide)).trans ((eh5.2.1 120 (by decide)).trans ((eh4.2.1 120 (by decide)).trans ((eh3.2.1 120 (by decide)).trans ((eh2.2.1 120 (by decide)).trans ((eh1.2.1 120 (by decide)).trans (F 120 _ hl_120)))))))) rfl (xi_in (n := 6) (by decide) (by decide)) rfl (fun hh8 eh8 => ?_)
                  refine xi_aload_n (pc' := 105) (x := 115) kc_15_104 rfl rfl ?_
                  refine xi_getfield (pc' := 108) (v := .ref 121) kc_15_105 rfl rfl rfl ((eh8.2.1 115 (by decide)).trans ((eh7.2.1 115 (by decide)).trans ((eh6.2.1 115 (by decide)).trans ((eh5.2.1 115 (by decide)).trans ((eh4.2.1 115 (by decide)).trans eh3.1))))) rfl ?_
                  refine xi_iload_n (pc' := 109) (x := 2) kc_15_108 rfl rfl ?_
                  refine xi_iload_n (pc' := 110) (x := 0) kc_15_109 rfl rfl ?_
                  refine xi_iconst (pc' := 111) (v := 5) kc_15_110 rfl rfl ?_
                  refine xi_cmt (pc' := 118) kc_15_111 rfl rfl ?_
                  refine xi_aload_n (pc' := 119) (x := 115) kc_15_118 rfl rfl ?_
                  refine xi_getfield (pc' := 122) (v := .ref 121) kc_15_119 rfl rfl rfl ((eh8.2.1 115 (by decide)).trans ((eh7.2.1 115 (by decide)).trans ((eh6.2.1 115 (by decide)).trans ((eh5.2.1 115 (by decide)).trans ((eh4.2.1 115 (by decide)).trans eh3.1))))) rfl ?_
                  refine xi_iload_n (pc' := 123) (x := 2) kc_15_122 rfl rfl ?_
                  refine xi_iaload (pc' := 124) (v := 0) kc_15_123 rfl ((eh8.2.1 121 (by decide)).trans ((eh7.2.1 121 (by decide)).trans ((eh6.2.1 121 (by decide)).trans ((eh5.2.1 121 (by decide)).trans ((eh4.2.1 121 (by decide)).trans ((eh3.2.1 121 (by decide)).trans ((eh2.2.1 121 (by decide)).trans ((eh1.2.1 121 (by decide)).trans (F 121 _ hl_121))))))))) (by decide) rfl (xi_in (n := 6) (by decide) (by decide)) rfl ?_
                  refine xi_iastore (pc' := 125) (x' := [0, 0, 0, 0, 0, 0]) kc_15_124 rfl ((eh8.2.1 121 (by decide)).trans ((eh7.2.1 121 (by decide)).trans ((eh6.2.1 121 (by decide)).trans ((eh5.2.1 121 (by decide)).trans ((eh4.2.1 121 (by decide)).trans ((eh3.2.1 121 (by decide)).trans ((eh2.2.1 121 (by decide)).trans ((eh1.2.1 121 (by decide)).trans (F 121 _ hl_121))))))))) rfl (xi_in (n := 6) (by decide) (by decide)) rfl (fun hh9 eh9 => ?_)
                  refine xi_aload_n (pc' := 126) (x := 115) kc_15_125 rfl rfl ?_
                  refine xi_iconst (pc' := 127) (v := 0) kc_15_126 rfl rfl ?_
                  refine xi_putfield (pc' := 130) (fs' := [.int 0, .int 0, .ref 116, .ref 117, .ref 118, .ref 119, .ref 120, .ref 121, .ref 122, .ref 123, .ref 124, .ref 125, .ref 126, .ref 127, .ref 128, .ref 129, .int 4, .ref 130, .int 0, .ref 131, .ref 132, .ref 133, .ref 134, .int 0, .ref 135, .ref 136, .ref 137, .ref 138, .ref 139, .ref 140, .ref 141, .ref 142, .int 0, .int 0, .int 0, .ref 143, .ref 144, .ref 145, .ref 146, .ref 147, .ref 148, .int 0, .ref 149, .ref 150, .ref 151, .int 0, .ref 152, .ref 153, .ref 154, .ref 155, .ref 156, .ref 157, .ref 158, .ref 159, .int 0, .ref 160, .int 0, .ref 161, .ref 162, .ref 163, .ref 164, .int 0, .ref 165, .ref 166]) kc_15_127 rfl rfl rfl ((eh9.2.1 115 (by decide)).trans ((eh8.2.1 115 (by decide)).trans ((eh7.2.1 115 (by decide)).trans ((eh6.2.1 115 (by decide)).trans ((eh5.2.1 115 (by decide)).trans ((eh4.2.1 115 (by decide)).trans eh3.1)))))) rfl rfl rfl (Nat.le_of_ble_eq_true rfl) rfl (fun hh10 eh10 => ?_)
                  refine xi_return kc_15_130 mr_15 ?_
                  show xw J ov 99 10 (121, [(4, .int 40), (0, .ref 115), (1, .int 2), (2, .int 0), (3, .int a3)], [], hh10) _
                  refine xi_iload (pc' := 123) (x := 40) kc_10_121 rfl rfl ?_
                  refine xi_ireturn kc_10_123 mr_10 rfl ?_
                  show xw J ov 100 196 (236, [(4, .int 0), (3, .ref 167), (2, .ref 115), (1, .ref 0), (0, .ref 1000000)], [.int 40, .int 40], hh10) _
                  refine xi_cmt (pc' := 1528) kc_196_236 rfl rfl ?_
                  refine xi_iinc (pc' := 1531) (x := 0) (v := 6) (lv' := [(4, .int 6), (3, .ref 167), (2, .ref 115), (1, .ref 0), (0, .ref 1000000)]) kc_196_1528 rfl rfl rfl rfl (xm_lt ml_196 rfl) ?_
                  refine xi_goto (pc' := 23) kc_196_1531 rfl ?_
                  refine xi_iload (pc' := 25) (x := 6) kc_196_23 rfl rfl ?_
                  refine xi_aload_n (pc' := 26) (x := 1000000) kc_196_25 rfl rfl ?_
                  refine xi_arraylength (pc' := 27) (n := 6) (v := 6) kc_196_26 rfl (xl_lenO (by decide) hov0 rfl) rfl ?_
                  refine xi_bipush (pc' := 29) (v := 6) kc_196_27 rfl rfl ?_
                  refine xi_isub (pc' := 30) (v := 0) kc_196_29 rfl rfl ?_
                  refine xi_cmt (pc' := 1534) kc_196_30 rfl rfl ?_
                  refine xi_iconst (pc' := 1535) (v := 1) kc_196_1534 rfl rfl ?_
                  refine xi_ireturn kc_196_1535 mr_196 rfl ?_
                  refine ⟨rfl, ?_, ?_⟩
                  · rw [eh10.2.2.1, eh9.2.2.1, eh8.2.2.1, eh7.2.2.1, eh6.2.2.1, eh5.2.2.1, eh4.2.2.1, eh3.2.2.1, eh2.2.2.1, eh1.2.2.1]; exact hn0
                  · rw [eh10.2.2.2, eh9.2.2.2, eh8.2.2.2, eh7.2.2.2, eh6.2.2.2, eh5.2.2.2, eh4.2.2.2, eh3.2.2.2, eh2.2.2.2, eh1.2.2.2]; exact hz0
                by_cases c11 : a1.toInt = 3
                · have qa1 : a1 = 3 := xc_of (Eq.trans (by omega) (show (3 : Int) = (3 : Int32).toInt by decide))
                  subst qa1
                  refine xi_aaload (pc' := 13) (b := 20) kc_93_12 rfl ((eh1.2.1 2 (by decide)).trans (F 2 _ hl_2)) rfl (xi_in (n := 6) (by decide) (by decide)) rfl ?_
                  refine xi_iload_n (pc' := 14) (x := 0) kc_93_13 rfl rfl ?_
                  refine xi_iload_n (pc' := 15) (x := a3) kc_93_14 rfl rfl ?_
                  refine xi_virtual (mj := 94) (as := [.int 0, .int a3]) (st1 := []) (lv0 := [(0, .ref 20), (1, .int 0), (2, .int a3)]) kc_93_15 rfl rfl rfl rfl rfl ((eh1.2.1 20 (by decide)).trans (F 20 _ hl_20)) (Nat.le_of_ble_eq_true rfl) (hJ _ _ _ _ (by decide)) (xm_le ml_94 rfl) rfl ?_
                  refine xi_iload_n (pc' := 1) (x := 0) kc_94_0 rfl rfl ?_
                  refine xi_iff (pc' := 4) kc_94_1 rfl rfl ?_
                  refine xi_iload_n (pc' := 5) (x := 0) kc_94_4 rfl rfl ?_
                  refine xi_iconst (pc' := 6) (v := 5) kc_94_5 rfl rfl ?_
                  refine xi_cmt (pc' := 11) kc_94_6 rfl rfl ?_
                  refine xi_aload_n (pc' := 12) (x := 20) kc_94_11 rfl rfl ?_
                  refine xi_getfield (pc' := 15) (v := .ref 21) kc_94_12 rfl rfl rfl ((eh1.2.1 20 (by decide)).trans (F 20 _ hl_20)) rfl ?_
                  refine xi_iload_n (pc' := 16) (x := 0) kc_94_15 rfl rfl ?_
                  refine xi_iaload (pc' := 17) (v := 40) kc_94_16 rfl ((eh1.2.1 21 (by decide)).trans (F 21 _ hl_21)) (by decide) rfl (xi_in (n := 5) (by decide) (by decide)) rfl ?_
                  refine xi_istore_n (pc' := 18) (lv' := [(3, .int 40), (0, .ref 20), (1, .int 0), (2, .int a3)]) kc_94_17 rfl rfl (xm_lt ml_94 rfl) ?_
                  refine xi_aload_n (pc' := 19) (x := 20) kc_94_18 rfl rfl ?_
                  refine xi_getfield (pc' := 22) (v := .ref 21) kc_94_19 rfl rfl rfl ((eh1.2.1 20 (by decide)).trans (F 20 _ hl_20)) rfl ?_
                  refine xi_iload_n (pc' := 23) (x := 0) kc_94_22 rfl rfl ?_
                  refine xi_iload_n (pc' := 24) (x := a3) kc_94_23 rfl rfl ?_
                  refine xi_iastore (pc' := 25) (x' := [a3, 18, 10, 0, 0]) kc_94_24 rfl ((eh1.2.1 21 (by decide)).trans (F 21 _ hl_21)) rfl (xi_in (n := 5) (by decide) (by decide)) rfl (fun hh2 eh2 => ?_)
                  refine xi_iload_n (pc' := 26) (x := 40) kc_94_25 rfl rfl ?_
                  refine xi_ireturn kc_94_26 mr_94 rfl ?_
                  show xw J ov 98 93 (18, [(0, .ref 1), (1, .int 3), (2, .int 0), (3, .int a3)], [.int 40], hh2) _
                  refine xi_goto (pc' := 22) kc_93_18 rfl ?_
                  refine xi_ireturn kc_93_22 mr_93 rfl ?_
                  show xw J ov 99 89 (107, [(0, .ref 0), (1, .int 3), (2, .int 0), (3, .int a3)], [.int 40], hh2) _
                  refine xi_ireturn kc_89_107 mr_89 rfl ?_
                  show xw J ov 100 196 (214, [(4, .int 0), (3, .ref 167), (2, .ref 115), (1, .ref 0), (0, .ref 1000000)], [.int 40], hh2) _
                  refine xi_aload_n (pc' := 215) (x := 115) kc_196_214 rfl rfl ?_
                  refine xi_aload_n (pc' := 216) (x := 1000000) kc_196_215 rfl rfl ?_
                  refine xi_iload (pc' := 218) (x := 0) kc_196_216 rfl rfl ?_
                  refine xi_iconst (pc' := 219) (v := 1) kc_196_218 rfl rfl ?_
                  refine xi_iadd (pc' := 220) (v := 1) kc_196_219 rfl rfl ?_
                  refine xi_ialoadO (pc' := 221) (v := 3) kc_196_220 rfl (by decide) hov0 (xi_in (n := 6) (by decide) (by decide)) rfl ?_
                  refine xi_aload_n (pc' := 222) (x := 1000000) kc_196_221 rfl rfl ?_
                  refine xi_iload (pc' := 224) (x := 0) kc_196_222 rfl rfl ?_
                  refine xi_iconst (pc' := 225) (v := 2) kc_196_224 rfl rfl ?_
                  refine xi_iadd (pc' := 226) (v := 2) kc_196_225 rfl rfl ?_
                  refine xi_ialoadO (pc' := 227) (v := 0) kc_196_226 rfl (by decide) hov0 (xi_in (n := 6) (by decide) (by decide)) rfl ?_
                  refine xi_aload_n (pc' := 228) (x := 1000000) kc_196_227 rfl rfl ?_
                  refine xi_iload (pc' := 230) (x := 0) kc_196_228 rfl rfl ?_
                  refine xi_iconst (pc' := 231) (v := 3) kc_196_230 rfl rfl ?_
                  refine xi_iadd (pc' := 232) (v := 3) kc_196_231 rfl rfl ?_
                  refine xi_ialoadO (pc' := 233) (v := a3) kc_196_232 rfl (by decide) hov0 (xi_in (n := 6) (by decide) (by decide)) rfl ?_
                  refine xi_virtual (mj := 10) (as := [.int 3, .int 0, .int a3]) (st1 := [.int 40]) (lv0 := [(0, .ref 115), (1, .int 3), (2, .int 0), (3, .int a3)]) kc_196_233 rfl rfl rfl rfl rfl ((eh2.2.1 115 (by decide)).trans ((eh1.2.1 115 (by decide)).trans (F 115 _ hl_115))) (Nat.le_of_ble_eq_true rfl) (hJ _ _ _ _ (by decide)) (xm_le ml_10 rfl) rfl ?_
                  refine xi_aload_n (pc' := 1) (x := 115) kc_10_0 rfl rfl ?_
                  refine xi_iconst (pc' := 2) (v := 0) kc_10_1 rfl rfl ?_
                  refine xi_putfield (pc' := 5) (fs' := [.int 0, .int 0, .ref 116, .ref 117, .ref 118, .ref 119, .ref 120, .ref 121, .ref 122, .ref 123, .ref 124, .ref 125, .ref 126, .ref 127, .ref 128, .ref 129, .int 4, .ref 130, .int 0, .ref 131, .ref 132, .ref 133, .ref 134, .int 0, .ref 135, .ref 136, .ref 137, .ref 138, .ref 139, .ref 140, .ref 141, .ref 142, .int 0, .int 0, .int 0, .ref 143, .ref 144, .ref 145, .ref 146, .ref 147, .ref 148, .int 0, .ref 149, .ref 150, .ref 151, .int 0, .ref 152, .ref 153, .ref 154, .ref 155, .ref 156, .ref 157, .ref 158, .ref 159, .int 0, .ref 160, .int 0, .ref 161, .ref 162, .ref 163, .ref 164, .int 0, .ref 165, .ref 166]) kc_10_2 rfl rfl rfl ((eh2.2.1 115 (by decide)).trans ((eh1.2.1 115 (by decide)).trans (F 115 _ hl_115))) rfl rfl rfl (Nat.le_of_ble_eq_true rfl) rfl (fun hh3 eh3 => ?_)
                  refine xi_iload_n (pc' := 6) (x := 3) kc_10_5 rfl rfl ?_
                  refine xi_static (mj := 11) (as := [.int 3]) (st1 := []) (lv0 := [(0, .int 3)]) kc_10_6 rfl rfl (Nat.le_of_ble_eq_true rfl) rfl rfl (Nat.le_of_ble_eq_true rfl) (hJ _ _ _ _ (by decide)) (xm_le ml_11 rfl) rfl ?_
                  refine xi_iload_n (pc' := 1) (x := 3) kc_11_0 rfl rfl ?_
                  refine xi_iconst (pc' := 2) (v := 0) kc_11_1 rfl rfl ?_
                  refine xi_iconst (pc' := 3) (v := 5) kc_11_2 rfl rfl ?_
                  refine xi_static (mj := 12) (as := [.int 3, .int 0, .int 5]) (st1 := []) (lv0 := [(0, .int 3), (1, .int 0), (2, .int 5)]) kc_11_3 rfl rfl (Nat.le_of_ble_eq_true rfl) rfl rfl (Nat.le_of_ble_eq_true rfl) (hJ _ _ _ _ (by decide)) (xm_le ml_12 rfl) rfl ?_
                  refine xi_iload_n (pc' := 1) (x := 3) kc_12_0 rfl rfl ?_
                  refine xi_iload_n (pc' := 2) (x := 0) kc_12_1 rfl rfl ?_
                  refine xi_cmf (pc' := 5) kc_12_2 rfl rfl ?_
                  refine xi_iload_n (pc' := 6) (x := 3) kc_12_5 rfl rfl ?_
                  refine xi_iload_n (pc' := 7) (x := 5) kc_12_6 rfl rfl ?_
                  refine xi_cmf (pc' := 10) kc_12_7 rfl rfl ?_
                  refine xi_iconst (pc' := 11) (v := 1) kc_12_10 rfl rfl ?_
                  refine xi_goto (pc' := 15) kc_12_11 rfl ?_
                  refine xi_ireturn kc_12_15 mr_12 rfl ?_
                  show xw J ov 98 11 (6, [(0, .int 3)], [.int 1], hh3) _
                  refine xi_ireturn kc_11_6 mr_11 rfl ?_
                  show xw J ov 99 10 (9, [(0, .ref 115), (1, .int 3), (2, .int 0), (3, .int a3)], [.int 1], hh3) _
                  refine xi_ift (pc' := 18) kc_10_9 rfl rfl ?_
                  refine xi_iload_n (pc' := 19) (x := 0) kc_10_18 rfl rfl ?_
                  refine xi_iconst (pc' := 20) (v := 0) kc_10_19 rfl rfl ?_
                  refine xi_iconst (pc' := 21) (v := 5) kc_10_20 rfl rfl ?_
                  refine xi_static (mj := 12) (as := [.int 0, .int 0, .int 5]) (st1 := []) (lv0 := [(0, .int 0), (1, .int 0), (2, .int 5)]) kc_10_21 rfl rfl (Nat.le_of_ble_eq_true rfl) rfl rfl (Nat.le_of_ble_eq_true rfl) (hJ _ _ _ _ (by decide)) (xm_le ml_12 rfl) rfl ?_
                  refine xi_iload_n (pc' := 1) (x := 0) kc_12_0 rfl rfl ?_
                  refine xi_iload_n (pc' := 2) (x := 0) kc_12_1 rfl rfl ?_
                  refine xi_cmf (pc' := 5) kc_12_2 rfl rfl ?_
                  refine xi_iload_n (pc' := 6) (x := 0) kc_12_5 rfl rfl ?_
                  refine xi_iload_n (pc' := 7) (x := 5) kc_12_6 rfl rfl ?_
                  refine xi_cmf (pc' := 10) kc_12_7 rfl rfl ?_
                  refine xi_iconst (pc' := 11) (v := 1) kc_12_10 rfl rfl ?_
                  refine xi_goto (pc' := 15) kc_12_11 rfl ?_
                  refine xi_ireturn kc_12_15 mr_12 rfl ?_
                  show xw J ov 99 10 (24, [(0, .ref 115), (1, .int 3), (2, .int 0), (3, .int a3)], [.int 1], hh3) _
                  refine xi_ift (pc' := 34) kc_10_24 rfl rfl ?_
                  refine xi_iload_n (pc' := 35) (x := a3) kc_10_34 rfl rfl ?_
                  refine xi_iload_n (pc' := 36) (x := 0) kc_10_35 rfl rfl ?_
                  refine xi_iff (pc' := 39) kc_10_36 rfl rfl ?_
                  refine xi_bipush (pc' := 41) (v := 10) kc_10_39 rfl rfl ?_
                  refine xi_goto (pc' := 45) kc_10_41 rfl ?_
                  refine xi_cmt (pc' := 55) kc_10_45 rfl (xc_ge_t (X := a3.toInt) (Y := 10) rfl (by decide) (by omega)) ?_
                  refine xi_iload_n (pc' := 56) (x := a3) kc_10_55 rfl rfl ?_
                  refine xi_iload_n (pc' := 57) (x := 0) kc_10_56 rfl rfl ?_
                  refine xi_iff (pc' := 60) kc_10_57 rfl rfl ?_
                  refine xi_bipush (pc' := 62) (v := 99) kc_10_60 rfl rfl ?_
                  refine xi_goto (pc' := 96) kc_10_62 rfl ?_
                  refine xi_cmt (pc' := 106) kc_10_96 rfl (xc_le_t (X := a3.toInt) (Y := 99) rfl (by decide) (by omega)) ?_
                  refine xi_aload_n (pc' := 107) (x := 115) kc_10_106 rfl rfl ?_
                  refine xi_iload_n (pc' := 108) (x := 3) kc_10_107 rfl rfl ?_
                  refine xi_iload_n (pc' := 109) (x := 0) kc_10_108 rfl rfl ?_
                  refine xi_virtual (mj := 14) (as := [.int 3, .int 0]) (st1 := []) (lv0 := [(0, .ref 115), (1, .int 3), (2, .int 0)]) kc_10_109 rfl rfl rfl rfl rfl eh3.1 (Nat.le_of_ble_eq_true rfl) (hJ _ _ _ _ (by decide)) (xm_le ml_14 rfl) rfl ?_
                  refine xi_iload_n (pc' := 1) (x := 0) kc_14_0 rfl rfl ?_
                  refine xi_tsi (pc' := 36) (z := 0) kc_14_1 (rfl) rfl (by decide) ?_
                  refine xi_aload_n (pc' := 37) (x := 115) kc_14_36 rfl rfl ?_
                  refine xi_getfield (pc' := 40) (v := .ref 116) kc_14_37 rfl rfl rfl eh3.1 rfl ?_
                  refine xi_iload_n (pc' := 41) (x := 3) kc_14_40 rfl rfl ?_
                  refine xi_iaload (pc' := 42) (v := 40) kc_14_41 rfl ((eh3.2.1 116 (by decide)).trans ((eh2.2.1 116 (by decide)).trans ((eh1.2.1 116 (by decide)).trans (F 116 _ hl_116)))) (by decide) rfl (xi_in (n := 6) (by decide) (by decide)) rfl ?_
                  refine xi_ireturn kc_14_42 mr_14 rfl ?_
                  show xw J ov 99 10 (112, [(0, .ref 115), (1, .int 3), (2, .int 0), (3, .int a3)], [.int 40], hh3) _
                  refine xi_istore (pc' := 114) (lv' := [(4, .int 40), (0, .ref 115), (1, .int 3), (2, .int 0), (3, .int a3)]) kc_10_112 rfl rfl (xm_lt ml_10 rfl) ?_
                  refine xi_aload_n (pc' := 115) (x := 115) kc_10_114 rfl rfl ?_
                  refine xi_iload_n (pc' := 116) (x := 3) kc_10_115 rfl rfl ?_
                  refine xi_iload_n (pc' := 117) (x := 0) kc_10_116 rfl rfl ?_
                  refine xi_iload_n (pc' := 118) (x := a3) kc_10_117 rfl rfl ?_
                  refine xi_virtual (mj := 15) (as := [.int 3, .int 0, .int a3]) (st1 := []) (lv0 := [(0, .ref 115), (1, .int 3), (2, .int 0), (3, .int a3)]) kc_10_118 rfl rfl rfl rfl rfl eh3.1 (Nat.le_of_ble_eq_true rfl) (hJ _ _ _ _ (by decide)) (xm_le ml_15 rfl) rfl ?_
                  refine xi_aload_n (pc' := 1) (x := 115) kc_15_0 rfl rfl ?_
                  refine xi_getfield (pc' := 4) (v := .ref 116) kc_15_1 rfl rfl rfl eh3.1 rfl ?_
                  refine xi_iload_n (pc' := 5) (x := 3) kc_15_4 rfl rfl ?_
                  refine xi_iload_n (pc' := 6) (x := 0) kc_15_5 rfl rfl ?_
                  refine xi_iff (pc' := 9) kc_15_6 rfl rfl ?_
                  refine xi_iload_n (pc' := 10) (x := a3) kc_15_9 rfl rfl ?_
                  refine xi_goto (pc' := 19) kc_15_10 rfl ?_
                  refine xi_iastore (pc' := 20) (x' := [40, 40, 40, a3, 40, 40]) kc_15_19 rfl ((eh3.2.1 116 (by decide)).trans ((eh2.2.1 116 (by decide)).trans ((eh1.2.1 116 (by decide)).trans (F 116 _ hl_116)))) rfl (xi_in (n := 6) (by decide) (by decide)) rfl (fun hh4 eh4 => ?_)
                  refine xi_aload_n (pc' := 21) (x := 115) kc_15_20 rfl rfl ?_
                  refine xi_getfield (pc' := 24) (v := .ref 117) kc_15_21 rfl rfl rfl ((eh4.2.1 115 (by decide)).trans eh3.1) rfl ?_
                  refine xi_iload_n (pc' := 25) (x := 3) kc_15_24 rfl rfl ?_
                  refine xi_iload_n (pc' := 26) (x := 0) kc_15_25 rfl rfl ?_
                  refine xi_iconst (pc' := 27) (v := 1) kc_15_26 rfl rfl ?_
                  refine xi_cmt (pc' := 34) kc_15_27 rfl rfl ?_
                  refine xi_aload_n (pc' := 35) (x := 115) kc_15_34 rfl rfl ?_
                  refine xi_getfield (pc' := 38) (v := .ref 117) kc_15_35 rfl rfl rfl ((eh4.2.1 115 (by decide)).trans eh3.1) rfl ?_
                  refine xi_iload_n (pc' := 39) (x := 3) kc_15_38 rfl rfl ?_
                  refine xi_iaload (pc' := 40) (v := 18) kc_15_39 rfl ((eh4.2.1 117 (by decide)).trans ((eh3.2.1 117 (by decide)).trans ((eh2.2.1 117 (by decide)).trans ((eh1.2.1 117 (by decide)).trans (F 117 _ hl_117))))) (by decide) rfl (xi_in (n := 6) (by decide) (by decide)) rfl ?_
                  refine xi_iastore (pc' := 41) (x' := [18, 18, 18, 18, 18, 18]) kc_15_40 rfl ((eh4.2.1 117 (by decide)).trans ((eh3.2.1 117 (by decide)).trans ((eh2.2.1 117 (by decide)).trans ((eh1.2.1 117 (by decide)).trans (F 117 _ hl_117))))) rfl (xi_in (n := 6) (by decide) (by decide)) rfl (fun hh5 eh5 => ?_)
                  refine xi_aload_n (pc' := 42) (x := 115) kc_15_41 rfl rfl ?_
                  refine xi_getfield (pc' := 45) (v := .ref 118) kc_15_42 rfl rfl rfl ((eh5.2.1 115 (by decide)).trans ((eh4.2.1 115 (by decide)).trans eh3.1)) rfl ?_
                  refine xi_iload_n (pc' := 46) (x := 3) kc_15_45 rfl rfl ?_
                  refine xi_iload_n (pc' := 47) (x := 0) kc_15_46 rfl rfl ?_
                  refine xi_iconst (pc' := 48) (v := 2) kc_15_47 rfl rfl ?_
                  refine xi_cmt (pc' := 55) kc_15_48 rfl rfl ?_
                  refine xi_aload_n (pc' := 56) (x := 115) kc_15_55 rfl rfl ?_
                  refine xi_getfield (pc' := 59) (v := .ref 118) kc_15_56 rfl rfl rfl ((eh5.2.1 115 (by decide)).trans ((eh4.2.1 115 (by decide)).trans eh3.1)) rfl ?_
                  refine xi_iload_n (pc' := 60) (x := 3) kc_15_59 rfl rfl ?_
                  refine xi_iaload (pc' := 61) (v := 10) kc_15_60 rfl ((eh5.2.1 118 (by decide)).trans ((eh4.2.1 118 (by decide)).trans ((eh3.2.1 118 (by decide)).trans ((eh2.2.1 118 (by decide)).trans ((eh1.2.1 118 (by decide)).trans (F 118 _ hl_118)))))) (by decide) rfl (xi_in (n := 6) (by decide) (by decide)) rfl ?_
                  refine xi_iastore (pc' := 62) (x' := [10, 10, 10, 10, 10, 10]) kc_15_61 rfl ((eh5.2.1 118 (by decide)).trans ((eh4.2.1 118 (by decide)).trans ((eh3.2.1 118 (by decide)).trans ((eh2.2.1 118 (by decide)).trans ((eh1.2.1 118 (by decide)).trans (F 118 _ hl_118)))))) rfl (xi_in (n := 6) (by decide) (by decide)) rfl (fun hh6 eh6 => ?_)
                  refine xi_aload_n (pc' := 63) (x := 115) kc_15_62 rfl rfl ?_
                  refine xi_getfield (pc' := 66) (v := .ref 119) kc_15_63 rfl rfl rfl ((eh6.2.1 115 (by decide)).trans ((eh5.2.1 115 (by decide)).trans ((eh4.2.1 115 (by decide)).trans eh3.1))) rfl ?_
                  refine xi_iload_n (pc' := 67) (x := 3) kc_15_66 rfl rfl ?_
                  refine xi_iload_n (pc' := 68) (x := 0) kc_15_67 rfl rfl ?_
                  refine xi_iconst (pc' := 69) (v := 3) kc_15_68 rfl rfl ?_
                  refine xi_cmt (pc' := 76) kc_15_69 rfl rfl ?_
                  refine xi_aload_n (pc' := 77) (x := 115) kc_15_76 rfl rfl ?_
                  refine xi_getfield (pc' := 80) (v := .ref 119) kc_15_77 rfl rfl rfl ((eh6.2.1 115 (by decide)).trans ((eh5.2.1 115 (by decide)).trans ((eh4.2.1 115 (by decide)).trans eh3.1))) rfl ?_
                  refine xi_iload_n (pc' := 81) (x := 3) kc_15_80 rfl rfl ?_
                  refine xi_iaload (pc' := 82) (v := 0) kc_15_81 rfl ((eh6.2.1 119 (by decide)).trans ((eh5.2.1 119 (by decide)).trans ((eh4.2.1 119 (by decide)).trans ((eh3.2.1 119 (by decide)).trans ((eh2.2.1 119 (by decide)).trans ((eh1.2.1 119 (by decide)).trans (F 119 _ hl_119))))))) (by decide) rfl (xi_in (n := 6) (by decide) (by decide)) rfl ?_
                  refine xi_iastore (pc' := 83) (x' := [0, 0, 0, 0, 0, 0]) kc_15_82 rfl ((eh6.2.1 119 (by decide)).trans ((eh5.2.1 119 (by decide)).trans ((eh4.2.1 119 (by decide)).trans ((eh3.2.1 119 (by decide)).trans ((eh2.2.1 119 (by decide)).trans ((eh1.2.1 119 (by decide)).trans (F 119 _ hl_119))))))) rfl (xi_in (n := 6) (by decide) (by decide)) rfl (fun hh7 eh7 => ?_)
                  refine xi_aload_n (pc' := 84) (x := 115) kc_15_83 rfl rfl ?_
                  refine xi_getfield (pc' := 87) (v := .ref 120) kc_15_84 rfl rfl rfl ((eh7.2.1 115 (by decide)).trans ((eh6.2.1 115 (by decide)).trans ((eh5.2.1 115 (by decide)).trans ((eh4.2.1 115 (by decide)).trans eh3.1)))) rfl ?_
                  refine xi_iload_n (pc' := 88) (x := 3) kc_15_87 rfl rfl ?_
                  refine xi_iload_n (pc' := 89) (x := 0) kc_15_88 rfl rfl ?_
                  refine xi_iconst (pc' := 90) (v := 4) kc_15_89 rfl rfl ?_
                  refine xi_cmt (pc' := 97) kc_15_90 rfl rfl ?_
                  refine xi_aload_n (pc' := 98) (x := 115) kc_15_97 rfl rfl ?_
                  refine xi_getfield (pc' := 101) (v := .ref 120) kc_15_98 rfl rfl rfl ((eh7.2.1 115 (by decide)).trans ((eh6.2.1 115 (by decide)).trans ((eh5.2.1 115 (by decide)).trans ((eh4.2.1 115 (by decide)).trans eh3.1)))) rfl ?_
                  refine xi_iload_n (pc' := 102) (x := 3) kc_15_101 rfl rfl ?_
                  refine xi_iaload (pc' := 103) (v := 0) kc_15_102 rfl ((eh7.2.1 120 (by decide)).trans ((eh6.2.1 120 (by decide)).trans ((eh5.2.1 120 (by decide)).trans ((eh4.2.1 120 (by decide)).trans ((eh3.2.1 120 (by decide)).trans ((eh2.2.1 120 (by decide)).trans ((eh1.2.1 120 (by decide)).trans (F 120 _ hl_120)))))))) (by decide) rfl (xi_in (n := 6) (by decide) (by decide)) rfl ?_
                  refine xi_iastore (pc' := 104) (x' := [0, 0, 0, 0, 0, 0]) kc_15_103 rfl ((eh7.2.1 120 (by decide)).trans ((eh6.2.1 120 (by decide)).trans ((eh5.2.1 120 (by decide)).trans ((eh4.2.1 120 (by decide)).trans ((eh3.2.1 120 (by decide)).trans ((eh2.2.1 120 (by decide)).trans ((eh1.2.1 120 (by decide)).trans (F 120 _ hl_120)))))))) rfl (xi_in (n := 6) (by decide) (by decide)) rfl (fun hh8 eh8 => ?_)
                  refine xi_aload_n (pc' := 105) (x := 115) kc_15_104 rfl rfl ?_
                  refine xi_getfield (pc' := 108) (v := .ref 121) kc_15_105 rfl rfl rfl ((eh8.2.1 115 (by decide)).trans ((eh7.2.1 115 (by decide)).trans ((eh6.2.1 115 (by decide)).trans ((eh5.2.1 115 (by decide)).trans ((eh4.2.1 115 (by decide)).trans eh3.1))))) rfl ?_
                  refine xi_iload_n (pc' := 109) (x := 3) kc_15_108 rfl rfl ?_
                  refine xi_iload_n (pc' := 110) (x := 0) kc_15_109 rfl rfl ?_
                  refine xi_iconst (pc' := 111) (v := 5) kc_15_110 rfl rfl ?_
                  refine xi_cmt (pc' := 118) kc_15_111 rfl rfl ?_
                  refine xi_aload_n (pc' := 119) (x := 115) kc_15_118 rfl rfl ?_
                  refine xi_getfield (pc' := 122) (v := .ref 121) kc_15_119 rfl rfl rfl ((eh8.2.1 115 (by decide)).trans ((eh7.2.1 115 (by decide)).trans ((eh6.2.1 115 (by decide)).trans ((eh5.2.1 115 (by decide)).trans ((eh4.2.1 115 (by decide)).trans eh3.1))))) rfl ?_
                  refine xi_iload_n (pc' := 123) (x := 3) kc_15_122 rfl rfl ?_
                  refine xi_iaload (pc' := 124) (v := 0) kc_15_123 rfl ((eh8.2.1 121 (by decide)).trans ((eh7.2.1 121 (by decide)).trans ((eh6.2.1 121 (by decide)).trans ((eh5.2.1 121 (by decide)).trans ((eh4.2.1 121 (by decide)).trans ((eh3.2.1 121 (by decide)).trans ((eh2.2.1 121 (by decide)).trans ((eh1.2.1 121 (by decide)).trans (F 121 _ hl_121))))))))) (by decide) rfl (xi_in (n := 6) (by decide) (by decide)) rfl ?_
                  refine xi_iastore (pc' := 125) (x' := [0, 0, 0, 0, 0, 0]) kc_15_124 rfl ((eh8.2.1 121 (by decide)).trans ((eh7.2.1 121 (by decide)).trans ((eh6.2.1 121 (by decide)).trans ((eh5.2.1 121 (by decide)).trans ((eh4.2.1 121 (by decide)).trans ((eh3.2.1 121 (by decide)).trans ((eh2.2.1 121 (by decide)).trans ((eh1.2.1 121 (by decide)).trans (F 121 _ hl_121))))))))) rfl (xi_in (n := 6) (by decide) (by decide)) rfl (fun hh9 eh9 => ?_)
                  refine xi_aload_n (pc' := 126) (x := 115) kc_15_125 rfl rfl ?_
                  refine xi_iconst (pc' := 127) (v := 0) kc_15_126 rfl rfl ?_
                  refine xi_putfield (pc' := 130) (fs' := [.int 0, .int 0, .ref 116, .ref 117, .ref 118, .ref 119, .ref 120, .ref 121, .ref 122, .ref 123, .ref 124, .ref 125, .ref 126, .ref 127, .ref 128, .ref 129, .int 4, .ref 130, .int 0, .ref 131, .ref 132, .ref 133, .ref 134, .int 0, .ref 135, .ref 136, .ref 137, .ref 138, .ref 139, .ref 140, .ref 141, .ref 142, .int 0, .int 0, .int 0, .ref 143, .ref 144, .ref 145, .ref 146, .ref 147, .ref 148, .int 0, .ref 149, .ref 150, .ref 151, .int 0, .ref 152, .ref 153, .ref 154, .ref 155, .ref 156, .ref 157, .ref 158, .ref 159, .int 0, .ref 160, .int 0, .ref 161, .ref 162, .ref 163, .ref 164, .int 0, .ref 165, .ref 166]) kc_15_127 rfl rfl rfl ((eh9.2.1 115 (by decide)).trans ((eh8.2.1 115 (by decide)).trans ((eh7.2.1 115 (by decide)).trans ((eh6.2.1 115 (by decide)).trans ((eh5.2.1 115 (by decide)).trans ((eh4.2.1 115 (by decide)).trans eh3.1)))))) rfl rfl rfl (Nat.le_of_ble_eq_true rfl) rfl (fun hh10 eh10 => ?_)
                  refine xi_return kc_15_130 mr_15 ?_
                  show xw J ov 99 10 (121, [(4, .int 40), (0, .ref 115), (1, .int 3), (2, .int 0), (3, .int a3)], [], hh10) _
                  refine xi_iload (pc' := 123) (x := 40) kc_10_121 rfl rfl ?_
                  refine xi_ireturn kc_10_123 mr_10 rfl ?_
                  show xw J ov 100 196 (236, [(4, .int 0), (3, .ref 167), (2, .ref 115), (1, .ref 0), (0, .ref 1000000)], [.int 40, .int 40], hh10) _
                  refine xi_cmt (pc' := 1528) kc_196_236 rfl rfl ?_
                  refine xi_iinc (pc' := 1531) (x := 0) (v := 6) (lv' := [(4, .int 6), (3, .ref 167), (2, .ref 115), (1, .ref 0), (0, .ref 1000000)]) kc_196_1528 rfl rfl rfl rfl (xm_lt ml_196 rfl) ?_
                  refine xi_goto (pc' := 23) kc_196_1531 rfl ?_
                  refine xi_iload (pc' := 25) (x := 6) kc_196_23 rfl rfl ?_
                  refine xi_aload_n (pc' := 26) (x := 1000000) kc_196_25 rfl rfl ?_
                  refine xi_arraylength (pc' := 27) (n := 6) (v := 6) kc_196_26 rfl (xl_lenO (by decide) hov0 rfl) rfl ?_
                  refine xi_bipush (pc' := 29) (v := 6) kc_196_27 rfl rfl ?_
                  refine xi_isub (pc' := 30) (v := 0) kc_196_29 rfl rfl ?_
                  refine xi_cmt (pc' := 1534) kc_196_30 rfl rfl ?_
                  refine xi_iconst (pc' := 1535) (v := 1) kc_196_1534 rfl rfl ?_
                  refine xi_ireturn kc_196_1535 mr_196 rfl ?_
                  refine ⟨rfl, ?_, ?_⟩
                  · rw [eh10.2.2.1, eh9.2.2.1, eh8.2.2.1, eh7.2.2.1, eh6.2.2.1, eh5.2.2.1, eh4.2.2.1, eh3.2.2.1, eh2.2.2.1, eh1.2.2.1]; exact hn0
                  · rw [eh10.2.2.2, eh9.2.2.2, eh8.2.2.2, eh7.2.2.2, eh6.2.2.2, eh5.2.2.2, eh4.2.2.2, eh3.2.2.2, eh2.2.2.2, eh1.2.2.2]; exact hz0
                by_cases c12 : a1.toInt = 4
                · have qa1 : a1 = 4 := xc_of (Eq.trans (by omega) (show (4 : Int) = (4 : Int32).toInt by decide))
                  subst qa1
                  refine xi_aaload (pc' := 13) (b := 23) kc_93_12 rfl ((eh1.2.1 2 (by decide)).trans (F 2 _ hl_2)) rfl (xi_in (n := 6) (by decide) (by decide)) rfl ?_
                  refine xi_iload_n (pc' := 14) (x := 0) kc_93_13 rfl rfl ?_
                  refine xi_iload_n (pc' := 15) (x := a3) kc_93_14 rfl rfl ?_
                  refine xi_virtual (mj := 94) (as := [.int 0, .int a3]) (st1 := []) (lv0 := [(0, .ref 23), (1, .int 0), (2, .int a3)]) kc_93_15 rfl rfl rfl rfl rfl ((eh1.2.1 23 (by decide)).trans (F 23 _ hl_23)) (Nat.le_of_ble_eq_true rfl) (hJ _ _ _ _ (by decide)) (xm_le ml_94 rfl) rfl ?_
                  refine xi_iload_n (pc' := 1) (x := 0) kc_94_0 rfl rfl ?_
                  refine xi_iff (pc' := 4) kc_94_1 rfl rfl ?_
                  refine xi_iload_n (pc' := 5) (x := 0) kc_94_4 rfl rfl ?_
                  refine xi_iconst (pc' := 6) (v := 5) kc_94_5 rfl rfl ?_
                  refine xi_cmt (pc' := 11) kc_94_6 rfl rfl ?_
                  refine xi_aload_n (pc' := 12) (x := 23) kc_94_11 rfl rfl ?_
                  refine xi_getfield (pc' := 15) (v := .ref 24) kc_94_12 rfl rfl rfl ((eh1.2.1 23 (by decide)).trans (F 23 _ hl_23)) rfl ?_
                  refine xi_iload_n (pc' := 16) (x := 0) kc_94_15 rfl rfl ?_
                  refine xi_iaload (pc' := 17) (v := 40) kc_94_16 rfl ((eh1.2.1 24 (by decide)).trans (F 24 _ hl_24)) (by decide) rfl (xi_in (n := 5) (by decide) (by decide)) rfl ?_
                  refine xi_istore_n (pc' := 18) (lv' := [(3, .int 40), (0, .ref 23), (1, .int 0), (2, .int a3)]) kc_94_17 rfl rfl (xm_lt ml_94 rfl) ?_
                  refine xi_aload_n (pc' := 19) (x := 23) kc_94_18 rfl rfl ?_
                  refine xi_getfield (pc' := 22) (v := .ref 24) kc_94_19 rfl rfl rfl ((eh1.2.1 23 (by decide)).trans (F 23 _ hl_23)) rfl ?_
                  refine xi_iload_n (pc' := 23) (x := 0) kc_94_22 rfl rfl ?_
                  refine xi_iload_n (pc' := 24) (x := a3) kc_94_23 rfl rfl ?_
                  refine xi_iastore (pc' := 25) (x' := [a3, 18, 10, 0, 0]) kc_94_24 rfl ((eh1.2.1 24 (by decide)).trans (F 24 _ hl_24)) rfl (xi_in (n := 5) (by decide) (by decide)) rfl (fun hh2 eh2 => ?_)
                  refine xi_iload_n (pc' := 26) (x := 40) kc_94_25 rfl rfl ?_
                  refine xi_ireturn kc_94_26 mr_94 rfl ?_
                  show xw J ov 98 93 (18, [(0, .ref 1), (1, .int 4), (2, .int 0), (3, .int a3)], [.int 40], hh2) _
                  refine xi_goto (pc' := 22) kc_93_18 rfl ?_
                  refine xi_ireturn kc_93_22 mr_93 rfl ?_
                  show xw J ov 99 89 (107, [(0, .ref 0), (1, .int 4), (2, .int 0), (3, .int a3)], [.int 40], hh2) _
                  refine xi_ireturn kc_89_107 mr_89 rfl ?_
                  show xw J ov 100 196 (214, [(4, .int 0), (3, .ref 167), (2, .ref 115), (1, .ref 0), (0, .ref 1000000)], [.int 40], hh2) _
                  refine xi_aload_n (pc' := 215) (x := 115) kc_196_214 rfl rfl ?_
                  refine xi_aload_n (pc' := 216) (x := 1000000) kc_196_215 rfl rfl ?_
                  refine xi_iload (pc' := 218) (x := 0) kc_196_216 rfl rfl ?_
                  refine xi_iconst (pc' := 219) (v := 1) kc_196_218 rfl rfl ?_
                  refine xi_iadd (pc' := 220) (v := 1) kc_196_219 rfl rfl ?_
                  refine xi_ialoadO (pc' := 221) (v := 4) kc_196_220 rfl (by decide) hov0 (xi_in (n := 6) (by decide) (by decide)) rfl ?_
                  refine xi_aload_n (pc' := 222) (x := 1000000) kc_196_221 rfl rfl ?_
                  refine xi_iload (pc' := 224) (x := 0) kc_196_222 rfl rfl ?_
                  refine xi_iconst (pc' := 225) (v := 2) kc_196_224 rfl rfl ?_
                  refine xi_iadd (pc' := 226) (v := 2) kc_196_225 rfl rfl ?_
                  refine xi_ialoadO (pc' := 227) (v := 0) kc_196_226 rfl (by decide) hov0 (xi_in (n := 6) (by decide) (by decide)) rfl ?_
                  refine xi_aload_n (pc' := 228) (x := 1000000) kc_196_227 rfl rfl ?_
                  refine xi_iload (pc' := 230) (x := 0) kc_196_228 rfl rfl ?_
                  refine xi_iconst (pc' := 231) (v := 3) kc_196_230 rfl rfl ?_
                  refine xi_iadd (pc' := 232) (v := 3) kc_196_231 rfl rfl ?_
                  refine xi_ialoadO (pc' := 233) (v := a3) kc_196_232 rfl (by decide) hov0 (xi_in (n := 6) (by decide) (by decide)) rfl ?_
                  refine xi_virtual (mj := 10) (as := [.int 4, .int 0, .int a3]) (st1 := [.int 40]) (lv0 := [(0, .ref 115), (1, .int 4), (2, .int 0), (3, .int a3)]) kc_196_233 rfl rfl rfl rfl rfl ((eh2.2.1 115 (by decide)).trans ((eh1.2.1 115 (by decide)).trans (F 115 _ hl_115))) (Nat.le_of_ble_eq_true rfl) (hJ _ _ _ _ (by decide)) (xm_le ml_10 rfl) rfl ?_
                  refine xi_aload_n (pc' := 1) (x := 115) kc_10_0 rfl rfl ?_
                  refine xi_iconst (pc' := 2) (v := 0) kc_10_1 rfl rfl ?_
                  refine xi_putfield (pc' := 5) (fs' := [.int 0, .int 0, .ref 116, .ref 117, .ref 118, .ref 119, .ref 120, .ref 121, .ref 122, .ref 123, .ref 124, .ref 125, .ref 126, .ref 127, .ref 128, .ref 129, .int 4, .ref 130, .int 0, .ref 131, .ref 132, .ref 133, .ref 134, .int 0, .ref 135, .ref 136, .ref 137, .ref 138, .ref 139, .ref 140, .ref 141, .ref 142, .int 0, .int 0, .int 0, .ref 143, .ref 144, .ref 145, .ref 146, .ref 147, .ref 148, .int 0, .ref 149, .ref 150, .ref 151, .int 0, .ref 152, .ref 153, .ref 154, .ref 155, .ref 156, .ref 157, .ref 158, .ref 159, .int 0, .ref 160, .int 0, .ref 161, .ref 162, .ref 163, .ref 164, .int 0, .ref 165, .ref 166]) kc_10_2 rfl rfl rfl ((eh2.2.1 115 (by decide)).trans ((eh1.2.1 115 (by decide)).trans (F 115 _ hl_115))) rfl rfl rfl (Nat.le_of_ble_eq_true rfl) rfl (fun hh3 eh3 => ?_)
                  refine xi_iload_n (pc' := 6) (x := 4) kc_10_5 rfl rfl ?_
                  refine xi_static (mj := 11) (as := [.int 4]) (st1 := []) (lv0 := [(0, .int 4)]) kc_10_6 rfl rfl (Nat.le_of_ble_eq_true rfl) rfl rfl (Nat.le_of_ble_eq_true rfl) (hJ _ _ _ _ (by decide)) (xm_le ml_11 rfl) rfl ?_
                  refine xi_iload_n (pc' := 1) (x := 4) kc_11_0 rfl rfl ?_
                  refine xi_iconst (pc' := 2) (v := 0) kc_11_1 rfl rfl ?_
                  refine xi_iconst (pc' := 3) (v := 5) kc_11_2 rfl rfl ?_
                  refine xi_static (mj := 12) (as := [.int 4, .int 0, .int 5]) (st1 := []) (lv0 := [(0, .int 4), (1, .int 0), (2, .int 5)]) kc_11_3 rfl rfl (Nat.le_of_ble_eq_true rfl) rfl rfl (Nat.le_of_ble_eq_true rfl) (hJ _ _ _ _ (by decide)) (xm_le ml_12 rfl) rfl ?_
                  refine xi_iload_n (pc' := 1) (x := 4) kc_12_0 rfl rfl ?_
                  refine xi_iload_n (pc' := 2) (x := 0) kc_12_1 rfl rfl ?_
                  refine xi_cmf (pc' := 5) kc_12_2 rfl rfl ?_
                  refine xi_iload_n (pc' := 6) (x := 4) kc_12_5 rfl rfl ?_
                  refine xi_iload_n (pc' := 7) (x := 5) kc_12_6 rfl rfl ?_
                  refine xi_cmf (pc' := 10) kc_12_7 rfl rfl ?_
                  refine xi_iconst (pc' := 11) (v := 1) kc_12_10 rfl rfl ?_
                  refine xi_goto (pc' := 15) kc_12_11 rfl ?_
                  refine xi_ireturn kc_12_15 mr_12 rfl ?_
                  show xw J ov 98 11 (6, [(0, .int 4)], [.int 1], hh3) _
                  refine xi_ireturn kc_11_6 mr_11 rfl ?_
                  show xw J ov 99 10 (9, [(0, .ref 115), (1, .int 4), (2, .int 0), (3, .int a3)], [.int 1], hh3) _
                  refine xi_ift (pc' := 18) kc_10_9 rfl rfl ?_
                  refine xi_iload_n (pc' := 19) (x := 0) kc_10_18 rfl rfl ?_
                  refine xi_iconst (pc' := 20) (v := 0) kc_10_19 rfl rfl ?_
                  refine xi_iconst (pc' := 21) (v := 5) kc_10_20 rfl rfl ?_
                  refine xi_static (mj := 12) (as := [.int 0, .int 0, .int 5]) (st1 := []) (lv0 := [(0, .int 0), (1, .int 0), (2, .int 5)]) kc_10_21 rfl rfl (Nat.le_of_ble_eq_true rfl) rfl rfl (Nat.le_of_ble_eq_true rfl) (hJ _ _ _ _ (by decide)) (xm_le ml_12 rfl) rfl ?_
                  refine xi_iload_n (pc' := 1) (x := 0) kc_12_0 rfl rfl ?_
                  refine xi_iload_n (pc' := 2) (x := 0) kc_12_1 rfl rfl ?_
                  refine xi_cmf (pc' := 5) kc_12_2 rfl rfl ?_
                  refine xi_iload_n (pc' := 6) (x := 0) kc_12_5 rfl rfl ?_
                  refine xi_iload_n (pc' := 7) (x := 5) kc_12_6 rfl rfl ?_
                  refine xi_cmf (pc' := 10) kc_12_7 rfl rfl ?_
                  refine xi_iconst (pc' := 11) (v := 1) kc_12_10 rfl rfl ?_
                  refine xi_goto (pc' := 15) kc_12_11 rfl ?_
                  refine xi_ireturn kc_12_15 mr_12 rfl ?_
                  show xw J ov 99 10 (24, [(0, .ref 115), (1, .int 4), (2, .int 0), (3, .int a3)], [.int 1], hh3) _
                  refine xi_ift (pc' := 34) kc_10_24 rfl rfl ?_
                  refine xi_iload_n (pc' := 35) (x := a3) kc_10_34 rfl rfl ?_
                  refine xi_iload_n (pc' := 36) (x := 0) kc_10_35 rfl rfl ?_
                  refine xi_iff (pc' := 39) kc_10_36 rfl rfl ?_
                  refine xi_bipush (pc' := 41) (v := 10) kc_10_39 rfl rfl ?_
                  refine xi_goto (pc' := 45) kc_10_41 rfl ?_
                  refine xi_cmt (pc' := 55) kc_10_45 rfl (xc_ge_t (X := a3.toInt) (Y := 10) rfl (by decide) (by omega)) ?_
                  refine xi_iload_n (pc' := 56) (x := a3) kc_10_55 rfl rfl ?_
                  refine xi_iload_n (pc' := 57) (x := 0) kc_10_56 rfl rfl ?_
                  refine xi_iff (pc' := 60) kc_10_57 rfl rfl ?_
                  refine xi_bipush (pc' := 62) (v := 99) kc_10_60 rfl rfl ?_
                  refine xi_goto (pc' := 96) kc_10_62 rfl ?_
                  refine xi_cmt (pc' := 106) kc_10_96 rfl (xc_le_t (X := a3.toInt) (Y := 99) rfl (by decide) (by omega)) ?_
                  refine xi_aload_n (pc' := 107) (x := 115) kc_10_106 rfl rfl ?_
                  refine xi_iload_n (pc' := 108) (x := 4) kc_10_107 rfl rfl ?_
                  refine xi_iload_n (pc' := 109) (x := 0) kc_10_108 rfl rfl ?_
                  refine xi_virtual (mj := 14) (as := [.int 4, .int 0]) (st1 := []) (lv0 := [(0, .ref 115), (1, .int 4), (2, .int 0)]) kc_10_109 rfl rfl rfl rfl rfl eh3.1 (Nat.le_of_ble_eq_true rfl) (hJ _ _ _ _ (by decide)) (xm_le ml_14 rfl) rfl ?_
                  refine xi_iload_n (pc' := 1) (x := 0) kc_14_0 rfl rfl ?_
                  refine xi_tsi (pc' := 36) (z := 0) kc_14_1 (rfl) rfl (by decide) ?_
                  refine xi_aload_n (pc' := 37) (x := 115) kc_14_36 rfl rfl ?_
                  refine xi_getfield (pc' := 40) (v := .ref 116) kc_14_37 rfl rfl rfl eh3.1 rfl ?_
                  refine xi_iload_n (pc' := 41) (x := 4) kc_14_40 rfl rfl ?_
                  refine xi_iaload (pc' := 42) (v := 40) kc_14_41 rfl ((eh3.2.1 116 (by decide)).trans ((eh2.2.1 116 (by decide)).trans ((eh1.2.1 116 (by decide)).trans (F 116 _ hl_116)))) (by decide) rfl (xi_in (n := 6) (by decide) (by decide)) rfl ?_
                  refine xi_ireturn kc_14_42 mr_14 rfl ?_
                  show xw J ov 99 10 (112, [(0, .ref 115), (1, .int 4), (2, .int 0), (3, .int a3)], [.int 40], hh3) _
                  refine xi_istore (pc' := 114) (lv' := [(4, .int 40), (0, .ref 115), (1, .int 4), (2, .int 0), (3, .int a3)]) kc_10_112 rfl rfl (xm_lt ml_10 rfl) ?_
                  refine xi_aload_n (pc' := 115) (x := 115) kc_10_114 rfl rfl ?_
                  refine xi_iload_n (pc' := 116) (x := 4) kc_10_115 rfl rfl ?_
                  refine xi_iload_n (pc' := 117) (x := 0) kc_10_116 rfl rfl ?_
                  refine xi_iload_n (pc' := 118) (x := a3) kc_10_117 rfl rfl ?_
                  refine xi_virtual (mj := 15) (as := [.int 4, .int 0, .int a3]) (st1 := []) (lv0 := [(0, .ref 115), (1, .int 4), (2, .int 0), (3, .int a3)]) kc_10_118 rfl rfl rfl rfl rfl eh3.1 (Nat.le_of_ble_eq_true rfl) (hJ _ _ _ _ (by decide)) (xm_le ml_15 rfl) rfl ?_
                  refine xi_aload_n (pc' := 1) (x := 115) kc_15_0 rfl rfl ?_
                  refine xi_getfield (pc' := 4) (v := .ref 116) kc_15_1 rfl rfl rfl eh3.1 rfl ?_
                  refine xi_iload_n (pc' := 5) (x := 4) kc_15_4 rfl rfl ?_
                  refine xi_iload_n (pc' := 6) (x := 0) kc_15_5 rfl rfl ?_
                  refine xi_iff (pc' := 9) kc_15_6 rfl rfl ?_
                  refine xi_iload_n (pc' := 10) (x := a3) kc_15_9 rfl rfl ?_
                  refine xi_goto (pc' := 19) kc_15_10 rfl ?_
                  refine xi_iastore (pc' := 20) (x' := [40, 40, 40, 40, a3, 40]) kc_15_19 rfl ((eh3.2.1 116 (by decide)).trans ((eh2.2.1 116 (by decide)).trans ((eh1.2.1 116 (by decide)).trans (F 116 _ hl_116)))) rfl (xi_in (n := 6) (by decide) (by decide)) rfl (fun hh4 eh4 => ?_)
                  refine xi_aload_n (pc' := 21) (x := 115) kc_15_20 rfl rfl ?_
                  refine xi_getfield (pc' := 24) (v := .ref 117) kc_15_21 rfl rfl rfl ((eh4.2.1 115 (by decide)).trans eh3.1) rfl ?_
                  refine xi_iload_n (pc' := 25) (x := 4) kc_15_24 rfl rfl ?_
                  refine xi_iload_n (pc' := 26) (x := 0) kc_15_25 rfl rfl ?_
                  refine xi_iconst (pc' := 27) (v := 1) kc_15_26 rfl rfl ?_
                  refine xi_cmt (pc' := 34) kc_15_27 rfl rfl ?_
                  refine xi_aload_n (pc' := 35) (x := 115) kc_15_34 rfl rfl ?_
                  refine xi_getfield (pc' := 38) (v := .ref 117) kc_15_35 rfl rfl rfl ((eh4.2.1 115 (by decide)).trans eh3.1) rfl ?_
                  refine xi_iload_n (pc' := 39) (x := 4) kc_15_38 rfl rfl ?_
                  refine xi_iaload (pc' := 40) (v := 18) kc_15_39 rfl ((eh4.2.1 117 (by decide)).trans ((eh3.2.1 117 (by decide)).trans ((eh2.2.1 117 (by decide)).trans ((eh1.2.1 117 (by decide)).trans (F 117 _ hl_117))))) (by decide) rfl (xi_in (n := 6) (by decide) (by decide)) rfl ?_
                  refine xi_iastore (pc' := 41) (x' := [18, 18, 18, 18, 18, 18]) kc_15_40 rfl ((eh4.2.1 117 (by decide)).trans ((eh3.2.1 117 (by decide)).trans ((eh2.2.1 117 (by decide)).trans ((eh1.2.1 117 (by decide)).trans (F 117 _ hl_117))))) rfl (xi_in (n := 6) (by decide) (by decide)) rfl (fun hh5 eh5 => ?_)
                  refine xi_aload_n (pc' := 42) (x := 115) kc_15_41 rfl rfl ?_
                  refine xi_getfield (pc' := 45) (v := .ref 118) kc_15_42 rfl rfl rfl ((eh5.2.1 115 (by decide)).trans ((eh4.2.1 115 (by decide)).trans eh3.1)) rfl ?_
                  refine xi_iload_n (pc' := 46) (x := 4) kc_15_45 rfl rfl ?_
                  refine xi_iload_n (pc' := 47) (x := 0) kc_15_46 rfl rfl ?_
                  refine xi_iconst (pc' := 48) (v := 2) kc_15_47 rfl rfl ?_
                  refine xi_cmt (pc' := 55) kc_15_48 rfl rfl ?_
                  refine xi_aload_n (pc' := 56) (x := 115) kc_15_55 rfl rfl ?_
                  refine xi_getfield (pc' := 59) (v := .ref 118) kc_15_56 rfl rfl rfl ((eh5.2.1 115 (by decide)).trans ((eh4.2.1 115 (by decide)).trans eh3.1)) rfl ?_
                  refine xi_iload_n (pc' := 60) (x := 4) kc_15_59 rfl rfl ?_
                  refine xi_iaload (pc' := 61) (v := 10) kc_15_60 rfl ((eh5.2.1 118 (by decide)).trans ((eh4.2.1 118 (by decide)).trans ((eh3.2.1 118 (by decide)).trans ((eh2.2.1 118 (by decide)).trans ((eh1.2.1 118 (by decide)).trans (F 118 _ hl_118)))))) (by decide) rfl (xi_in (n := 6) (by decide) (by decide)) rfl ?_
                  refine xi_iastore (pc' := 62) (x' := [10, 10, 10, 10, 10, 10]) kc_15_61 rfl ((eh5.2.1 118 (by decide)).trans ((eh4.2.1 118 (by decide)).trans ((eh3.2.1 118 (by decide)).trans ((eh2.2.1 118 (by decide)).trans ((eh1.2.1 118 (by decide)).trans (F 118 _ hl_118)))))) rfl (xi_in (n := 6) (by decide) (by decide)) rfl (fun hh6 eh6 => ?_)
                  refine xi_aload_n (pc' := 63) (x := 115) kc_15_62 rfl rfl ?_
                  refine xi_getfield (pc' := 66) (v := .ref 119) kc_15_63 rfl rfl rfl ((eh6.2.1 115 (by decide)).trans ((eh5.2.1 115 (by decide)).trans ((eh4.2.1 115 (by decide)).trans eh3.1))) rfl ?_
                  refine xi_iload_n (pc' := 67) (x := 4) kc_15_66 rfl rfl ?_
                  refine xi_iload_n (pc' := 68) (x := 0) kc_15_67 rfl rfl ?_
                  refine xi_iconst (pc' := 69) (v := 3) kc_15_68 rfl rfl ?_
                  refine xi_cmt (pc' := 76) kc_15_69 rfl rfl ?_
                  refine xi_aload_n (pc' := 77) (x := 115) kc_15_76 rfl rfl ?_
                  refine xi_getfield (pc' := 80) (v := .ref 119) kc_15_77 rfl rfl rfl ((eh6.2.1 115 (by decide)).trans ((eh5.2.1 115 (by decide)).trans ((eh4.2.1 115 (by decide)).trans eh3.1))) rfl ?_
                  refine xi_iload_n (pc' := 81) (x := 4) kc_15_80 rfl rfl ?_
                  refine xi_iaload (pc' := 82) (v := 0) kc_15_81 rfl ((eh6.2.1 119 (by decide)).trans ((eh5.2.1 119 (by decide)).trans ((eh4.2.1 119 (by decide)).trans ((eh3.2.1 119 (by decide)).trans ((eh2.2.1 119 (by decide)).trans ((eh1.2.1 119 (by decide)).trans (F 119 _ hl_119))))))) (by decide) rfl (xi_in (n := 6) (by decide) (by decide)) rfl ?_
                  refine xi_iastore (pc' := 83) (x' := [0, 0, 0, 0, 0, 0]) kc_15_82 rfl ((eh6.2.1 119 (by decide)).trans ((eh5.2.1 119 (by decide)).trans ((eh4.2.1 119 (by decide)).trans ((eh3.2.1 119 (by decide)).trans ((eh2.2.1 119 (by decide)).trans ((eh1.2.1 119 (by decide)).trans (F 119 _ hl_119))))))) rfl (xi_in (n := 6) (by decide) (by decide)) rfl (fun hh7 eh7 => ?_)
                  refine xi_aload_n (pc' := 84) (x := 115) kc_15_83 rfl rfl ?_
                  refine xi_getfield (pc' := 87) (v := .ref 120) kc_15_84 rfl rfl rfl ((eh7.2.1 115 (by decide)).trans ((eh6.2.1 115 (by decide)).trans ((eh5.2.1 115 (by decide)).trans ((eh4.2.1 115 (by decide)).trans eh3.1)))) rfl ?_
                  refine xi_iload_n (pc' := 88) (x := 4) kc_15_87 rfl rfl ?_
                  refine xi_iload_n (pc' := 89) (x := 0) kc_15_88 rfl rfl ?_
                  refine xi_iconst (pc' := 90) (v := 4) kc_15_89 rfl rfl ?_
                  refine xi_cmt (pc' := 97) kc_15_90 rfl rfl ?_
                  refine xi_aload_n (pc' := 98) (x := 115) kc_15_97 rfl rfl ?_
                  refine xi_getfield (pc' := 101) (v := .ref 120) kc_15_98 rfl rfl rfl ((eh7.2.1 115 (by decide)).trans ((eh6.2.1 115 (by decide)).trans ((eh5.2.1 115 (by decide)).trans ((eh4.2.1 115 (by decide)).trans eh3.1)))) rfl ?_
                  refine xi_iload_n (pc' := 102) (x := 4) kc_15_101 rfl rfl ?_
                  refine xi_iaload (pc' := 103) (v := 0) kc_15_102 rfl ((eh7.2.1 120 (by decide)).trans ((eh6.2.1 120 (by decide)).trans ((eh5.2.1 120 (by decide)).trans ((eh4.2.1 120 (by decide)).trans ((eh3.2.1 120 (by decide)).trans ((eh2.2.1 120 (by decide)).trans ((eh1.2.1 120 (by decide)).trans (F 120 _ hl_120)))))))) (by decide) rfl (xi_in (n := 6) (by decide) (by decide)) rfl ?_
                  refine xi_iastore (pc' := 104) (x' := [0, 0, 0, 0, 0, 0]) kc_15_103 rfl ((eh7.2.1 120 (by decide)).trans ((eh6.2.1 120 (by decide)).trans ((eh5.2.1 120 (by decide)).trans ((eh4.2.1 120 (by decide)).trans ((eh3.2.1 120 (by decide)).trans ((eh2.2.1 120 (by decide)).trans ((eh1.2.1 120 (by decide)).trans (F 120 _ hl_120)))))))) rfl (xi_in (n := 6) (by decide) (by decide)) rfl (fun hh8 eh8 => ?_)
                  refine xi_aload_n (pc' := 105) (x := 115) kc_15_104 rfl rfl ?_
                  refine xi_getfield (pc' := 108) (v := .ref 121) kc_15_105 rfl rfl rfl ((eh8.2.1 115 (by decide)).trans ((eh7.2.1 115 (by decide)).trans ((eh6.2.1 115 (by decide)).trans ((eh5.2.1 115 (by decide)).trans ((eh4.2.1 115 (by decide)).trans eh3.1))))) rfl ?_
                  refine xi_iload_n (pc' := 109) (x := 4) kc_15_108 rfl rfl ?_
                  refine xi_iload_n (pc' := 110) (x := 0) kc_15_109 rfl rfl ?_
                  refine xi_iconst (pc' := 111) (v := 5) kc_15_110 rfl rfl ?_
                  refine xi_cmt (pc' := 118) kc_15_111 rfl rfl ?_
                  refine xi_aload_n (pc' := 119) (x := 115) kc_15_118 rfl rfl ?_
                  refine xi_getfield (pc' := 122) (v := .ref 121) kc_15_119 rfl rfl rfl ((eh8.2.1 115 (by decide)).trans ((eh7.2.1 115 (by decide)).trans ((eh6.2.1 115 (by decide)).trans ((eh5.2.1 115 (by decide)).trans ((eh4.2.1 115 (by decide)).trans eh3.1))))) rfl ?_
                  refine xi_iload_n (pc' := 123) (x := 4) kc_15_122 rfl rfl ?_
                  refine xi_iaload (pc' := 124) (v := 0) kc_15_123 rfl ((eh8.2.1 121 (by decide)).trans ((eh7.2.1 121 (by decide)).trans ((eh6.2.1 121 (by decide)).trans ((eh5.2.1 121 (by decide)).trans ((eh4.2.1 121 (by decide)).trans ((eh3.2.1 121 (by decide)).trans ((eh2.2.1 121 (by decide)).trans ((eh1.2.1 121 (by decide)).trans (F 121 _ hl_121))))))))) (by decide) rfl (xi_in (n := 6) (by decide) (by decide)) rfl ?_
                  refine xi_iastore (pc' := 125) (x' := [0, 0, 0, 0, 0, 0]) kc_15_124 rfl ((eh8.2.1 121 (by decide)).trans ((eh7.2.1 121 (by decide)).trans ((eh6.2.1 121 (by decide)).trans ((eh5.2.1 121 (by decide)).trans ((eh4.2.1 121 (by decide)).trans ((eh3.2.1 121 (by decide)).trans ((eh2.2.1 121 (by decide)).trans ((eh1.2.1 121 (by decide)).trans (F 121 _ hl_121))))))))) rfl (xi_in (n := 6) (by decide) (by decide)) rfl (fun hh9 eh9 => ?_)
                  refine xi_aload_n (pc' := 126) (x := 115) kc_15_125 rfl rfl ?_
                  refine xi_iconst (pc' := 127) (v := 0) kc_15_126 rfl rfl ?_
                  refine xi_putfield (pc' := 130) (fs' := [.int 0, .int 0, .ref 116, .ref 117, .ref 118, .ref 119, .ref 120, .ref 121, .ref 122, .ref 123, .ref 124, .ref 125, .ref 126, .ref 127, .ref 128, .ref 129, .int 4, .ref 130, .int 0, .ref 131, .ref 132, .ref 133, .ref 134, .int 0, .ref 135, .ref 136, .ref 137, .ref 138, .ref 139, .ref 140, .ref 141, .ref 142, .int 0, .int 0, .int 0, .ref 143, .ref 144, .ref 145, .ref 146, .ref 147, .ref 148, .int 0, .ref 149, .ref 150, .ref 151, .int 0, .ref 152, .ref 153, .ref 154, .ref 155, .ref 156, .ref 157, .ref 158, .ref 159, .int 0, .ref 160, .int 0, .ref 161, .ref 162, .ref 163, .ref 164, .int 0, .ref 165, .ref 166]) kc_15_127 rfl rfl rfl ((eh9.2.1 115 (by decide)).trans ((eh8.2.1 115 (by decide)).trans ((eh7.2.1 115 (by decide)).trans ((eh6.2.1 115 (by decide)).trans ((eh5.2.1 115 (by decide)).trans ((eh4.2.1 115 (by decide)).trans eh3.1)))))) rfl rfl rfl (Nat.le_of_ble_eq_true rfl) rfl (fun hh10 eh10 => ?_)
                  refine xi_return kc_15_130 mr_15 ?_
                  show xw J ov 99 10 (121, [(4, .int 40), (0, .ref 115), (1, .int 4), (2, .int 0), (3, .int a3)], [], hh10) _
                  refine xi_iload (pc' := 123) (x := 40) kc_10_121 rfl rfl ?_
                  refine xi_ireturn kc_10_123 mr_10 rfl ?_
                  show xw J ov 100 196 (236, [(4, .int 0), (3, .ref 167), (2, .ref 115), (1, .ref 0), (0, .ref 1000000)], [.int 40, .int 40], hh10) _
                  refine xi_cmt (pc' := 1528) kc_196_236 rfl rfl ?_
                  refine xi_iinc (pc' := 1531) (x := 0) (v := 6) (lv' := [(4, .int 6), (3, .ref 167), (2, .ref 115), (1, .ref 0), (0, .ref 1000000)]) kc_196_1528 rfl rfl rfl rfl (xm_lt ml_196 rfl) ?_
                  refine xi_goto (pc' := 23) kc_196_1531 rfl ?_
                  refine xi_iload (pc' := 25) (x := 6) kc_196_23 rfl rfl ?_
                  refine xi_aload_n (pc' := 26) (x := 1000000) kc_196_25 rfl rfl ?_
                  refine xi_arraylength (pc' := 27) (n := 6) (v := 6) kc_196_26 rfl (xl_lenO (by decide) hov0 rfl) rfl ?_
                  refine xi_bipush (pc' := 29) (v := 6) kc_196_27 rfl rfl ?_
                  refine xi_isub (pc' := 30) (v := 0) kc_196_29 rfl rfl ?_
                  refine xi_cmt (pc' := 1534) kc_196_30 rfl rfl ?_
                  refine xi_iconst (pc' := 1535) (v := 1) kc_196_1534 rfl rfl ?_
                  refine xi_ireturn kc_196_1535 mr_196 rfl ?_
                  refine ⟨rfl, ?_, ?_⟩
                  · rw [eh10.2.2.1, eh9.2.2.1, eh8.2.2.1, eh7.2.2.1, eh6.2.2.1, eh5.2.2.1, eh4.2.2.1, eh3.2.2.1, eh2.2.2.1, eh1.2.2.1]; exact hn0
                  · rw [eh10.2.2.2, eh9.2.2.2, eh8.2.2.2, eh7.2.2.2, eh6.2.2.2, eh5.2.2.2, eh4.2.2.2, eh3.2.2.2, eh2.2.2.2, eh1.2.2.2]; exact hz0
                have qa1 : a1 = 5 := xc_of (Eq.trans (by omega) (show (5 : Int) = (5 : Int32).toInt by decide))
                subst qa1
                refine xi_aaload (pc' := 13) (b := 26) kc_93_12 rfl ((eh1.2.1 2 (by decide)).trans (F 2 _ hl_2)) rfl (xi_in (n := 6) (by decide) (by decide)) rfl ?_
                refine xi_iload_n (pc' := 14) (x := 0) kc_93_13 rfl rfl ?_
                refine xi_iload_n (pc' := 15) (x := a3) kc_93_14 rfl rfl ?_
                refine xi_virtual (mj := 94) (as := [.int 0, .int a3]) (st1 := []) (lv0 := [(0, .ref 26), (1, .int 0), (2, .int a3)]) kc_93_15 rfl rfl rfl rfl rfl ((eh1.2.1 26 (by decide)).trans (F 26 _ hl_26)) (Nat.le_of_ble_eq_true rfl) (hJ _ _ _ _ (by decide)) (xm_le ml_94 rfl) rfl ?_
                refine xi_iload_n (pc' := 1) (x := 0) kc_94_0 rfl rfl ?_
                refine xi_iff (pc' := 4) kc_94_1 rfl rfl ?_
                refine xi_iload_n (pc' := 5) (x := 0) kc_94_4 rfl rfl ?_
                refine xi_iconst (pc' := 6) (v := 5) kc_94_5 rfl rfl ?_
                refine xi_cmt (pc' := 11) kc_94_6 rfl rfl ?_
                refine xi_aload_n (pc' := 12) (x := 26) kc_94_11 rfl rfl ?_
                refine xi_getfield (pc' := 15) (v := .ref 27) kc_94_12 rfl rfl rfl ((eh1.2.1 26 (by decide)).trans (F 26 _ hl_26)) rfl ?_
                refine xi_iload_n (pc' := 16) (x := 0) kc_94_15 rfl rfl ?_
                refine xi_iaload (pc' := 17) (v := 40) kc_94_16 rfl ((eh1.2.1 27 (by decide)).trans (F 27 _ hl_27)) (by decide) rfl (xi_in (n := 5) (by decide) (by decide)) rfl ?_
                refine xi_istore_n (pc' := 18) (lv' := [(3, .int 40), (0, .ref 26), (1, .int 0), (2, .int a3)]) kc_94_17 rfl rfl (xm_lt ml_94 rfl) ?_
                refine xi_aload_n (pc' := 19) (x := 26) kc_94_18 rfl rfl ?_
                refine xi_getfield (pc' := 22) (v := .ref 27) kc_94_19 rfl rfl rfl ((eh1.2.1 26 (by decide)).trans (F 26 _ hl_26)) rfl ?_
                refine xi_iload_n (pc' := 23) (x := 0) kc_94_22 rfl rfl ?_
                refine xi_iload_n (pc' := 24) (x := a3) kc_94_23 rfl rfl ?_
                refine xi_iastore (pc' := 25) (x' := [a3, 18, 10, 0, 0]) kc_94_24 rfl ((eh1.2.1 27 (by decide)).trans (F 27 _ hl_27)) rfl (xi_in (n := 5) (by decide) (by decide)) rfl (fun hh2 eh2 => ?_)
                refine xi_iload_n (pc' := 26) (x := 40) kc_94_25 rfl rfl ?_
                refine xi_ireturn kc_94_26 mr_94 rfl ?_
                show xw J ov 98 93 (18, [(0, .ref 1), (1, .int 5), (2, .int 0), (3, .int a3)], [.int 40], hh2) _
                refine xi_goto (pc' := 22) kc_93_18 rfl ?_
                refine xi_ireturn kc_93_22 mr_93 rfl ?_
                show xw J ov 99 89 (107, [(0, .ref 0), (1, .int 5), (2, .int 0), (3, .int a3)], [.int 40], hh2) _
                refine xi_ireturn kc_89_107 mr_89 rfl ?_
                show xw J ov 100 196 (214, [(4, .int 0), (3, .ref 167), (2, .ref 115), (1, .ref 0), (0, .ref 1000000)], [.int 40], hh2) _
                refine xi_aload_n (pc' := 215) (x := 115) kc_196_214 rfl rfl ?_
                refine xi_aload_n (pc' := 216) (x := 1000000) kc_196_215 rfl rfl ?_
                refine xi_iload (pc' := 218) (x := 0) kc_196_216 rfl rfl ?_
                refine xi_iconst (pc' := 219) (v := 1) kc_196_218 rfl rfl ?_
                refine xi_iadd (pc' := 220) (v := 1) kc_196_219 rfl rfl ?_
                refine xi_ialoadO (pc' := 221) (v := 5) kc_196_220 rfl (by decide) hov0 (xi_in (n := 6) (by decide) (by decide)) rfl ?_
                refine xi_aload_n (pc' := 222) (x := 1000000) kc_196_221 rfl rfl ?_
                refine xi_iload (pc' := 224) (x := 0) kc_196_222 rfl rfl ?_
                refine xi_iconst (pc' := 225) (v := 2) kc_196_224 rfl rfl ?_
                refine xi_iadd (pc' := 226) (v := 2) kc_196_225 rfl rfl ?_
                refine xi_ialoadO (pc' := 227) (v := 0) kc_196_226 rfl (by decide) hov0 (xi_in (n := 6) (by decide) (by decide)) rfl ?_
                refine xi_aload_n (pc' := 228) (x := 1000000) kc_196_227 rfl rfl ?_
                refine xi_iload (pc' := 230) (x := 0) kc_196_228 rfl rfl ?_
                refine xi_iconst (pc' := 231) (v := 3) kc_196_230 rfl rfl ?_
                refine xi_iadd (pc' := 232) (v := 3) kc_196_231 rfl rfl ?_
                refine xi_ialoadO (pc' := 233) (v := a3) kc_196_232 rfl (by decide) hov0 (xi_in (n := 6) (by decide) (by decide)) rfl ?_
                refine xi_virtual (mj := 10) (as := [.int 5, .int 0, .int a3]) (st1 := [.int 40]) (lv0 := [(0, .ref 115), (1, .int 5), (2, .int 0), (3, .int a3)]) kc_196_233 rfl rfl rfl rfl rfl ((eh2.2.1 115 (by decide)).trans ((eh1.2.1 115 (by decide)).trans (F 115 _ hl_115))) (Nat.le_of_ble_eq_true rfl) (hJ _ _ _ _ (by decide)) (xm_le ml_10 rfl) rfl ?_
                refine xi_aload_n (pc' := 1) (x := 115) kc_10_0 rfl rfl ?_
                refine xi_iconst (pc' := 2) (v := 0) kc_10_1 rfl rfl ?_
                refine xi_putfield (pc' := 5) (fs' := [.int 0, .int 0, .ref 116, .ref 117, .ref 118, .ref 119, .ref 120, .ref 121, .ref 122, .ref 123, .ref 124, .ref 125, .ref 126, .ref 127, .ref 128, .ref 129, .int 4, .ref 130, .int 0, .ref 131, .ref 132, .ref 133, .ref 134, .int 0, .ref 135, .ref 136, .ref 137, .ref 138, .ref 139, .ref 140, .ref 141, .ref 142, .int 0, .int 0, .int 0, .ref 143, .ref 144, .ref 145, .ref 146, .ref 147, .ref 148, .int 0, .ref 149, .ref 150, .ref 151, .int 0, .ref 152, .ref 153, .ref 154, .ref 155, .ref 156, .ref 157, .ref 158, .ref 159, .int 0, .ref 160, .int 0, .ref 161, .ref 162, .ref 163, .ref 164, .int 0, .ref 165, .ref 166]) kc_10_2 rfl rfl rfl ((eh2.2.1 115 (by decide)).trans ((eh1.2.1 115 (by decide)).trans (F 115 _ hl_115))) rfl rfl rfl (Nat.le_of_ble_eq_true rfl) rfl (fun hh3 eh3 => ?_)
                refine xi_iload_n (pc' := 6) (x := 5) kc_10_5 rfl rfl ?_
                refine xi_static (mj := 11) (as := [.int 5]) (st1 := []) (lv0 := [(0, .int 5)]) kc_10_6 rfl rfl (Nat.le_of_ble_eq_true rfl) rfl rfl (Nat.le_of_ble_eq_true rfl) (hJ _ _ _ _ (by decide)) (xm_le ml_11 rfl) rfl ?_
                refine xi_iload_n (pc' := 1) (x := 5) kc_11_0 rfl rfl ?_
                refine xi_iconst (pc' := 2) (v := 0) kc_11_1 rfl rfl ?_
                refine xi_iconst (pc' := 3) (v := 5) kc_11_2 rfl rfl ?_
                refine xi_static (mj := 12) (as := [.int 5, .int 0, .int 5]) (st1 := []) (lv0 := [(0, .int 5), (1, .int 0), (2, .int 5)]) kc_11_3 rfl rfl (Nat.le_of_ble_eq_true rfl) rfl rfl (Nat.le_of_ble_eq_true rfl) (hJ _ _ _ _ (by decide)) (xm_le ml_12 rfl) rfl ?_
                refine xi_iload_n (pc' := 1) (x := 5) kc_12_0 rfl rfl ?_
                refine xi_iload_n (pc' := 2) (x := 0) kc_12_1 rfl rfl ?_
                refine xi_cmf (pc' := 5) kc_12_2 rfl rfl ?_
                refine xi_iload_n (pc' := 6) (x := 5) kc_12_5 rfl rfl ?_
                refine xi_iload_n (pc' := 7) (x := 5) kc_12_6 rfl rfl ?_
                refine xi_cmf (pc' := 10) kc_12_7 rfl rfl ?_
                refine xi_iconst (pc' := 11) (v := 1) kc_12_10 rfl rfl ?_
                refine xi_goto (pc' := 15) kc_12_11 rfl ?_
                refine xi_ireturn kc_12_15 mr_12 rfl ?_
                show xw J ov 98 11 (6, [(0, .int 5)], [.int 1], hh3) _
                refine xi_ireturn kc_11_6 mr_11 rfl ?_
                show xw J ov 99 10 (9, [(0, .ref 115), (1, .int 5), (2, .int 0), (3, .int a3)], [.int 1], hh3) _
                refine xi_ift (pc' := 18) kc_10_9 rfl rfl ?_
                refine xi_iload_n (pc' := 19) (x := 0) kc_10_18 rfl rfl ?_
                refine xi_iconst (pc' := 20) (v := 0) kc_10_19 rfl rfl ?_
                refine xi_iconst (pc' := 21) (v := 5) kc_10_20 rfl rfl ?_
                refine xi_static (mj := 12) (as := [.int 0, .int 0, .int 5]) (st1 := []) (lv0 := [(0, .int 0), (1, .int 0), (2, .int 5)]) kc_10_21 rfl rfl (Nat.le_of_ble_eq_true rfl) rfl rfl (Nat.le_of_ble_eq_true rfl) (hJ _ _ _ _ (by decide)) (xm_le ml_12 rfl) rfl ?_
                refine xi_iload_n (pc' := 1) (x := 0) kc_12_0 rfl rfl ?_
                refine xi_iload_n (pc' := 2) (x := 0) kc_12_1 rfl rfl ?_
                refine xi_cmf (pc' := 5) kc_12_2 rfl rfl ?_
                refine xi_iload_n (pc' := 6) (x := 0) kc_12_5 rfl rfl ?_
                refine xi_iload_n (pc' := 7) (x := 5) kc_12_6 rfl rfl ?_
                refine xi_cmf (pc' := 10) kc_12_7 rfl rfl ?_
                refine xi_iconst (pc' := 11) (v := 1) kc_12_10 rfl rfl ?_
                refine xi_goto (pc' := 15) kc_12_11 rfl ?_
                refine xi_ireturn kc_12_15 mr_12 rfl ?_
                show xw J ov 99 10 (24, [(0, .ref 115), (1, .int 5), (2, .int 0), (3, .int a3)], [.int 1], hh3) _
                refine xi_ift (pc' := 34) kc_10_24 rfl rfl ?_
                refine xi_iload_n (pc' := 35) (x := a3) kc_10_34 rfl rfl ?_
                refine xi_iload_n (pc' := 36) (x := 0) kc_10_35 rfl rfl ?_
                refine xi_iff (pc' := 39) kc_10_36 rfl rfl ?_
                refine xi_bipush (pc' := 41) (v := 10) kc_10_39 rfl rfl ?_
                refine xi_goto (pc' := 45) kc_10_41 rfl ?_
                refine xi_cmt (pc' := 55) kc_10_45 rfl (xc_ge_t (X := a3.toInt) (Y := 10) rfl (by decide) (by omega)) ?_
                refine xi_iload_n (pc' := 56) (x := a3) kc_10_55 rfl rfl ?_
                refine xi_iload_n (pc' := 57) (x := 0) kc_10_56 rfl rfl ?_
                refine xi_iff (pc' := 60) kc_10_57 rfl rfl ?_
                refine xi_bipush (pc' := 62) (v := 99) kc_10_60 rfl rfl ?_
                refine xi_goto (pc' := 96) kc_10_62 rfl ?_
                refine xi_cmt (pc' := 106) kc_10_96 rfl (xc_le_t (X := a3.toInt) (Y := 99) rfl (by decide) (by omega)) ?_
                refine xi_aload_n (pc' := 107) (x := 115) kc_10_106 rfl rfl ?_
                refine xi_iload_n (pc' := 108) (x := 5) kc_10_107 rfl rfl ?_
                refine xi_iload_n (pc' := 109) (x := 0) kc_10_108 rfl rfl ?_
                refine xi_virtual (mj := 14) (as := [.int 5, .int 0]) (st1 := []) (lv0 := [(0, .ref 115), (1, .int 5), (2, .int 0)]) kc_10_109 rfl rfl rfl rfl rfl eh3.1 (Nat.le_of_ble_eq_true rfl) (hJ _ _ _ _ (by decide)) (xm_le ml_14 rfl) rfl ?_
                refine xi_iload_n (pc' := 1) (x := 0) kc_14_0 rfl rfl ?_
                refine xi_tsi (pc' := 36) (z := 0) kc_14_1 (rfl) rfl (by decide) ?_
                refine xi_aload_n (pc' := 37) (x := 115) kc_14_36 rfl rfl ?_
                refine xi_getfield (pc' := 40) (v := .ref 116) kc_14_37 rfl rfl rfl eh3.1 rfl ?_
                refine xi_iload_n (pc' := 41) (x := 5) kc_14_40 rfl rfl ?_
                refine xi_iaload (pc' := 42) (v := 40) kc_14_41 rfl ((eh3.2.1 116 (by decide)).trans ((eh2.2.1 116 (by decide)).trans ((eh1.2.1 116 (by decide)).trans (F 116 _ hl_116)))) (by decide) rfl (xi_in (n := 6) (by decide) (by decide)) rfl ?_
                refine xi_ireturn kc_14_42 mr_14 rfl ?_
                show xw J ov 99 10 (112, [(0, .ref 115), (1, .int 5), (2, .int 0), (3, .int a3)], [.int 40], hh3) _
                refine xi_istore (pc' := 114) (lv' := [(4, .int 40), (0, .ref 115), (1, .int 5), (2, .int 0), (3, .int a3)]) kc_10_112 rfl rfl (xm_lt ml_10 rfl) ?_
                refine xi_aload_n (pc' := 115) (x := 115) kc_10_114 rfl rfl ?_
                refine xi_iload_n (pc' := 116) (x := 5) kc_10_115 rfl rfl ?_
                refine xi_iload_n (pc' := 117) (x := 0) kc_10_116 rfl rfl ?_
                refine xi_iload_n (pc' := 118) (x := a3) kc_10_117 rfl rfl ?_
                refine xi_virtual (mj := 15) (as := [.int 5, .int 0, .int a3]) (st1 := []) (lv0 := [(0, .ref 115), (1, .int 5), (2, .int 0), (3, .int a3)]) kc_10_118 rfl rfl rfl rfl rfl eh3.1 (Nat.le_of_ble_eq_true rfl) (hJ _ _ _ _ (by decide)) (xm_le ml_15 rfl) rfl ?_
                refine xi_aload_n (pc' := 1) (x := 115) kc_15_0 rfl rfl ?_
                refine xi_getfield (pc' := 4) (v := .ref 116) kc_15_1 rfl rfl rfl eh3.1 rfl ?_
                refine xi_iload_n (pc' := 5) (x := 5) kc_15_4 rfl rfl ?_
                refine xi_iload_n (pc' := 6) (x := 0) kc_15_5 rfl rfl ?_
                refine xi_iff (pc' := 9) kc_15_6 rfl rfl ?_
                refine xi_iload_n (pc' := 10) (x := a3) kc_15_9 rfl rfl ?_
                refine xi_goto (pc' := 19) kc_15_10 rfl ?_
                refine xi_iastore (pc' := 20) (x' := [40, 40, 40, 40, 40, a3]) kc_15_19 rfl ((eh3.2.1 116 (by decide)).trans ((eh2.2.1 116 (by decide)).trans ((eh1.2.1 116 (by decide)).trans (F 116 _ hl_116)))) rfl (xi_in (n := 6) (by decide) (by decide)) rfl (fun hh4 eh4 => ?_)
                refine xi_aload_n (pc' := 21) (x := 115) kc_15_20 rfl rfl ?_
                refine xi_getfield (pc' := 24) (v := .ref 117) kc_15_21 rfl rfl rfl ((eh4.2.1 115 (by decide)).trans eh3.1) rfl ?_
                refine xi_iload_n (pc' := 25) (x := 5) kc_15_24 rfl rfl ?_
                refine xi_iload_n (pc' := 26) (x := 0) kc_15_25 rfl rfl ?_
                refine xi_iconst (pc' := 27) (v := 1) kc_15_26 rfl rfl ?_
                refine xi_cmt (pc' := 34) kc_15_27 rfl rfl ?_
                refine xi_aload_n (pc' := 35) (x := 115) kc_15_34 rfl rfl ?_
                refine xi_getfield (pc' := 38) (v := .ref 117) kc_15_35 rfl rfl rfl ((eh4.2.1 115 (by decide)).trans eh3.1) rfl ?_
                refine xi_iload_n (pc' := 39) (x := 5) kc_15_38 rfl rfl ?_
                refine xi_iaload (pc' := 40) (v := 18) kc_15_39 rfl ((eh4.2.1 117 (by decide)).trans ((eh3.2.1 117 (by decide)).trans ((eh2.2.1 117 (by decide)).trans ((eh1.2.1 117 (by decide)).trans (F 117 _ hl_117))))) (by decide) rfl (xi_in (n := 6) (by decide) (by decide)) rfl ?_
                refine xi_iastore (pc' := 41) (x' := [18, 18, 18, 18, 18, 18]) kc_15_40 rfl ((eh4.2.1 117 (by decide)).trans ((eh3.2.1 117 (by decide)).trans ((eh2.2.1 117 (by decide)).trans ((eh1.2.1 117 (by decide)).trans (F 117 _ hl_117))))) rfl (xi_in (n := 6) (by decide) (by decide)) rfl (fun hh5 eh5 => ?_)
                refine xi_aload_n (pc' := 42) (x := 115) kc_15_41 rfl rfl ?_
                refine xi_getfield (pc' := 45) (v := .ref 118) kc_15_42 rfl rfl rfl ((eh5.2.1 115 (by decide)).trans ((eh4.2.1 115 (by decide)).trans eh3.1)) rfl ?_
                refine xi_iload_n (pc' := 46) (x := 5) kc_15_45 rfl rfl ?_
                refine xi_iload_n (pc' := 47) (x := 0) kc_15_46 rfl rfl ?_
                refine xi_iconst (pc' := 48) (v := 2) kc_15_47 rfl rfl ?_
                refine xi_cmt (pc' := 55) kc_15_48 rfl rfl ?_
                refine xi_aload_n (pc' := 56) (x := 115) kc_15_55 rfl rfl ?_
                refine xi_getfield (pc' := 59) (v := .ref 118) kc_15_56 rfl rfl rfl ((eh5.2.1 115 (by decide)).trans ((eh4.2.1 115 (by decide)).trans eh3.1)) rfl ?_
                refine xi_iload_n (pc' := 60) (x := 5) kc_15_59 rfl rfl ?_
                refine xi_iaload (pc' := 61) (v := 10) kc_15_60 rfl ((eh5.2.1 118 (by decide)).trans ((eh4.2.1 118 (by decide)).trans ((eh3.2.1 118 (by decide)).trans ((eh2.2.1 118 (by decide)).trans ((eh1.2.1 118 (by decide)).trans (F 118 _ hl_118)))))) (by decide) rfl (xi_in (n := 6) (by decide) (by decide)) rfl ?_
                refine xi_iastore (pc' := 62) (x' := [10, 10, 10, 10, 10, 10]) kc_15_61 rfl ((eh5.2.1 118 (by decide)).trans ((eh4.2.1 118 (by decide)).trans ((eh3.2.1 118 (by decide)).trans ((eh2.2.1 118 (by decide)).trans ((eh1.2.1 118 (by decide)).trans (F 118 _ hl_118)))))) rfl (xi_in (n := 6) (by decide) (by decide)) rfl (fun hh6 eh6 => ?_)
                refine xi_aload_n (pc' := 63) (x := 115) kc_15_62 rfl rfl ?_
                refine xi_getfield (pc' := 66) (v := .ref 119) kc_15_63 rfl rfl rfl ((eh6.2.1 115 (by decide)).trans ((eh5.2.1 115 (by decide)).trans ((eh4.2.1 115 (by decide)).trans eh3.1))) rfl ?_
                refine xi_iload_n (pc' := 67) (x := 5) kc_15_66 rfl rfl ?_
                refine xi_iload_n (pc' := 68) (x := 0) kc_15_67 rfl rfl ?_
                refine xi_iconst (pc' := 69) (v := 3) kc_15_68 rfl rfl ?_
                refine xi_cmt (pc' := 76) kc_15_69 rfl rfl ?_
                refine xi_aload_n (pc' := 77) (x := 115) kc_15_76 rfl rfl ?_
                refine xi_getfield (pc' := 80) (v := .ref 119) kc_15_77 rfl rfl rfl ((eh6.2.1 115 (by decide)).trans ((eh5.2.1 115 (by decide)).trans ((eh4.2.1 115 (by decide)).trans eh3.1))) rfl ?_
                refine xi_iload_n (pc' := 81) (x := 5) kc_15_80 rfl rfl ?_
                refine xi_iaload (pc' := 82) (v := 0) kc_15_81 rfl ((eh6.2.1 119 (by decide)).trans ((eh5.2.1 119 (by decide)).trans ((eh4.2.1 119 (by decide)).trans ((eh3.2.1 119 (by decide)).trans ((eh2.2.1 119 (by decide)).trans ((eh1.2.1 119 (by decide)).trans (F 119 _ hl_119))))))) (by decide) rfl (xi_in (n := 6) (by decide) (by decide)) rfl ?_
                refine xi_iastore (pc' := 83) (x' := [0, 0, 0, 0, 0, 0]) kc_15_82 rfl ((eh6.2.1 119 (by decide)).trans ((eh5.2.1 119 (by decide)).trans ((eh4.2.1 119 (by decide)).trans ((eh3.2.1 119 (by decide)).trans ((eh2.2.1 119 (by decide)).trans ((eh1.2.1 119 (by decide)).trans (F 119 _ hl_119))))))) rfl (xi_in (n := 6) (by decide) (by decide)) rfl (fun hh7 eh7 => ?_)
                refine xi_aload_n (pc' := 84) (x := 115) kc_15_83 rfl rfl ?_
                refine xi_getfield (pc' := 87) (v := .ref 120) kc_15_84 rfl rfl rfl ((eh7.2.1 115 (by decide)).trans ((eh6.2.1 115 (by decide)).trans ((eh5.2.1 115 (by decide)).trans ((eh4.2.1 115 (by decide)).trans eh3.1)))) rfl ?_
                refine xi_iload_n (pc' := 88) (x := 5) kc_15_87 rfl rfl ?_
                refine xi_iload_n (pc' := 89) (x := 0) kc_15_88 rfl rfl ?_
                refine xi_iconst (pc' := 90) (v := 4) kc_15_89 rfl rfl ?_
                refine xi_cmt (pc' := 97) kc_15_90 rfl rfl ?_
                refine xi_aload_n (pc' := 98) (x := 115) kc_15_97 rfl rfl ?_
                refine xi_getfield (pc' := 101) (v := .ref 120) kc_15_98 rfl rfl rfl ((eh7.2.1 115 (by decide)).trans ((eh6.2.1 115 (by decide)).trans ((eh5.2.1 115 (by decide)).trans ((eh4.2.1 115 (by decide)).trans eh3.1)))) rfl ?_
                refine xi_iload_n (pc' := 102) (x := 5) kc_15_101 rfl rfl ?_
                refine xi_iaload (pc' := 103) (v := 0) kc_15_102 rfl ((eh7.2.1 120 (by decide)).trans ((eh6.2.1 120 (by decide)).trans ((eh5.2.1 120 (by decide)).trans ((eh4.2.1 120 (by decide)).trans ((eh3.2.1 120 (by decide)).trans ((eh2.2.1 120 (by decide)).trans ((eh1.2.1 120 (by decide)).trans (F 120 _ hl_120)))))))) (by decide) rfl (xi_in (n := 6) (by decide) (by decide)) rfl ?_
                refine xi_iastore (pc' := 104) (x' := [0, 0, 0, 0, 0, 0]) kc_15_103 rfl ((eh7.2.1 120 (by decide)).trans ((eh6.2.1 120 (by decide)).trans ((eh5.2.1 120 (by decide)).trans ((eh4.2.1 120 (by decide)).trans ((eh3.2.1 120 (by decide)).trans ((eh2.2.1 120 (by decide)).trans ((eh1.2.1 120 (by decide)).trans (F 120 _ hl_120)))))))) rfl (xi_in (n := 6) (by decide) (by decide)) rfl (fun hh8 eh8 => ?_)
                refine xi_aload_n (pc' := 105) (x := 115) kc_15_104 rfl rfl ?_
                refine xi_getfield (pc' := 108) (v := .ref 121) kc_15_105 rfl rfl rfl ((eh8.2.1 115 (by decide)).trans ((eh7.2.1 115 (by decide)).trans ((eh6.2.1 115 (by decide)).trans ((eh5.2.1 115 (by decide)).trans ((eh4.2.1 115 (by decide)).trans eh3.1))))) rfl ?_
                refine xi_iload_n (pc' := 109) (x := 5) kc_15_108 rfl rfl ?_
                refine xi_iload_n (pc' := 110) (x := 0) kc_15_109 rfl rfl ?_
                refine xi_iconst (pc' := 111) (v := 5) kc_15_110 rfl rfl ?_
                refine xi_cmt (pc' := 118) kc_15_111 rfl rfl ?_
                refine xi_aload_n (pc' := 119) (x := 115) kc_15_118 rfl rfl ?_
                refine xi_getfield (pc' := 122) (v := .ref 121) kc_15_119 rfl rfl rfl ((eh8.2.1 115 (by decide)).trans ((eh7.2.1 115 (by decide)).trans ((eh6.2.1 115 (by decide)).trans ((eh5.2.1 115 (by decide)).trans ((eh4.2.1 115 (by decide)).trans eh3.1))))) rfl ?_
                refine xi_iload_n (pc' := 123) (x := 5) kc_15_122 rfl rfl ?_
                refine xi_iaload (pc' := 124) (v := 0) kc_15_123 rfl ((eh8.2.1 121 (by decide)).trans ((eh7.2.1 121 (by decide)).trans ((eh6.2.1 121 (by decide)).trans ((eh5.2.1 121 (by decide)).trans ((eh4.2.1 121 (by decide)).trans ((eh3.2.1 121 (by decide)).trans ((eh2.2.1 121 (by decide)).trans ((eh1.2.1 121 (by decide)).trans (F 121 _ hl_121))))))))) (by decide) rfl (xi_in (n := 6) (by decide) (by decide)) rfl ?_
                refine xi_iastore (pc' := 125) (x' := [0, 0, 0, 0, 0, 0]) kc_15_124 rfl ((eh8.2.1 121 (by decide)).trans ((eh7.2.1 121 (by decide)).trans ((eh6.2.1 121 (by decide)).trans ((eh5.2.1 121 (by decide)).trans ((eh4.2.1 121 (by decide)).trans ((eh3.2.1 121 (by decide)).trans ((eh2.2.1 121 (by decide)).trans ((eh1.2.1 121 (by decide)).trans (F 121 _ hl_121))))))))) rfl (xi_in (n := 6) (by decide) (by decide)) rfl (fun hh9 eh9 => ?_)
                refine xi_aload_n (pc' := 126) (x := 115) kc_15_125 rfl rfl ?_
                refine xi_iconst (pc' := 127) (v := 0) kc_15_126 rfl rfl ?_
                refine xi_putfield (pc' := 130) (fs' := [.int 0, .int 0, .ref 116, .ref 117, .ref 118, .ref 119, .ref 120, .ref 121, .ref 122, .ref 123, .ref 124, .ref 125, .ref 126, .ref 127, .ref 128, .ref 129, .int 4, .ref 130, .int 0, .ref 131, .ref 132, .ref 133, .ref 134, .int 0, .ref 135, .ref 136, .ref 137, .ref 138, .ref 139, .ref 140, .ref 141, .ref 142, .int 0, .int 0, .int 0, .ref 143, .ref 144, .ref 145, .ref 146, .ref 147, .ref 148, .int 0, .ref 149, .ref 150, .ref 151, .int 0, .ref 152, .ref 153, .ref 154, .ref 155, .ref 156, .ref 157, .ref 158, .ref 159, .int 0, .ref 160, .int 0, .ref 161, .ref 162, .ref 163, .ref 164, .int 0, .ref 165, .ref 166]) kc_15_127 rfl rfl rfl ((eh9.2.1 115 (by decide)).trans ((eh8.2.1 115 (by decide)).trans ((eh7.2.1 115 (by decide)).trans ((eh6.2.1 115 (by decide)).trans ((eh5.2.1 115 (by decide)).trans ((eh4.2.1 115 (by decide)).trans eh3.1)))))) rfl rfl rfl (Nat.le_of_ble_eq_true rfl) rfl (fun hh10 eh10 => ?_)
                refine xi_return kc_15_130 mr_15 ?_
                show xw J ov 99 10 (121, [(4, .int 40), (0, .ref 115), (1, .int 5), (2, .int 0), (3, .int a3)], [], hh10) _
                refine xi_iload (pc' := 123) (x := 40) kc_10_121 rfl rfl ?_
                refine xi_ireturn kc_10_123 mr_10 rfl ?_
                show xw J ov 100 196 (236, [(4, .int 0), (3, .ref 167), (2, .ref 115), (1, .ref 0), (0, .ref 1000000)], [.int 40, .int 40], hh10) _
                refine xi_cmt (pc' := 1528) kc_196_236 rfl rfl ?_
                refine xi_iinc (pc' := 1531) (x := 0) (v := 6) (lv' := [(4, .int 6), (3, .ref 167), (2, .ref 115), (1, .ref 0), (0, .ref 1000000)]) kc_196_1528 rfl rfl rfl rfl (xm_lt ml_196 rfl) ?_
                refine xi_goto (pc' := 23) kc_196_1531 rfl ?_
                refine xi_iload (pc' := 25) (x := 6) kc_196_23 rfl rfl ?_
                refine xi_aload_n (pc' := 26) (x := 1000000) kc_196_25 rfl rfl ?_
                refine xi_arraylength (pc' := 27) (n := 6) (v := 6) kc_196_26 rfl (xl_lenO (by decide) hov0 rfl) rfl ?_
                refine xi_bipush (pc' := 29) (v := 6) kc_196_27 rfl rfl ?_
                refine xi_isub (pc' := 30) (v := 0) kc_196_29 rfl rfl ?_
                refine xi_cmt (pc' := 1534) kc_196_30 rfl rfl ?_
                refine xi_iconst (pc' := 1535) (v := 1) kc_196_1534 rfl rfl ?_
                refine xi_ireturn kc_196_1535 mr_196 rfl ?_
                refine ⟨rfl, ?_, ?_⟩
                · rw [eh10.2.2.1, eh9.2.2.1, eh8.2.2.1, eh7.2.2.1, eh6.2.2.1, eh5.2.2.1, eh4.2.2.1, eh3.2.2.1, eh2.2.2.1, eh1.2.2.1]; exact hn0
                · rw [eh10.2.2.2, eh9.2.2.2, eh8.2.2.2, eh7.2.2.2, eh6.2.2.2, eh5.2.2.2, eh4.2.2.2, eh3.2.2.2, eh2.2.2.2, eh1.2.2.2]; exact hz0
              · refine xi_cmf (pc' := 54) kc_89_51 rfl (xc_le_f (X := a3.toInt) (Y := 99) rfl (by decide) (by omega)) ?_
                refine xi_aload_n (pc' := 55) (x := 0) kc_89_54 rfl rfl ?_
                refine xi_bipush (pc' := 57) (v := (-6)) kc_89_55 rfl rfl ?_
                refine xi_virtual (mj := 91) (as := [.int (-6)]) (st1 := []) (lv0 := [(0, .ref 0), (1, .int (-6))]) kc_89_57 rfl rfl rfl rfl rfl (F 0 _ hl_0) (Nat.le_of_ble_eq_true rfl) (hJ _ _ _ _ (by decide)) (xm_le ml_91 rfl) rfl ?_
                refine xi_iload_n (pc' := 1) (x := (-6)) kc_91_0 rfl rfl ?_
                refine xi_ineg (pc' := 2) (v := 6) kc_91_1 rfl rfl ?_
                refine xi_istore_n (pc' := 3) (lv' := [(2, .int 6), (0, .ref 0), (1, .int (-6))]) kc_91_2 rfl rfl (xm_lt ml_91 rfl) ?_
                refine xi_iload_n (pc' := 4) (x := 6) kc_91_3 rfl rfl ?_
                refine xi_iff (pc' := 7) kc_91_4 rfl rfl ?_
                refine xi_iload_n (pc' := 8) (x := 6) kc_91_7 rfl rfl ?_
                refine xi_aload_n (pc' := 9) (x := 0) kc_91_8 rfl rfl ?_
                refine xi_getfield (pc' := 12) (v := .ref 94) kc_91_9 rfl rfl rfl (F 0 _ hl_0) rfl ?_
                refine xi_arraylength (pc' := 13) (n := 7) (v := 7) kc_91_12 rfl (xl_lenI (by decide) (by decide) (F 94 _ hl_94) (by simp only [List.length_replicate, List.length_cons, List.length_nil])) rfl ?_
                refine xi_cmf (pc' := 16) kc_91_13 rfl rfl ?_
                refine xi_aload_n (pc' := 17) (x := 0) kc_91_16 rfl rfl ?_
                refine xi_getfield (pc' := 20) (v := .ref 94) kc_91_17 rfl rfl rfl (F 0 _ hl_0) rfl ?_
                refine xi_iload_n (pc' := 21) (x := 6) kc_91_20 rfl rfl ?_
                refine xi_dup2 (pc' := 22) kc_91_21 rfl ⟨rfl, rfl⟩ ?_
                refine xi_iaload (pc' := 23) (v := 0) kc_91_22 rfl (F 94 _ hl_94) (by decide) rfl (xi_in (n := 7) (by decide) (by decide)) rfl ?_
                refine xi_iconst (pc' := 24) (v := 1) kc_91_23 rfl rfl ?_
                refine xi_iadd (pc' := 25) (v := 1) kc_91_24 rfl rfl ?_
                refine xi_iastore (pc' := 26) (x' := [0, 0, 0, 0, 0, 0, 1]) kc_91_25 rfl (F 94 _ hl_94) rfl (xi_in (n := 7) (by decide) (by decide)) rfl (fun hh1 eh1 => ?_)
                refine xi_iload_n (pc' := 27) (x := (-6)) kc_91_26 rfl rfl ?_
                refine xi_ireturn kc_91_27 mr_91 rfl ?_
                show xw J ov 99 89 (60, [(0, .ref 0), (1, .int a1), (2, .int 0), (3, .int a3)], [.int (-6)], hh1) _
                refine xi_ireturn kc_89_60 mr_89 rfl ?_
                show xw J ov 100 196 (214, [(4, .int 0), (3, .ref 167), (2, .ref 115), (1, .ref 0), (0, .ref 1000000)], [.int (-6)], hh1) _
                refine xi_aload_n (pc' := 215) (x := 115) kc_196_214 rfl rfl ?_
                refine xi_aload_n (pc' := 216) (x := 1000000) kc_196_215 rfl rfl ?_
                refine xi_iload (pc' := 218) (x := 0) kc_196_216 rfl rfl ?_
                refine xi_iconst (pc' := 219) (v := 1) kc_196_218 rfl rfl ?_
                refine xi_iadd (pc' := 220) (v := 1) kc_196_219 rfl rfl ?_
                refine xi_ialoadO (pc' := 221) (v := a1) kc_196_220 rfl (by decide) hov0 (xi_in (n := 6) (by decide) (by decide)) rfl ?_
                refine xi_aload_n (pc' := 222) (x := 1000000) kc_196_221 rfl rfl ?_
                refine xi_iload (pc' := 224) (x := 0) kc_196_222 rfl rfl ?_
                refine xi_iconst (pc' := 225) (v := 2) kc_196_224 rfl rfl ?_
                refine xi_iadd (pc' := 226) (v := 2) kc_196_225 rfl rfl ?_
                refine xi_ialoadO (pc' := 227) (v := 0) kc_196_226 rfl (by decide) hov0 (xi_in (n := 6) (by decide) (by decide)) rfl ?_
                refine xi_aload_n (pc' := 228) (x := 1000000) kc_196_227 rfl rfl ?_
                refine xi_iload (pc' := 230) (x := 0) kc_196_228 rfl rfl ?_
                refine xi_iconst (pc' := 231) (v := 3) kc_196_230 rfl rfl ?_
                refine xi_iadd (pc' := 232) (v := 3) kc_196_231 rfl rfl ?_
                refine xi_ialoadO (pc' := 233) (v := a3) kc_196_232 rfl (by decide) hov0 (xi_in (n := 6) (by decide) (by decide)) rfl ?_
                refine xi_virtual (mj := 10) (as := [.int a1, .int 0, .int a3]) (st1 := [.int (-6)]) (lv0 := [(0, .ref 115), (1, .int a1), (2, .int 0), (3, .int a3)]) kc_196_233 rfl rfl rfl rfl rfl ((eh1.2.1 115 (by decide)).trans (F 115 _ hl_115)) (Nat.le_of_ble_eq_true rfl) (hJ _ _ _ _ (by decide)) (xm_le ml_10 rfl) rfl ?_
                refine xi_aload_n (pc' := 1) (x := 115) kc_10_0 rfl rfl ?_
                refine xi_iconst (pc' := 2) (v := 0) kc_10_1 rfl rfl ?_
                refine xi_putfield (pc' := 5) (fs' := [.int 0, .int 0, .ref 116, .ref 117, .ref 118, .ref 119, .ref 120, .ref 121, .ref 122, .ref 123, .ref 124, .ref 125, .ref 126, .ref 127, .ref 128, .ref 129, .int 4, .ref 130, .int 0, .ref 131, .ref 132, .ref 133, .ref 134, .int 0, .ref 135, .ref 136, .ref 137, .ref 138, .ref 139, .ref 140, .ref 141, .ref 142, .int 0, .int 0, .int 0, .ref 143, .ref 144, .ref 145, .ref 146, .ref 147, .ref 148, .int 0, .ref 149, .ref 150, .ref 151, .int 0, .ref 152, .ref 153, .ref 154, .ref 155, .ref 156, .ref 157, .ref 158, .ref 159, .int 0, .ref 160, .int 0, .ref 161, .ref 162, .ref 163, .ref 164, .int 0, .ref 165, .ref 166]) kc_10_2 rfl rfl rfl ((eh1.2.1 115 (by decide)).trans (F 115 _ hl_115)) rfl rfl rfl (Nat.le_of_ble_eq_true rfl) rfl (fun hh2 eh2 => ?_)
                refine xi_iload_n (pc' := 6) (x := a1) kc_10_5 rfl rfl ?_
                refine xi_static (mj := 11) (as := [.int a1]) (st1 := []) (lv0 := [(0, .int a1)]) kc_10_6 rfl rfl (Nat.le_of_ble_eq_true rfl) rfl rfl (Nat.le_of_ble_eq_true rfl) (hJ _ _ _ _ (by decide)) (xm_le ml_11 rfl) rfl ?_
                refine xi_iload_n (pc' := 1) (x := a1) kc_11_0 rfl rfl ?_
                refine xi_iconst (pc' := 2) (v := 0) kc_11_1 rfl rfl ?_
                refine xi_iconst (pc' := 3) (v := 5) kc_11_2 rfl rfl ?_
                refine xi_static (mj := 12) (as := [.int a1, .int 0, .int 5]) (st1 := []) (lv0 := [(0, .int a1), (1, .int 0), (2, .int 5)]) kc_11_3 rfl rfl (Nat.le_of_ble_eq_true rfl) rfl rfl (Nat.le_of_ble_eq_true rfl) (hJ _ _ _ _ (by decide)) (xm_le ml_12 rfl) rfl ?_
                refine xi_iload_n (pc' := 1) (x := a1) kc_12_0 rfl rfl ?_
                refine xi_iload_n (pc' := 2) (x := 0) kc_12_1 rfl rfl ?_
                refine xi_cmf (pc' := 5) kc_12_2 rfl (xc_lt_f (X := a1.toInt) (Y := 0) rfl (by decide) (by omega)) ?_
                refine xi_iload_n (pc' := 6) (x := a1) kc_12_5 rfl rfl ?_
                refine xi_iload_n (pc' := 7) (x := 5) kc_12_6 rfl rfl ?_
                refine xi_cmf (pc' := 10) kc_12_7 rfl (xc_gt_f (X := a1.toInt) (Y := 5) rfl (by decide) (by omega)) ?_
                refine xi_iconst (pc' := 11) (v := 1) kc_12_10 rfl rfl ?_
                refine xi_goto (pc' := 15) kc_12_11 rfl ?_
                refine xi_ireturn kc_12_15 mr_12 rfl ?_
                show xw J ov 98 11 (6, [(0, .int a1)], [.int 1], hh2) _
                refine xi_ireturn kc_11_6 mr_11 rfl ?_
                show xw J ov 99 10 (9, [(0, .ref 115), (1, .int a1), (2, .int 0), (3, .int a3)], [.int 1], hh2) _
                refine xi_ift (pc' := 18) kc_10_9 rfl rfl ?_
                refine xi_iload_n (pc' := 19) (x := 0) kc_10_18 rfl rfl ?_
                refine xi_iconst (pc' := 20) (v := 0) kc_10_19 rfl rfl ?_
                refine xi_iconst (pc' := 21) (v := 5) kc_10_20 rfl rfl ?_
                refine xi_static (mj := 12) (as := [.int 0, .int 0, .int 5]) (st1 := []) (lv0 := [(0, .int 0), (1, .int 0), (2, .int 5)]) kc_10_21 rfl rfl (Nat.le_of_ble_eq_true rfl) rfl rfl (Nat.le_of_ble_eq_true rfl) (hJ _ _ _ _ (by decide)) (xm_le ml_12 rfl) rfl ?_
                refine xi_iload_n (pc' := 1) (x := 0) kc_12_0 rfl rfl ?_
                refine xi_iload_n (pc' := 2) (x := 0) kc_12_1 rfl rfl ?_
                refine xi_cmf (pc' := 5) kc_12_2 rfl rfl ?_
                refine xi_iload_n (pc' := 6) (x := 0) kc_12_5 rfl rfl ?_
                refine xi_iload_n (pc' := 7) (x := 5) kc_12_6 rfl rfl ?_
                refine xi_cmf (pc' := 10) kc_12_7 rfl rfl ?_
                refine xi_iconst (pc' := 11) (v := 1) kc_12_10 rfl rfl ?_
                refine xi_goto (pc' := 15) kc_12_11 rfl ?_
                refine xi_ireturn kc_12_15 mr_12 rfl ?_
                show xw J ov 99 10 (24, [(0, .ref 115), (1, .int a1), (2, .int 0), (3, .int a3)], [.int 1], hh2) _
                refine xi_ift (pc' := 34) kc_10_24 rfl rfl ?_
                refine xi_iload_n (pc' := 35) (x := a3) kc_10_34 rfl rfl ?_
                refine xi_iload_n (pc' := 36) (x := 0) kc_10_35 rfl rfl ?_
                refine xi_iff (pc' := 39) kc_10_36 rfl rfl ?_
                refine xi_bipush (pc' := 41) (v := 10) kc_10_39 rfl rfl ?_
                refine xi_goto (pc' := 45) kc_10_41 rfl ?_
                refine xi_cmt (pc' := 55) kc_10_45 rfl (xc_ge_t (X := a3.toInt) (Y := 10) rfl (by decide) (by omega)) ?_
                refine xi_iload_n (pc' := 56) (x := a3) kc_10_55 rfl rfl ?_
                refine xi_iload_n (pc' := 57) (x := 0) kc_10_56 rfl rfl ?_
                refine xi_iff (pc' := 60) kc_10_57 rfl rfl ?_
                refine xi_bipush (pc' := 62) (v := 99) kc_10_60 rfl rfl ?_
                refine xi_goto (pc' := 96) kc_10_62 rfl ?_
                refine xi_cmf (pc' := 99) kc_10_96 rfl (xc_le_f (X := a3.toInt) (Y := 99) rfl (by decide) (by omega)) ?_
                refine xi_aload_n (pc' := 100) (x := 115) kc_10_99 rfl rfl ?_
                refine xi_bipush (pc' := 102) (v := (-6)) kc_10_100 rfl rfl ?_
                refine xi_virtual (mj := 13) (as := [.int (-6)]) (st1 := []) (lv0 := [(0, .ref 115), (1, .int (-6))]) kc_10_102 rfl rfl rfl rfl rfl eh2.1 (Nat.le_of_ble_eq_true rfl) (hJ _ _ _ _ (by decide)) (xm_le ml_13 rfl) rfl ?_
                refine xi_aload_n (pc' := 1) (x := 115) kc_13_0 rfl rfl ?_
                refine xi_getfield (pc' := 4) (v := .ref 140) kc_13_1 rfl rfl rfl eh2.1 rfl ?_
                refine xi_iload_n (pc' := 5) (x := (-6)) kc_13_4 rfl rfl ?_
                refine xi_ineg (pc' := 6) (v := 6) kc_13_5 rfl rfl ?_
                refine xi_dup2 (pc' := 7) kc_13_6 rfl ⟨rfl, rfl⟩ ?_
                refine xi_iaload (pc' := 8) (v := 0) kc_13_7 rfl ((eh2.2.1 140 (by decide)).trans ((eh1.2.1 140 (by decide)).trans (F 140 _ hl_140))) (by decide) rfl (xi_in (n := 7) (by decide) (by decide)) rfl ?_
                refine xi_iconst (pc' := 9) (v := 1) kc_13_8 rfl rfl ?_
                refine xi_iadd (pc' := 10) (v := 1) kc_13_9 rfl rfl ?_
                refine xi_iastore (pc' := 11) (x' := [0, 0, 0, 0, 0, 0, 1]) kc_13_10 rfl ((eh2.2.1 140 (by decide)).trans ((eh1.2.1 140 (by decide)).trans (F 140 _ hl_140))) rfl (xi_in (n := 7) (by decide) (by decide)) rfl (fun hh3 eh3 => ?_)
                refine xi_iload_n (pc' := 12) (x := (-6)) kc_13_11 rfl rfl ?_
                refine xi_ireturn kc_13_12 mr_13 rfl ?_
                show xw J ov 99 10 (105, [(0, .ref 115), (1, .int a1), (2, .int 0), (3, .int a3)], [.int (-6)], hh3) _
                refine xi_ireturn kc_10_105 mr_10 rfl ?_
                show xw J ov 100 196 (236, [(4, .int 0), (3, .ref 167), (2, .ref 115), (1, .ref 0), (0, .ref 1000000)], [.int (-6), .int (-6)], hh3) _
                refine xi_cmt (pc' := 1528) kc_196_236 rfl rfl ?_
                refine xi_iinc (pc' := 1531) (x := 0) (v := 6) (lv' := [(4, .int 6), (3, .ref 167), (2, .ref 115), (1, .ref 0), (0, .ref 1000000)]) kc_196_1528 rfl rfl rfl rfl (xm_lt ml_196 rfl) ?_
                refine xi_goto (pc' := 23) kc_196_1531 rfl ?_
                refine xi_iload (pc' := 25) (x := 6) kc_196_23 rfl rfl ?_
                refine xi_aload_n (pc' := 26) (x := 1000000) kc_196_25 rfl rfl ?_
                refine xi_arraylength (pc' := 27) (n := 6) (v := 6) kc_196_26 rfl (xl_lenO (by decide) hov0 rfl) rfl ?_
                refine xi_bipush (pc' := 29) (v := 6) kc_196_27 rfl rfl ?_
                refine xi_isub (pc' := 30) (v := 0) kc_196_29 rfl rfl ?_
                refine xi_cmt (pc' := 1534) kc_196_30 rfl rfl ?_
                refine xi_iconst (pc' := 1535) (v := 1) kc_196_1534 rfl rfl ?_
                refine xi_ireturn kc_196_1535 mr_196 rfl ?_
                refine ⟨rfl, ?_, ?_⟩
                · rw [eh3.2.2.1, eh2.2.2.1, eh1.2.2.1]; exact hn0
                · rw [eh3.2.2.2, eh2.2.2.2, eh1.2.2.2]; exact hz0
            · refine xi_cmf (pc' := 38) kc_89_35 rfl (xc_ge_f (X := a3.toInt) (Y := 10) rfl (by decide) (by omega)) ?_
              refine xi_aload_n (pc' := 39) (x := 0) kc_89_38 rfl rfl ?_
              refine xi_bipush (pc' := 41) (v := (-4)) kc_89_39 rfl rfl ?_
              refine xi_virtual (mj := 91) (as := [.int (-4)]) (st1 := []) (lv0 := [(0, .ref 0), (1, .int (-4))]) kc_89_41 rfl rfl rfl rfl rfl (F 0 _ hl_0) (Nat.le_of_ble_eq_true rfl) (hJ _ _ _ _ (by decide)) (xm_le ml_91 rfl) rfl ?_
              refine xi_iload_n (pc' := 1) (x := (-4)) kc_91_0 rfl rfl ?_
              refine xi_ineg (pc' := 2) (v := 4) kc_91_1 rfl rfl ?_
              refine xi_istore_n (pc' := 3) (lv' := [(2, .int 4), (0, .ref 0), (1, .int (-4))]) kc_91_2 rfl rfl (xm_lt ml_91 rfl) ?_
              refine xi_iload_n (pc' := 4) (x := 4) kc_91_3 rfl rfl ?_
              refine xi_iff (pc' := 7) kc_91_4 rfl rfl ?_
              refine xi_iload_n (pc' := 8) (x := 4) kc_91_7 rfl rfl ?_
              refine xi_aload_n (pc' := 9) (x := 0) kc_91_8 rfl rfl ?_
              refine xi_getfield (pc' := 12) (v := .ref 94) kc_91_9 rfl rfl rfl (F 0 _ hl_0) rfl ?_
              refine xi_arraylength (pc' := 13) (n := 7) (v := 7) kc_91_12 rfl (xl_lenI (by decide) (by decide) (F 94 _ hl_94) (by simp only [List.length_replicate, List.length_cons, List.length_nil])) rfl ?_
              refine xi_cmf (pc' := 16) kc_91_13 rfl rfl ?_
              refine xi_aload_n (pc' := 17) (x := 0) kc_91_16 rfl rfl ?_
              refine xi_getfield (pc' := 20) (v := .ref 94) kc_91_17 rfl rfl rfl (F 0 _ hl_0) rfl ?_
              refine xi_iload_n (pc' := 21) (x := 4) kc_91_20 rfl rfl ?_
              refine xi_dup2 (pc' := 22) kc_91_21 rfl ⟨rfl, rfl⟩ ?_
              refine xi_iaload (pc' := 23) (v := 0) kc_91_22 rfl (F 94 _ hl_94) (by decide) rfl (xi_in (n := 7) (by decide) (by decide)) rfl ?_
              refine xi_iconst (pc' := 24) (v := 1) kc_91_23 rfl rfl ?_
              refine xi_iadd (pc' := 25) (v := 1) kc_91_24 rfl rfl ?_
              refine xi_iastore (pc' := 26) (x' := [0, 0, 0, 0, 1, 0, 0]) kc_91_25 rfl (F 94 _ hl_94) rfl (xi_in (n := 7) (by decide) (by decide)) rfl (fun hh1 eh1 => ?_)
              refine xi_iload_n (pc' := 27) (x := (-4)) kc_91_26 rfl rfl ?_
              refine xi_ireturn kc_91_27 mr_91 rfl ?_
              show xw J ov 99 89 (44, [(0, .ref 0), (1, .int a1), (2, .int 0), (3, .int a3)], [.int (-4)], hh1) _
              refine xi_ireturn kc_89_44 mr_89 rfl ?_
              show xw J ov 100 196 (214, [(4, .int 0), (3, .ref 167), (2, .ref 115), (1, .ref 0), (0, .ref 1000000)], [.int (-4)], hh1) _
              refine xi_aload_n (pc' := 215) (x := 115) kc_196_214 rfl rfl ?_
              refine xi_aload_n (pc' := 216) (x := 1000000) kc_196_215 rfl rfl ?_
              refine xi_iload (pc' := 218) (x := 0) kc_196_216 rfl rfl ?_
              refine xi_iconst (pc' := 219) (v := 1) kc_196_218 rfl rfl ?_
              refine xi_iadd (pc' := 220) (v := 1) kc_196_219 rfl rfl ?_
              refine xi_ialoadO (pc' := 221) (v := a1) kc_196_220 rfl (by decide) hov0 (xi_in (n := 6) (by decide) (by decide)) rfl ?_
              refine xi_aload_n (pc' := 222) (x := 1000000) kc_196_221 rfl rfl ?_
              refine xi_iload (pc' := 224) (x := 0) kc_196_222 rfl rfl ?_
              refine xi_iconst (pc' := 225) (v := 2) kc_196_224 rfl rfl ?_
              refine xi_iadd (pc' := 226) (v := 2) kc_196_225 rfl rfl ?_
              refine xi_ialoadO (pc' := 227) (v := 0) kc_196_226 rfl (by decide) hov0 (xi_in (n := 6) (by decide) (by decide)) rfl ?_
              refine xi_aload_n (pc' := 228) (x := 1000000) kc_196_227 rfl rfl ?_
              refine xi_iload (pc' := 230) (x := 0) kc_196_228 rfl rfl ?_
              refine xi_iconst (pc' := 231) (v := 3) kc_196_230 rfl rfl ?_
              refine xi_iadd (pc' := 232) (v := 3) kc_196_231 rfl rfl ?_
              refine xi_ialoadO (pc' := 233) (v := a3) kc_196_232 rfl (by decide) hov0 (xi_in (n := 6) (by decide) (by decide)) rfl ?_
              refine xi_virtual (mj := 10) (as := [.int a1, .int 0, .int a3]) (st1 := [.int (-4)]) (lv0 := [(0, .ref 115), (1, .int a1), (2, .int 0), (3, .int a3)]) kc_196_233 rfl rfl rfl rfl rfl ((eh1.2.1 115 (by decide)).trans (F 115 _ hl_115)) (Nat.le_of_ble_eq_true rfl) (hJ _ _ _ _ (by decide)) (xm_le ml_10 rfl) rfl ?_
              refine xi_aload_n (pc' := 1) (x := 115) kc_10_0 rfl rfl ?_
              refine xi_iconst (pc' := 2) (v := 0) kc_10_1 rfl rfl ?_
              refine xi_putfield (pc' := 5) (fs' := [.int 0, .int 0, .ref 116, .ref 117, .ref 118, .ref 119, .ref 120, .ref 121, .ref 122, .ref 123, .ref 124, .ref 125, .ref 126, .ref 127, .ref 128, .ref 129, .int 4, .ref 130, .int 0, .ref 131, .ref 132, .ref 133, .ref 134, .int 0, .ref 135, .ref 136, .ref 137, .ref 138, .ref 139, .ref 140, .ref 141, .ref 142, .int 0, .int 0, .int 0, .ref 143, .ref 144, .ref 145, .ref 146, .ref 147, .ref 148, .int 0, .ref 149, .ref 150, .ref 151, .int 0, .ref 152, .ref 153, .ref 154, .ref 155, .ref 156, .ref 157, .ref 158, .ref 159, .int 0, .ref 160, .int 0, .ref 161, .ref 162, .ref 163, .ref 164, .int 0, .ref 165, .ref 166]) kc_10_2 rfl rfl rfl ((eh1.2.1 115 (by decide)).trans (F 115 _ hl_115)) rfl rfl rfl (Nat.le_of_ble_eq_true rfl) rfl (fun hh2 eh2 => ?_)
              refine xi_iload_n (pc' := 6) (x := a1) kc_10_5 rfl rfl ?_
              refine xi_static (mj := 11) (as := [.int a1]) (st1 := []) (lv0 := [(0, .int a1)]) kc_10_6 rfl rfl (Nat.le_of_ble_eq_true rfl) rfl rfl (Nat.le_of_ble_eq_true rfl) (hJ _ _ _ _ (by decide)) (xm_le ml_11 rfl) rfl ?_
              refine xi_iload_n (pc' := 1) (x := a1) kc_11_0 rfl rfl ?_
              refine xi_iconst (pc' := 2) (v := 0) kc_11_1 rfl rfl ?_
              refine xi_iconst (pc' := 3) (v := 5) kc_11_2 rfl rfl ?_
              refine xi_static (mj := 12) (as := [.int a1, .int 0, .int 5]) (st1 := []) (lv0 := [(0, .int a1), (1, .int 0), (2, .int 5)]) kc_11_3 rfl rfl (Nat.le_of_ble_eq_true rfl) rfl rfl (Nat.le_of_ble_eq_true rfl) (hJ _ _ _ _ (by decide)) (xm_le ml_12 rfl) rfl ?_
              refine xi_iload_n (pc' := 1) (x := a1) kc_12_0 rfl rfl ?_
              refine xi_iload_n (pc' := 2) (x := 0) kc_12_1 rfl rfl ?_
              refine xi_cmf (pc' := 5) kc_12_2 rfl (xc_lt_f (X := a1.toInt) (Y := 0) rfl (by decide) (by omega)) ?_
              refine xi_iload_n (pc' := 6) (x := a1) kc_12_5 rfl rfl ?_
              refine xi_iload_n (pc' := 7) (x := 5) kc_12_6 rfl rfl ?_
              refine xi_cmf (pc' := 10) kc_12_7 rfl (xc_gt_f (X := a1.toInt) (Y := 5) rfl (by decide) (by omega)) ?_
              refine xi_iconst (pc' := 11) (v := 1) kc_12_10 rfl rfl ?_
              refine xi_goto (pc' := 15) kc_12_11 rfl ?_
              refine xi_ireturn kc_12_15 mr_12 rfl ?_
              show xw J ov 98 11 (6, [(0, .int a1)], [.int 1], hh2) _
              refine xi_ireturn kc_11_6 mr_11 rfl ?_
              show xw J ov 99 10 (9, [(0, .ref 115), (1, .int a1), (2, .int 0), (3, .int a3)], [.int 1], hh2) _
              refine xi_ift (pc' := 18) kc_10_9 rfl rfl ?_
              refine xi_iload_n (pc' := 19) (x := 0) kc_10_18 rfl rfl ?_
              refine xi_iconst (pc' := 20) (v := 0) kc_10_19 rfl rfl ?_
              refine xi_iconst (pc' := 21) (v := 5) kc_10_20 rfl rfl ?_
              refine xi_static (mj := 12) (as := [.int 0, .int 0, .int 5]) (st1 := []) (lv0 := [(0, .int 0), (1, .int 0), (2, .int 5)]) kc_10_21 rfl rfl (Nat.le_of_ble_eq_true rfl) rfl rfl (Nat.le_of_ble_eq_true rfl) (hJ _ _ _ _ (by decide)) (xm_le ml_12 rfl) rfl ?_
              refine xi_iload_n (pc' := 1) (x := 0) kc_12_0 rfl rfl ?_
              refine xi_iload_n (pc' := 2) (x := 0) kc_12_1 rfl rfl ?_
              refine xi_cmf (pc' := 5) kc_12_2 rfl rfl ?_
              refine xi_iload_n (pc' := 6) (x := 0) kc_12_5 rfl rfl ?_
              refine xi_iload_n (pc' := 7) (x := 5) kc_12_6 rfl rfl ?_
              refine xi_cmf (pc' := 10) kc_12_7 rfl rfl ?_
              refine xi_iconst (pc' := 11) (v := 1) kc_12_10 rfl rfl ?_
              refine xi_goto (pc' := 15) kc_12_11 rfl ?_
              refine xi_ireturn kc_12_15 mr_12 rfl ?_
              show xw J ov 99 10 (24, [(0, .ref 115), (1, .int a1), (2, .int 0), (3, .int a3)], [.int 1], hh2) _
              refine xi_ift (pc' := 34) kc_10_24 rfl rfl ?_
              refine xi_iload_n (pc' := 35) (x := a3) kc_10_34 rfl rfl ?_
              refine xi_iload_n (pc' := 36) (x := 0) kc_10_35 rfl rfl ?_
              refine xi_iff (pc' := 39) kc_10_36 rfl rfl ?_
              refine xi_bipush (pc' := 41) (v := 10) kc_10_39 rfl rfl ?_
              refine xi_goto (pc' := 45) kc_10_41 rfl ?_
              refine xi_cmf (pc' := 48) kc_10_45 rfl (xc_ge_f (X := a3.toInt) (Y := 10) rfl (by decide) (by omega)) ?_
              refine xi_aload_n (pc' := 49) (x := 115) kc_10_48 rfl rfl ?_
              refine xi_bipush (pc' := 51) (v := (-4)) kc_10_49 rfl rfl ?_
              refine xi_virtual (mj := 13) (as := [.int (-4)]) (st1 := []) (lv0 := [(0, .ref 115), (1, .int (-4))]) kc_10_51 rfl rfl rfl rfl rfl eh2.1 (Nat.le_of_ble_eq_true rfl) (hJ _ _ _ _ (by decide)) (xm_le ml_13 rfl) rfl ?_
              refine xi_aload_n (pc' := 1) (x := 115) kc_13_0 rfl rfl ?_
              refine xi_getfield (pc' := 4) (v := .ref 140) kc_13_1 rfl rfl rfl eh2.1 rfl ?_
              refine xi_iload_n (pc' := 5) (x := (-4)) kc_13_4 rfl rfl ?_
              refine xi_ineg (pc' := 6) (v := 4) kc_13_5 rfl rfl ?_
              refine xi_dup2 (pc' := 7) kc_13_6 rfl ⟨rfl, rfl⟩ ?_
              refine xi_iaload (pc' := 8) (v := 0) kc_13_7 rfl ((eh2.2.1 140 (by decide)).trans ((eh1.2.1 140 (by decide)).trans (F 140 _ hl_140))) (by decide) rfl (xi_in (n := 7) (by decide) (by decide)) rfl ?_
              refine xi_iconst (pc' := 9) (v := 1) kc_13_8 rfl rfl ?_
              refine xi_iadd (pc' := 10) (v := 1) kc_13_9 rfl rfl ?_
              refine xi_iastore (pc' := 11) (x' := [0, 0, 0, 0, 1, 0, 0]) kc_13_10 rfl ((eh2.2.1 140 (by decide)).trans ((eh1.2.1 140 (by decide)).trans (F 140 _ hl_140))) rfl (xi_in (n := 7) (by decide) (by decide)) rfl (fun hh3 eh3 => ?_)
              refine xi_iload_n (pc' := 12) (x := (-4)) kc_13_11 rfl rfl ?_
              refine xi_ireturn kc_13_12 mr_13 rfl ?_
              show xw J ov 99 10 (54, [(0, .ref 115), (1, .int a1), (2, .int 0), (3, .int a3)], [.int (-4)], hh3) _
              refine xi_ireturn kc_10_54 mr_10 rfl ?_
              show xw J ov 100 196 (236, [(4, .int 0), (3, .ref 167), (2, .ref 115), (1, .ref 0), (0, .ref 1000000)], [.int (-4), .int (-4)], hh3) _
              refine xi_cmt (pc' := 1528) kc_196_236 rfl rfl ?_
              refine xi_iinc (pc' := 1531) (x := 0) (v := 6) (lv' := [(4, .int 6), (3, .ref 167), (2, .ref 115), (1, .ref 0), (0, .ref 1000000)]) kc_196_1528 rfl rfl rfl rfl (xm_lt ml_196 rfl) ?_
              refine xi_goto (pc' := 23) kc_196_1531 rfl ?_
              refine xi_iload (pc' := 25) (x := 6) kc_196_23 rfl rfl ?_
              refine xi_aload_n (pc' := 26) (x := 1000000) kc_196_25 rfl rfl ?_
              refine xi_arraylength (pc' := 27) (n := 6) (v := 6) kc_196_26 rfl (xl_lenO (by decide) hov0 rfl) rfl ?_
              refine xi_bipush (pc' := 29) (v := 6) kc_196_27 rfl rfl ?_
              refine xi_isub (pc' := 30) (v := 0) kc_196_29 rfl rfl ?_
              refine xi_cmt (pc' := 1534) kc_196_30 rfl rfl ?_
              refine xi_iconst (pc' := 1535) (v := 1) kc_196_1534 rfl rfl ?_
              refine xi_ireturn kc_196_1535 mr_196 rfl ?_
              refine ⟨rfl, ?_, ?_⟩
              · rw [eh3.2.2.1, eh2.2.2.1, eh1.2.2.1]; exact hn0
              · rw [eh3.2.2.2, eh2.2.2.2, eh1.2.2.2]; exact hz0
          by_cases c13 : a2.toInt = 1
          · have qa2 : a2 = 1 := xc_of (Eq.trans (by omega) (show (1 : Int) = (1 : Int32).toInt by decide))
            subst qa2
            refine xi_ialoadO (pc' := 35) (v := 0) kc_89_34 rfl (by decide) hov1 (xi_in (n := 6) (by decide) (by decide)) rfl ?_
            by_cases c14 : 0 ≤ a3.toInt
            · refine xi_cmt (pc' := 45) kc_89_35 rfl (xc_ge_t (X := a3.toInt) (Y := 0) rfl (by decide) (by omega)) ?_
              refine xi_iload_n (pc' := 46) (x := a3) kc_89_45 rfl rfl ?_
              refine xi_getstatic (pc' := 49) (j := 1000002) kc_89_46 rfl rfl ?_
              refine xi_iload_n (pc' := 50) (x := 1) kc_89_49 rfl rfl ?_
              refine xi_ialoadO (pc' := 51) (v := 30) kc_89_50 rfl (by decide) hov2 (xi_in (n := 6) (by decide) (by decide)) rfl ?_
              by_cases c15 : a3.toInt ≤ 30
              · refine xi_cmt (pc' := 61) kc_89_51 rfl (xc_le_t (X := a3.toInt) (Y := 30) rfl (by decide) (by omega)) ?_
                refine xi_iload_n (pc' := 62) (x := 1) kc_89_61 rfl rfl ?_
                refine xi_iconst (pc' := 63) (v := 5) kc_89_62 rfl rfl ?_
                refine xi_cmt (pc' := 90) kc_89_63 rfl rfl ?_
                refine xi_aload_n (pc' := 91) (x := 0) kc_89_90 rfl rfl ?_
                refine xi_getfield (pc' := 94) (v := .ref 66) kc_89_91 rfl rfl rfl (F 0 _ hl_0) rfl ?_
                refine xi_virtual (mj := 92) (as := []) (st1 := []) (lv0 := [(0, .ref 66)]) kc_89_94 rfl rfl rfl rfl rfl (F 66 _ hl_66) (Nat.le_of_ble_eq_true rfl) (hJ _ _ _ _ (by decide)) (xm_le ml_92 rfl) rfl ?_
                refine xi_aload_n (pc' := 1) (x := 66) kc_92_0 rfl rfl ?_
                refine xi_lconst (pc' := 2) (v := 0) kc_92_1 rfl rfl ?_
                refine xi_putfield (pc' := 5) (fs' := [.ref 1, .ref 67, .ref 70, .ref 71, .ref 72, .ref 73, .ref 74, .long 0, .int 0]) kc_92_2 rfl rfl rfl (F 66 _ hl_66) rfl rfl rfl (Nat.le_of_ble_eq_true rfl) rfl (fun hh1 eh1 => ?_)
                refine xi_return kc_92_5 mr_92 ?_
                show xw J ov 99 89 (97, [(0, .ref 0), (1, .int a1), (2, .int 1), (3, .int a3)], [], hh1) _
                refine xi_aload_n (pc' := 98) (x := 0) kc_89_97 rfl rfl ?_
                refine xi_getfield (pc' := 101) (v := .ref 1) kc_89_98 rfl rfl rfl ((eh1.2.1 0 (by decide)).trans (F 0 _ hl_0)) rfl ?_
                refine xi_iload_n (pc' := 102) (x := a1) kc_89_101 rfl rfl ?_
                refine xi_iload_n (pc' := 103) (x := 1) kc_89_102 rfl rfl ?_
                refine xi_iload_n (pc' := 104) (x := a3) kc_89_103 rfl rfl ?_
                refine xi_virtual (mj := 93) (as := [.int a1, .int 1, .int a3]) (st1 := []) (lv0 := [(0, .ref 1), (1, .int a1), (2, .int 1), (3, .int a3)]) kc_89_104 rfl rfl rfl rfl rfl ((eh1.2.1 1 (by decide)).trans (F 1 _ hl_1)) (Nat.le_of_ble_eq_true rfl) (hJ _ _ _ _ (by decide)) (xm_le ml_93 rfl) rfl ?_
                refine xi_iload_n (pc' := 1) (x := a1) kc_93_0 rfl rfl ?_
                refine xi_static (mj := 90) (as := [.int a1]) (st1 := []) (lv0 := [(0, .int a1)]) kc_93_1 rfl rfl (Nat.le_of_ble_eq_true rfl) rfl rfl (Nat.le_of_ble_eq_true rfl) (hJ _ _ _ _ (by decide)) (xm_le ml_90 rfl) rfl ?_
                refine xi_iload_n (pc' := 1) (x := a1) kc_90_0 rfl rfl ?_
                refine xi_iff (pc' := 4) kc_90_1 rfl (xc_lt_f (X := a1.toInt) (Y := 0) rfl (by decide) (by omega)) ?_
                refine xi_iload_n (pc' := 5) (x := a1) kc_90_4 rfl rfl ?_
                refine xi_bipush (pc' := 7) (v := 6) kc_90_5 rfl rfl ?_
                refine xi_cmf (pc' := 10) kc_90_7 rfl (xc_ge_f (X := a1.toInt) (Y := 6) rfl (by decide) (by omega)) ?_
                refine xi_iconst (pc' := 11) (v := 1) kc_90_10 rfl rfl ?_
                refine xi_goto (pc' := 15) kc_90_11 rfl ?_
                refine xi_ireturn kc_90_15 mr_90 rfl ?_
                show xw J ov 98 93 (4, [(0, .ref 1), (1, .int a1), (2, .int 1), (3, .int a3)], [.int 1], hh1) _
                refine xi_iff (pc' := 7) kc_93_4 rfl rfl ?_
                refine xi_aload_n (pc' := 8) (x := 1) kc_93_7 rfl rfl ?_
                refine xi_getfield (pc' := 11) (v := .ref 2) kc_93_8 rfl rfl rfl ((eh1.2.1 1 (by decide)).trans (F 1 _ hl_1)) rfl ?_
                refine xi_iload_n (pc' := 12) (x := a1) kc_93_11 rfl rfl ?_
                by_cases c16 : a1.toInt = 0
                · have qa1 : a1 = 0 := xc_of (Eq.trans (by omega) (show (0 : Int) = (0 : Int32).toInt by decide))
                  subst qa1
                  refine xi_aaload (pc' := 13) (b := 11) kc_93_12 rfl ((eh1.2.1 2 (by decide)).trans (F 2 _ hl_2)) rfl (xi_in (n := 6) (by decide) (by decide)) rfl ?_
                  refine xi_iload_n (pc' := 14) (x := 1) kc_93_13 rfl rfl ?_
                  refine xi_iload_n (pc' := 15) (x := a3) kc_93_14 rfl rfl ?_
                  refine xi_virtual (mj := 94) (as := [.int 1, .int a3]) (st1 := []) (lv0 := [(0, .ref 11), (1, .int 1), (2, .int a3)]) kc_93_15 rfl rfl rfl rfl rfl ((eh1.2.1 11 (by decide)).trans (F 11 _ hl_11)) (Nat.le_of_ble_eq_true rfl) (hJ _ _ _ _ (by decide)) (xm_le ml_94 rfl) rfl ?_
                  refine xi_iload_n (pc' := 1) (x := 1) kc_94_0 rfl rfl ?_
                  refine xi_iff (pc' := 4) kc_94_1 rfl rfl ?_
                  refine xi_iload_n (pc' := 5) (x := 1) kc_94_4 rfl rfl ?_
                  refine xi_iconst (pc' := 6) (v := 5) kc_94_5 rfl rfl ?_
                  refine xi_cmt (pc' := 11) kc_94_6 rfl rfl ?_
                  refine xi_aload_n (pc' := 12) (x := 11) kc_94_11 rfl rfl ?_
                  refine xi_getfield (pc' := 15) (v := .ref 12) kc_94_12 rfl rfl rfl ((eh1.2.1 11 (by decide)).trans (F 11 _ hl_11)) rfl ?_
                  refine xi_iload_n (pc' := 16) (x := 1) kc_94_15 rfl rfl ?_
                  refine xi_iaload (pc' := 17) (v := 18) kc_94_16 rfl ((eh1.2.1 12 (by decide)).trans (F 12 _ hl_12)) (by decide) rfl (xi_in (n := 5) (by decide) (by decide)) rfl ?_
                  refine xi_istore_n (pc' := 18) (lv' := [(3, .int 18), (0, .ref 11), (1, .int 1), (2, .int a3)]) kc_94_17 rfl rfl (xm_lt ml_94 rfl) ?_
                  refine xi_aload_n (pc' := 19) (x := 11) kc_94_18 rfl rfl ?_
                  refine xi_getfield (pc' := 22) (v := .ref 12) kc_94_19 rfl rfl rfl ((eh1.2.1 11 (by decide)).trans (F 11 _ hl_11)) rfl ?_
                  refine xi_iload_n (pc' := 23) (x := 1) kc_94_22 rfl rfl ?_
                  refine xi_iload_n (pc' := 24) (x := a3) kc_94_23 rfl rfl ?_
                  refine xi_iastore (pc' := 25) (x' := [40, a3, 10, 0, 0]) kc_94_24 rfl ((eh1.2.1 12 (by decide)).trans (F 12 _ hl_12)) rfl (xi_in (n := 5) (by decide) (by decide)) rfl (fun hh2 eh2 => ?_)
                  refine xi_iload_n (pc' := 26) (x := 18) kc_94_25 rfl rfl ?_
                  refine xi_ireturn kc_94_26 mr_94 rfl ?_
                  show xw J ov 98 93 (18, [(0, .ref 1), (1, .int 0), (2, .int 1), (3, .int a3)], [.int 18], hh2) _
                  refine xi_goto (pc' := 22) kc_93_18 rfl ?_
                  refine xi_ireturn kc_93_22 mr_93 rfl ?_
                  show xw J ov 99 89 (107, [(0, .ref 0), (1, .int 0), (2, .int 1), (3, .int a3)], [.int 18], hh2) _
                  refine xi_ireturn kc_89_107 mr_89 rfl ?_
                  show xw J ov 100 196 (214, [(4, .int 0), (3, .ref 167), (2, .ref 115), (1, .ref 0), (0, .ref 1000000)], [.int 18], hh2) _
                  refine xi_aload_n (pc' := 215) (x := 115) kc_196_214 rfl rfl ?_
                  refine xi_aload_n (pc' := 216) (x := 1000000) kc_196_215 rfl rfl ?_
                  refine xi_iload (pc' := 218) (x := 0) kc_196_216 rfl rfl ?_
                  refine xi_iconst (pc' := 219) (v := 1) kc_196_218 rfl rfl ?_
                  refine xi_iadd (pc' := 220) (v := 1) kc_196_219 rfl rfl ?_
                  refine xi_ialoadO (pc' := 221) (v := 0) kc_196_220 rfl (by decide) hov0 (xi_in (n := 6) (by decide) (by decide)) rfl ?_
                  refine xi_aload_n (pc' := 222) (x := 1000000) kc_196_221 rfl rfl ?_
                  refine xi_iload (pc' := 224) (x := 0) kc_196_222 rfl rfl ?_
                  refine xi_iconst (pc' := 225) (v := 2) kc_196_224 rfl rfl ?_
                  refine xi_iadd (pc' := 226) (v := 2) kc_196_225 rfl rfl ?_
                  refine xi_ialoadO (pc' := 227) (v := 1) kc_196_226 rfl (by decide) hov0 (xi_in (n := 6) (by decide) (by decide)) rfl ?_
                  refine xi_aload_n (pc' := 228) (x := 1000000) kc_196_227 rfl rfl ?_
                  refine xi_iload (pc' := 230) (x := 0) kc_196_228 rfl rfl ?_
                  refine xi_iconst (pc' := 231) (v := 3) kc_196_230 rfl rfl ?_
                  refine xi_iadd (pc' := 232) (v := 3) kc_196_231 rfl rfl ?_
                  refine xi_ialoadO (pc' := 233) (v := a3) kc_196_232 rfl (by decide) hov0 (xi_in (n := 6) (by decide) (by decide)) rfl ?_
                  refine xi_virtual (mj := 10) (as := [.int 0, .int 1, .int a3]) (st1 := [.int 18]) (lv0 := [(0, .ref 115), (1, .int 0), (2, .int 1), (3, .int a3)]) kc_196_233 rfl rfl rfl rfl rfl ((eh2.2.1 115 (by decide)).trans ((eh1.2.1 115 (by decide)).trans (F 115 _ hl_115))) (Nat.le_of_ble_eq_true rfl) (hJ _ _ _ _ (by decide)) (xm_le ml_10 rfl) rfl ?_
                  refine xi_aload_n (pc' := 1) (x := 115) kc_10_0 rfl rfl ?_
                  refine xi_iconst (pc' := 2) (v := 0) kc_10_1 rfl rfl ?_
                  refine xi_putfield (pc' := 5) (fs' := [.int 0, .int 0, .ref 116, .ref 117, .ref 118, .ref 119, .ref 120, .ref 121, .ref 122, .ref 123, .ref 124, .ref 125, .ref 126, .ref 127, .ref 128, .ref 129, .int 4, .ref 130, .int 0, .ref 131, .ref 132, .ref 133, .ref 134, .int 0, .ref 135, .ref 136, .ref 137, .ref 138, .ref 139, .ref 140, .ref 141, .ref 142, .int 0, .int 0, .int 0, .ref 143, .ref 144, .ref 145, .ref 146, .ref 147, .ref 148, .int 0, .ref 149, .ref 150, .ref 151, .int 0, .ref 152, .ref 153, .ref 154, .ref 155, .ref 156, .ref 157, .ref 158, .ref 159, .int 0, .ref 160, .int 0, .ref 161, .ref 162, .ref 163, .ref 164, .int 0, .ref 165, .ref 166]) kc_10_2 rfl rfl rfl ((eh2.2.1 115 (by decide)).trans ((eh1.2.1 115 (by decide)).trans (F 115 _ hl_115))) rfl rfl rfl (Nat.le_of_ble_eq_true rfl) rfl (fun hh3 eh3 => ?_)
                  refine xi_iload_n (pc' := 6) (x := 0) kc_10_5 rfl rfl ?_
                  refine xi_static (mj := 11) (as := [.int 0]) (st1 := []) (lv0 := [(0, .int 0)]) kc_10_6 rfl rfl (Nat.le_of_ble_eq_true rfl) rfl rfl (Nat.le_of_ble_eq_true rfl) (hJ _ _ _ _ (by decide)) (xm_le ml_11 rfl) rfl ?_
                  refine xi_iload_n (pc' := 1) (x := 0) kc_11_0 rfl rfl ?_
                  refine xi_iconst (pc' := 2) (v := 0) kc_11_1 rfl rfl ?_
                  refine xi_iconst (pc' := 3) (v := 5) kc_11_2 rfl rfl ?_
                  refine xi_static (mj := 12) (as := [.int 0, .int 0, .int 5]) (st1 := []) (lv0 := [(0, .int 0), (1, .int 0), (2, .int 5)]) kc_11_3 rfl rfl (Nat.le_of_ble_eq_true rfl) rfl rfl (Nat.le_of_ble_eq_true rfl) (hJ _ _ _ _ (by decide)) (xm_le ml_12 rfl) rfl ?_
                  refine xi_iload_n (pc' := 1) (x := 0) kc_12_0 rfl rfl ?_
                  refine xi_iload_n (pc' := 2) (x := 0) kc_12_1 rfl rfl ?_
                  refine xi_cmf (pc' := 5) kc_12_2 rfl rfl ?_
                  refine xi_iload_n (pc' := 6) (x := 0) kc_12_5 rfl rfl ?_
                  refine xi_iload_n (pc' := 7) (x := 5) kc_12_6 rfl rfl ?_
                  refine xi_cmf (pc' := 10) kc_12_7 rfl rfl ?_
                  refine xi_iconst (pc' := 11) (v := 1) kc_12_10 rfl rfl ?_
                  refine xi_goto (pc' := 15) kc_12_11 rfl ?_
                  refine xi_ireturn kc_12_15 mr_12 rfl ?_
                  show xw J ov 98 11 (6, [(0, .int 0)], [.int 1], hh3) _
                  refine xi_ireturn kc_11_6 mr_11 rfl ?_
                  show xw J ov 99 10 (9, [(0, .ref 115), (1, .int 0), (2, .int 1), (3, .int a3)], [.int 1], hh3) _
                  refine xi_ift (pc' := 18) kc_10_9 rfl rfl ?_
                  refine xi_iload_n (pc' := 19) (x := 1) kc_10_18 rfl rfl ?_
                  refine xi_iconst (pc' := 20) (v := 0) kc_10_19 rfl rfl ?_
                  refine xi_iconst (pc' := 21) (v := 5) kc_10_20 rfl rfl ?_
                  refine xi_static (mj := 12) (as := [.int 1, .int 0, .int 5]) (st1 := []) (lv0 := [(0, .int 1), (1, .int 0), (2, .int 5)]) kc_10_21 rfl rfl (Nat.le_of_ble_eq_true rfl) rfl rfl (Nat.le_of_ble_eq_true rfl) (hJ _ _ _ _ (by decide)) (xm_le ml_12 rfl) rfl ?_
                  refine xi_iload_n (pc' := 1) (x := 1) kc_12_0 rfl rfl ?_
                  refine xi_iload_n (pc' := 2) (x := 0) kc_12_1 rfl rfl ?_
                  refine xi_cmf (pc' := 5) kc_12_2 rfl rfl ?_
                  refine xi_iload_n (pc' := 6) (x := 1) kc_12_5 rfl rfl ?_
                  refine xi_iload_n (pc' := 7) (x := 5) kc_12_6 rfl rfl ?_
                  refine xi_cmf (pc' := 10) kc_12_7 rfl rfl ?_
                  refine xi_iconst (pc' := 11) (v := 1) kc_12_10 rfl rfl ?_
                  refine xi_goto (pc' := 15) kc_12_11 rfl ?_
                  refine xi_ireturn kc_12_15 mr_12 rfl ?_
                  show xw J ov 99 10 (24, [(0, .ref 115), (1, .int 0), (2, .int 1), (3, .int a3)], [.int 1], hh3) _
                  refine xi_ift (pc' := 34) kc_10_24 rfl rfl ?_
                  refine xi_iload_n (pc' := 35) (x := a3) kc_10_34 rfl rfl ?_
                  refine xi_iload_n (pc' := 36) (x := 1) kc_10_35 rfl rfl ?_
                  refine xi_ift (pc' := 44) kc_10_36 rfl rfl ?_
                  refine xi_iconst (pc' := 45) (v := 0) kc_10_44 rfl rfl ?_
                  refine xi_cmt (pc' := 55) kc_10_45 rfl (xc_ge_t (X := a3.toInt) (Y := 0) rfl (by decide) (by omega)) ?_
                  refine xi_iload_n (pc' := 56) (x := a3) kc_10_55 rfl rfl ?_
                  refine xi_iload_n (pc' := 57) (x := 1) kc_10_56 rfl rfl ?_
                  refine xi_ift (pc' := 65) kc_10_57 rfl rfl ?_
                  refine xi_iload_n (pc' := 66) (x := 1) kc_10_65 rfl rfl ?_
                  refine xi_iconst (pc' := 67) (v := 1) kc_10_66 rfl rfl ?_
                  refine xi_cmf (pc' := 70) kc_10_67 rfl rfl ?_
                  refine xi_bipush (pc' := 72) (v := 30) kc_10_70 rfl rfl ?_
                  refine xi_goto (pc' := 96) kc_10_72 rfl ?_
                  refine xi_cmt (pc' := 106) kc_10_96 rfl (xc_le_t (X := a3.toInt) (Y := 30) rfl (by decide) (by omega)) ?_
                  refine xi_aload_n (pc' := 107) (x := 115) kc_10_106 rfl rfl ?_
                  refine xi_iload_n (pc' := 108) (x := 0) kc_10_107 rfl rfl ?_
                  refine xi_iload_n (pc' := 109) (x := 1) kc_10_108 rfl rfl ?_
                  refine xi_virtual (mj := 14) (as := [.int 0, .int 1]) (st1 := []) (lv0 := [(0, .ref 115), (1, .int 0), (2, .int 1)]) kc_10_109 rfl rfl rfl rfl rfl eh3.1 (Nat.le_of_ble_eq_true rfl) (hJ _ _ _ _ (by decide)) (xm_le ml_14 rfl) rfl ?_
                  refine xi_iload_n (pc' := 1) (x := 1) kc_14_0 rfl rfl ?_
                  refine xi_tsi (pc' := 43) (z := 1) kc_14_1 (rfl) rfl (by decide) ?_
                  refine xi_aload_n (pc' := 44) (x := 115) kc_14_43 rfl rfl ?_
                  refine xi_getfield (pc' := 47) (v := .ref 117) kc_14_44 rfl rfl rfl eh3.1 rfl ?_
                  refine xi_iload_n (pc' := 48) (x := 0) kc_14_47 rfl rfl ?_
                  refine xi_iaload (pc' := 49) (v := 18) kc_14_48 rfl ((eh3.2.1 117 (by decide)).trans ((eh2.2.1 117 (by decide)).trans ((eh1.2.1 117 (by decide)).trans (F 117 _ hl_117)))) (by decide) rfl (xi_in (n := 6) (by decide) (by decide)) rfl ?_
                  refine xi_ireturn kc_14_49 mr_14 rfl ?_
                  show xw J ov 99 10 (112, [(0, .ref 115), (1, .int 0), (2, .int 1), (3, .int a3)], [.int 18], hh3) _
                  refine xi_istore (pc' := 114) (lv' := [(4, .int 18), (0, .ref 115), (1, .int 0), (2, .int 1), (3, .int a3)]) kc_10_112 rfl rfl (xm_lt ml_10 rfl) ?_
                  refine xi_aload_n (pc' := 115) (x := 115) kc_10_114 rfl rfl ?_
                  refine xi_iload_n (pc' := 116) (x := 0) kc_10_115 rfl rfl ?_
                  refine xi_iload_n (pc' := 117) (x := 1) kc_10_116 rfl rfl ?_
                  refine xi_iload_n (pc' := 118) (x := a3) kc_10_117 rfl rfl ?_
                  refine xi_virtual (mj := 15) (as := [.int 0, .int 1, .int a3]) (st1 := []) (lv0 := [(0, .ref 115), (1, .int 0), (2, .int 1), (3, .int a3)]) kc_10_118 rfl rfl rfl rfl rfl eh3.1 (Nat.le_of_ble_eq_true rfl) (hJ _ _ _ _ (by decide)) (xm_le ml_15 rfl) rfl ?_
                  refine xi_aload_n (pc' := 1) (x := 115) kc_15_0 rfl rfl ?_
                  refine xi_getfield (pc' := 4) (v := .ref 116) kc_15_1 rfl rfl rfl eh3.1 rfl ?_
                  refine xi_iload_n (pc' := 5) (x := 0) kc_15_4 rfl rfl ?_
                  refine xi_iload_n (pc' := 6) (x := 1) kc_15_5 rfl rfl ?_
                  refine xi_ift (pc' := 13) kc_15_6 rfl rfl ?_
                  refine xi_aload_n (pc' := 14) (x := 115) kc_15_13 rfl rfl ?_
                  refine xi_getfield (pc' := 17) (v := .ref 116) kc_15_14 rfl rfl rfl eh3.1 rfl ?_
                  refine xi_iload_n (pc' := 18) (x := 0) kc_15_17 rfl rfl ?_
                  refine xi_iaload (pc' := 19) (v := 40) kc_15_18 rfl ((eh3.2.1 116 (by decide)).trans ((eh2.2.1 116 (by decide)).trans ((eh1.2.1 116 (by decide)).trans (F 116 _ hl_116)))) (by decide) rfl (xi_in (n := 6) (by decide) (by decide)) rfl ?_
                  refine xi_iastore (pc' := 20) (x' := [40, 40, 40, 40, 40, 40]) kc_15_19 rfl ((eh3.2.1 116 (by decide)).trans ((eh2.2.1 116 (by decide)).trans ((eh1.2.1 116 (by decide)).trans (F 116 _ hl_116)))) rfl (xi_in (n := 6) (by decide) (by decide)) rfl (fun hh4 eh4 => ?_)
                  refine xi_aload_n (pc' := 21) (x := 115) kc_15_20 rfl rfl ?_
                  refine xi_getfield (pc' := 24) (v := .ref 117) kc_15_21 rfl rfl rfl ((eh4.2.1 115 (by decide)).trans eh3.1) rfl ?_
                  refine xi_iload_n (pc' := 25) (x := 0) kc_15_24 rfl rfl ?_
                  refine xi_iload_n (pc' := 26) (x := 1) kc_15_25 rfl rfl ?_
                  refine xi_iconst (pc' := 27) (v := 1) kc_15_26 rfl rfl ?_
                  refine xi_cmf (pc' := 30) kc_15_27 rfl rfl ?_
                  refine xi_iload_n (pc' := 31) (x := a3) kc_15_30 rfl rfl ?_
                  refine xi_goto (pc' := 40) kc_15_31 rfl ?_
                  refine xi_iastore (pc' := 41) (x' := [a3, 18, 18, 18, 18, 18]) kc_15_40 rfl ((eh4.2.1 117 (by decide)).trans ((eh3.2.1 117 (by decide)).trans ((eh2.2.1 117 (by decide)).trans ((eh1.2.1 117 (by decide)).trans (F 117 _ hl_117))))) rfl (xi_in (n := 6) (by decide) (by decide)) rfl (fun hh5 eh5 => ?_)
                  refine xi_aload_n (pc' := 42) (x := 115) kc_15_41 rfl rfl ?_
                  refine xi_getfield (pc' := 45) (v := .ref 118) kc_15_42 rfl rfl rfl ((eh5.2.1 115 (by decide)).trans ((eh4.2.1 115 (by decide)).trans eh3.1)) rfl ?_
                  refine xi_iload_n (pc' := 46) (x := 0) kc_15_45 rfl rfl ?_
                  refine xi_iload_n (pc' := 47) (x := 1) kc_15_46 rfl rfl ?_
                  refine xi_iconst (pc' := 48) (v := 2) kc_15_47 rfl rfl ?_
                  refine xi_cmt (pc' := 55) kc_15_48 rfl rfl ?_
                  refine xi_aload_n (pc' := 56) (x := 115) kc_15_55 rfl rfl ?_
                  refine xi_getfield (pc' := 59) (v := .ref 118) kc_15_56 rfl rfl rfl ((eh5.2.1 115 (by decide)).trans ((eh4.2.1 115 (by decide)).trans eh3.1)) rfl ?_
                  refine xi_iload_n (pc' := 60) (x := 0) kc_15_59 rfl rfl ?_
                  refine xi_iaload (pc' := 61) (v := 10) kc_15_60 rfl ((eh5.2.1 118 (by decide)).trans ((eh4.2.1 118 (by decide)).trans ((eh3.2.1 118 (by decide)).trans ((eh2.2.1 118 (by decide)).trans ((eh1.2.1 118 (by decide)).trans (F 118 _ hl_118)))))) (by decide) rfl (xi_in (n := 6) (by decide) (by decide)) rfl ?_
                  refine xi_iastore (pc' := 62) (x' := [10, 10, 10, 10, 10, 10]) kc_15_61 rfl ((eh5.2.1 118 (by decide)).trans ((eh4.2.1 118 (by decide)).trans ((eh3.2.1 118 (by decide)).trans ((eh2.2.1 118 (by decide)).trans ((eh1.2.1 118 (by decide)).trans (F 118 _ hl_118)))))) rfl (xi_in (n := 6) (by decide) (by decide)) rfl (fun hh6 eh6 => ?_)
                  refine xi_aload_n (pc' := 63) (x := 115) kc_15_62 rfl rfl ?_
                  refine xi_getfield (pc' := 66) (v := .ref 119) kc_15_63 rfl rfl rfl ((eh6.2.1 115 (by decide)).trans ((eh5.2.1 115 (by decide)).trans ((eh4.2.1 115 (by decide)).trans eh3.1))) rfl ?_
                  refine xi_iload_n (pc' := 67) (x := 0) kc_15_66 rfl rfl ?_
                  refine xi_iload_n (pc' := 68) (x := 1) kc_15_67 rfl rfl ?_
                  refine xi_iconst (pc' := 69) (v := 3) kc_15_68 rfl rfl ?_
                  refine xi_cmt (pc' := 76) kc_15_69 rfl rfl ?_
                  refine xi_aload_n (pc' := 77) (x := 115) kc_15_76 rfl rfl ?_
                  refine xi_getfield (pc' := 80) (v := .ref 119) kc_15_77 rfl rfl rfl ((eh6.2.1 115 (by decide)).trans ((eh5.2.1 115 (by decide)).trans ((eh4.2.1 115 (by decide)).trans eh3.1))) rfl ?_
                  refine xi_iload_n (pc' := 81) (x := 0) kc_15_80 rfl rfl ?_
                  refine xi_iaload (pc' := 82) (v := 0) kc_15_81 rfl ((eh6.2.1 119 (by decide)).trans ((eh5.2.1 119 (by decide)).trans ((eh4.2.1 119 (by decide)).trans ((eh3.2.1 119 (by decide)).trans ((eh2.2.1 119 (by decide)).trans ((eh1.2.1 119 (by decide)).trans (F 119 _ hl_119))))))) (by decide) rfl (xi_in (n := 6) (by decide) (by decide)) rfl ?_
                  refine xi_iastore (pc' := 83) (x' := [0, 0, 0, 0, 0, 0]) kc_15_82 rfl ((eh6.2.1 119 (by decide)).trans ((eh5.2.1 119 (by decide)).trans ((eh4.2.1 119 (by decide)).trans ((eh3.2.1 119 (by decide)).trans ((eh2.2.1 119 (by decide)).trans ((eh1.2.1 119 (by decide)).trans (F 119 _ hl_119))))))) rfl (xi_in (n := 6) (by decide) (by decide)) rfl (fun hh7 eh7 => ?_)
                  refine xi_aload_n (pc' := 84) (x := 115) kc_15_83 rfl rfl ?_
                  refine xi_getfield (pc' := 87) (v := .ref 120) kc_15_84 rfl rfl rfl ((eh7.2.1 115 (by decide)).trans ((eh6.2.1 115 (by decide)).trans ((eh5.2.1 115 (by decide)).trans ((eh4.2.1 115 (by decide)).trans eh3.1)))) rfl ?_
                  refine xi_iload_n (pc' := 88) (x := 0) kc_15_87 rfl rfl ?_
                  refine xi_iload_n (pc' := 89) (x := 1) kc_15_88 rfl rfl ?_
                  refine xi_iconst (pc' := 90) (v := 4) kc_15_89 rfl rfl ?_
                  refine xi_cmt (pc' := 97) kc_15_90 rfl rfl ?_
                  refine xi_aload_n (pc' := 98) (x := 115) kc_15_97 rfl rfl ?_
                  refine xi_getfield (pc' := 101) (v := .ref 120) kc_15_98 rfl rfl rfl ((eh7.2.1 115 (by decide)).trans ((eh6.2.1 115 (by decide)).trans ((eh5.2.1 115 (by decide)).trans ((eh4.2.1 115 (by decide)).trans eh3.1)))) rfl ?_
                  refine xi_iload_n (pc' := 102) (x := 0) kc_15_101 rfl rfl ?_
                  refine xi_iaload (pc' := 103) (v := 0) kc_15_102 rfl ((eh7.2.1 120 (by decide)).trans ((eh6.2.1 120 (by decide)).trans ((eh5.2.1 120 (by decide)).trans ((eh4.2.1 120 (by decide)).trans ((eh3.2.1 120 (by decide)).trans ((eh2.2.1 120 (by decide)).trans ((eh1.2.1 120 (by decide)).trans (F 120 _ hl_120)))))))) (by decide) rfl (xi_in (n := 6) (by decide) (by decide)) rfl ?_
                  refine xi_iastore (pc' := 104) (x' := [0, 0, 0, 0, 0, 0]) kc_15_103 rfl ((eh7.2.1 120 (by decide)).trans ((eh6.2.1 120 (by decide)).trans ((eh5.2.1 120 (by decide)).trans ((eh4.2.1 120 (by decide)).trans ((eh3.2.1 120 (by decide)).trans ((eh2.2.1 120 (by decide)).trans ((eh1.2.1 120 (by decide)).trans (F 120 _ hl_120)))))))) rfl (xi_in (n := 6) (by decide) (by decide)) rfl (fun hh8 eh8 => ?_)
                  refine xi_aload_n (pc' := 105) (x := 115) kc_15_104 rfl rfl ?_
                  refine xi_getfield (pc' := 108) (v := .ref 121) kc_15_105 rfl rfl rfl ((eh8.2.1 115 (by decide)).trans ((eh7.2.1 115 (by decide)).trans ((eh6.2.1 115 (by decide)).trans ((eh5.2.1 115 (by decide)).trans ((eh4.2.1 115 (by decide)).trans eh3.1))))) rfl ?_
                  refine xi_iload_n (pc' := 109) (x := 0) kc_15_108 rfl rfl ?_
                  refine xi_iload_n (pc' := 110) (x := 1) kc_15_109 rfl rfl ?_
                  refine xi_iconst (pc' := 111) (v := 5) kc_15_110 rfl rfl ?_
                  refine xi_cmt (pc' := 118) kc_15_111 rfl rfl ?_
                  refine xi_aload_n (pc' := 119) (x := 115) kc_15_118 rfl rfl ?_
                  refine xi_getfield (pc' := 122) (v := .ref 121) kc_15_119 rfl rfl rfl ((eh8.2.1 115 (by decide)).trans ((eh7.2.1 115 (by decide)).trans ((eh6.2.1 115 (by decide)).trans ((eh5.2.1 115 (by decide)).trans ((eh4.2.1 115 (by decide)).trans eh3.1))))) rfl ?_
                  refine xi_iload_n (pc' := 123) (x := 0) kc_15_122 rfl rfl ?_
                  refine xi_iaload (pc' := 124) (v := 0) kc_15_123 rfl ((eh8.2.1 121 (by decide)).trans ((eh7.2.1 121 (by decide)).trans ((eh6.2.1 121 (by decide)).trans ((eh5.2.1 121 (by decide)).trans ((eh4.2.1 121 (by decide)).trans ((eh3.2.1 121 (by decide)).trans ((eh2.2.1 121 (by decide)).trans ((eh1.2.1 121 (by decide)).trans (F 121 _ hl_121))))))))) (by decide) rfl (xi_in (n := 6) (by decide) (by decide)) rfl ?_
                  refine xi_iastore (pc' := 125) (x' := [0, 0, 0, 0, 0, 0]) kc_15_124 rfl ((eh8.2.1 121 (by decide)).trans ((eh7.2.1 121 (by decide)).trans ((eh6.2.1 121 (by decide)).trans ((eh5.2.1 121 (by decide)).trans ((eh4.2.1 121 (by decide)).trans ((eh3.2.1 121 (by decide)).trans ((eh2.2.1 121 (by decide)).trans ((eh1.2.1 121 (by decide)).trans (F 121 _ hl_121))))))))) rfl (xi_in (n := 6) (by decide) (by decide)) rfl (fun hh9 eh9 => ?_)
                  refine xi_aload_n (pc' := 126) (x := 115) kc_15_125 rfl rfl ?_
                  refine xi_iconst (pc' := 127) (v := 0) kc_15_126 rfl rfl ?_
                  refine xi_putfield (pc' := 130) (fs' := [.int 0, .int 0, .ref 116, .ref 117, .ref 118, .ref 119, .ref 120, .ref 121, .ref 122, .ref 123, .ref 124, .ref 125, .ref 126, .ref 127, .ref 128, .ref 129, .int 4, .ref 130, .int 0, .ref 131, .ref 132, .ref 133, .ref 134, .int 0, .ref 135, .ref 136, .ref 137, .ref 138, .ref 139, .ref 140, .ref 141, .ref 142, .int 0, .int 0, .int 0, .ref 143, .ref 144, .ref 145, .ref 146, .ref 147, .ref 148, .int 0, .ref 149, .ref 150, .ref 151, .int 0, .ref 152, .ref 153, .ref 154, .ref 155, .ref 156, .ref 157, .ref 158, .ref 159, .int 0, .ref 160, .int 0, .ref 161, .ref 162, .ref 163, .ref 164, .int 0, .ref 165, .ref 166]) kc_15_127 rfl rfl rfl ((eh9.2.1 115 (by decide)).trans ((eh8.2.1 115 (by decide)).trans ((eh7.2.1 115 (by decide)).trans ((eh6.2.1 115 (by decide)).trans ((eh5.2.1 115 (by decide)).trans ((eh4.2.1 115 (by decide)).trans eh3.1)))))) rfl rfl rfl (Nat.le_of_ble_eq_true rfl) rfl (fun hh10 eh10 => ?_)
                  refine xi_return kc_15_130 mr_15 ?_
                  show xw J ov 99 10 (121, [(4, .int 18), (0, .ref 115), (1, .int 0), (2, .int 1), (3, .int a3)], [], hh10) _
                  refine xi_iload (pc' := 123) (x := 18) kc_10_121 rfl rfl ?_
                  refine xi_ireturn kc_10_123 mr_10 rfl ?_
                  show xw J ov 100 196 (236, [(4, .int 0), (3, .ref 167), (2, .ref 115), (1, .ref 0), (0, .ref 1000000)], [.int 18, .int 18], hh10) _
                  refine xi_cmt (pc' := 1528) kc_196_236 rfl rfl ?_
                  refine xi_iinc (pc' := 1531) (x := 0) (v := 6) (lv' := [(4, .int 6), (3, .ref 167), (2, .ref 115), (1, .ref 0), (0, .ref 1000000)]) kc_196_1528 rfl rfl rfl rfl (xm_lt ml_196 rfl) ?_
                  refine xi_goto (pc' := 23) kc_196_1531 rfl ?_
                  refine xi_iload (pc' := 25) (x := 6) kc_196_23 rfl rfl ?_
                  refine xi_aload_n (pc' := 26) (x := 1000000) kc_196_25 rfl rfl ?_
                  refine xi_arraylength (pc' := 27) (n := 6) (v := 6) kc_196_26 rfl (xl_lenO (by decide) hov0 rfl) rfl ?_
                  refine xi_bipush (pc' := 29) (v := 6) kc_196_27 rfl rfl ?_
                  refine xi_isub (pc' := 30) (v := 0) kc_196_29 rfl rfl ?_
                  refine xi_cmt (pc' := 1534) kc_196_30 rfl rfl ?_
                  refine xi_iconst (pc' := 1535) (v := 1) kc_196_1534 rfl rfl ?_
                  refine xi_ireturn kc_196_1535 mr_196 rfl ?_
                  refine ⟨rfl, ?_, ?_⟩
                  · rw [eh10.2.2.1, eh9.2.2.1, eh8.2.2.1, eh7.2.2.1, eh6.2.2.1, eh5.2.2.1, eh4.2.2.1, eh3.2.2.1, eh2.2.2.1, eh1.2.2.1]; exact hn0
                  · rw [eh10.2.2.2, eh9.2.2.2, eh8.2.2.2, eh7.2.2.2, eh6.2.2.2, eh5.2.2.2, eh4.2.2.2, eh3.2.2.2, eh2.2.2.2, eh1.2.2.2]; exact hz0
                by_cases c17 : a1.toInt = 1
                · have qa1 : a1 = 1 := xc_of (Eq.trans (by omega) (show (1 : Int) = (1 : Int32).toInt by decide))
                  subst qa1
                  refine xi_aaload (pc' := 13) (b := 14) kc_93_12 rfl ((eh1.2.1 2 (by decide)).trans (F 2 _ hl_2)) rfl (xi_in (n := 6) (by decide) (by decide)) rfl ?_
                  refine xi_iload_n (pc' := 14) (x := 1) kc_93_13 rfl rfl ?_
                  refine xi_iload_n (pc' := 15) (x := a3) kc_93_14 rfl rfl ?_
                  refine xi_virtual (mj := 94) (as := [.int 1, .int a3]) (st1 := []) (lv0 := [(0, .ref 14), (1, .int 1), (2, .int a3)]) kc_93_15 rfl rfl rfl rfl rfl ((eh1.2.1 14 (by decide)).trans (F 14 _ hl_14)) (Nat.le_of_ble_eq_true rfl) (hJ _ _ _ _ (by decide)) (xm_le ml_94 rfl) rfl ?_
                  refine xi_iload_n (pc' := 1) (x := 1) kc_94_0 rfl rfl ?_
                  refine xi_iff (pc' := 4) kc_94_1 rfl rfl ?_
                  refine xi_iload_n (pc' := 5) (x := 1) kc_94_4 rfl rfl ?_
                  refine xi_iconst (pc' := 6) (v := 5) kc_94_5 rfl rfl ?_
                  refine xi_cmt (pc' := 11) kc_94_6 rfl rfl ?_
                  refine xi_aload_n (pc' := 12) (x := 14) kc_94_11 rfl rfl ?_
                  refine xi_getfield (pc' := 15) (v := .ref 15) kc_94_12 rfl rfl rfl ((eh1.2.1 14 (by decide)).trans (F 14 _ hl_14)) rfl ?_
                  refine xi_iload_n (pc' := 16) (x := 1) kc_94_15 rfl rfl ?_
                  refine xi_iaload (pc' := 17) (v := 18) kc_94_16 rfl ((eh1.2.1 15 (by decide)).trans (F 15 _ hl_15)) (by decide) rfl (xi_in (n := 5) (by decide) (by decide)) rfl ?_
                  refine xi_istore_n (pc' := 18) (lv' := [(3, .int 18), (0, .ref 14), (1, .int 1), (2, .int a3)]) kc_94_17 rfl rfl (xm_lt ml_94 rfl) ?_
                  refine xi_aload_n (pc' := 19) (x := 14) kc_94_18 rfl rfl ?_
                  refine xi_getfield (pc' := 22) (v := .ref 15) kc_94_19 rfl rfl rfl ((eh1.2.1 14 (by decide)).trans (F 14 _ hl_14)) rfl ?_
                  refine xi_iload_n (pc' := 23) (x := 1) kc_94_22 rfl rfl ?_
                  refine xi_iload_n (pc' := 24) (x := a3) kc_94_23 rfl rfl ?_
                  refine xi_iastore (pc' := 25) (x' := [40, a3, 10, 0, 0]) kc_94_24 rfl ((eh1.2.1 15 (by decide)).trans (F 15 _ hl_15)) rfl (xi_in (n := 5) (by decide) (by decide)) rfl (fun hh2 eh2 => ?_)
                  refine xi_iload_n (pc' := 26) (x := 18) kc_94_25 rfl rfl ?_
                  refine xi_ireturn kc_94_26 mr_94 rfl ?_
                  show xw J ov 98 93 (18, [(0, .ref 1), (1, .int 1), (2, .int 1), (3, .int a3)], [.int 18], hh2) _
                  refine xi_goto (pc' := 22) kc_93_18 rfl ?_
                  refine xi_ireturn kc_93_22 mr_93 rfl ?_
                  show xw J ov 99 89 (107, [(0, .ref 0), (1, .int 1), (2, .int 1), (3, .int a3)], [.int 18], hh2) _
                  refine xi_ireturn kc_89_107 mr_89 rfl ?_
                  show xw J ov 100 196 (214, [(4, .int 0), (3, .ref 167), (2, .ref 115), (1, .ref 0), (0, .ref 1000000)], [.int 18], hh2) _
                  refine xi_aload_n (pc' := 215) (x := 115) kc_196_214 rfl rfl ?_
                  refine xi_aload_n (pc' := 216) (x := 1000000) kc_196_215 rfl rfl ?_
                  refine xi_iload (pc' := 218) (x := 0) kc_196_216 rfl rfl ?_
                  refine xi_iconst (pc' := 219) (v := 1) kc_196_218 rfl rfl ?_
                  refine xi_iadd (pc' := 220) (v := 1) kc_196_219 rfl rfl ?_
                  refine xi_ialoadO (pc' := 221) (v := 1) kc_196_220 rfl (by decide) hov0 (xi_in (n := 6) (by decide) (by decide)) rfl ?_
                  refine xi_aload_n (pc' := 222) (x := 1000000) kc_196_221 rfl rfl ?_
                  refine xi_iload (pc' := 224) (x := 0) kc_196_222 rfl rfl ?_
                  refine xi_iconst (pc' := 225) (v := 2) kc_196_224 rfl rfl ?_
                  refine xi_iadd (pc' := 226) (v := 2) kc_196_225 rfl rfl ?_
                  refine xi_ialoadO (pc' := 227) (v := 1) kc_196_226 rfl (by decide) hov0 (xi_in (n := 6) (by decide) (by decide)) rfl ?_
                  refine xi_aload_n (pc' := 228) (x := 1000000) kc_196_227 rfl rfl ?_
                  refine xi_iload (pc' := 230) (x := 0) kc_196_228 rfl rfl ?_
                  refine xi_iconst (pc' := 231) (v := 3) kc_196_230 rfl rfl ?_
                  refine xi_iadd (pc' := 232) (v := 3) kc_196_231 rfl rfl ?_
                  refine xi_ialoadO (pc' := 233) (v := a3) kc_196_232 rfl (by decide) hov0 (xi_in (n := 6) (by decide) (by decide)) rfl ?_
                  refine xi_virtual (mj := 10) (as := [.int 1, .int 1, .int a3]) (st1 := [.int 18]) (lv0 := [(0, .ref 115), (1, .int 1), (2, .int 1), (3, .int a3)]) kc_196_233 rfl rfl rfl rfl rfl ((eh2.2.1 115 (by decide)).trans ((eh1.2.1 115 (by decide)).trans (F 115 _ hl_115))) (Nat.le_of_ble_eq_true rfl) (hJ _ _ _ _ (by decide)) (xm_le ml_10 rfl) rfl ?_
                  refine xi_aload_n (pc' := 1) (x := 115) kc_10_0 rfl rfl ?_
                  refine xi_iconst (pc' := 2) (v := 0) kc_10_1 rfl rfl ?_
                  refine xi_putfield (pc' := 5) (fs' := [.int 0, .int 0, .ref 116, .ref 117, .ref 118, .ref 119, .ref 120, .ref 121, .ref 122, .ref 123, .ref 124, .ref 125, .ref 126, .ref 127, .ref 128, .ref 129, .int 4, .ref 130, .int 0, .ref 131, .ref 132, .ref 133, .ref 134, .int 0, .ref 135, .ref 136, .ref 137, .ref 138, .ref 139, .ref 140, .ref 141, .ref 142, .int 0, .int 0, .int 0, .ref 143, .ref 144, .ref 145, .ref 146, .ref 147, .ref 148, .int 0, .ref 149, .ref 150, .ref 151, .int 0, .ref 152, .ref 153, .ref 154, .ref 155, .ref 156, .ref 157, .ref 158, .ref 159, .int 0, .ref 160, .int 0, .ref 161, .ref 162, .ref 163, .ref 164, .int 0, .ref 165, .ref 166]) kc_10_2 rfl rfl rfl ((eh2.2.1 115 (by decide)).trans ((eh1.2.1 115 (by decide)).trans (F 115 _ hl_115))) rfl rfl rfl (Nat.le_of_ble_eq_true rfl) rfl (fun hh3 eh3 => ?_)
                  refine xi_iload_n (pc' := 6) (x := 1) kc_10_5 rfl rfl ?_
                  refine xi_static (mj := 11) (as := [.int 1]) (st1 := []) (lv0 := [(0, .int 1)]) kc_10_6 rfl rfl (Nat.le_of_ble_eq_true rfl) rfl rfl (Nat.le_of_ble_eq_true rfl) (hJ _ _ _ _ (by decide)) (xm_le ml_11 rfl) rfl ?_
                  refine xi_iload_n (pc' := 1) (x := 1) kc_11_0 rfl rfl ?_
                  refine xi_iconst (pc' := 2) (v := 0) kc_11_1 rfl rfl ?_
                  refine xi_iconst (pc' := 3) (v := 5) kc_11_2 rfl rfl ?_
                  refine xi_static (mj := 12) (as := [.int 1, .int 0, .int 5]) (st1 := []) (lv0 := [(0, .int 1), (1, .int 0), (2, .int 5)]) kc_11_3 rfl rfl (Nat.le_of_ble_eq_true rfl) rfl rfl (Nat.le_of_ble_eq_true rfl) (hJ _ _ _ _ (by decide)) (xm_le ml_12 rfl) rfl ?_
                  refine xi_iload_n (pc' := 1) (x := 1) kc_12_0 rfl rfl ?_
                  refine xi_iload_n (pc' := 2) (x := 0) kc_12_1 rfl rfl ?_
                  refine xi_cmf (pc' := 5) kc_12_2 rfl rfl ?_
                  refine xi_iload_n (pc' := 6) (x := 1) kc_12_5 rfl rfl ?_
                  refine xi_iload_n (pc' := 7) (x := 5) kc_12_6 rfl rfl ?_
                  refine xi_cmf (pc' := 10) kc_12_7 rfl rfl ?_
                  refine xi_iconst (pc' := 11) (v := 1) kc_12_10 rfl rfl ?_
                  refine xi_goto (pc' := 15) kc_12_11 rfl ?_
                  refine xi_ireturn kc_12_15 mr_12 rfl ?_
                  show xw J ov 98 11 (6, [(0, .int 1)], [.int 1], hh3) _
                  refine xi_ireturn kc_11_6 mr_11 rfl ?_
                  show xw J ov 99 10 (9, [(0, .ref 115), (1, .int 1), (2, .int 1), (3, .int a3)], [.int 1], hh3) _
                  refine xi_ift (pc' := 18) kc_10_9 rfl rfl ?_
                  refine xi_iload_n (pc' := 19) (x := 1) kc_10_18 rfl rfl ?_
                  refine xi_iconst (pc' := 20) (v := 0) kc_10_19 rfl rfl ?_
                  refine xi_iconst (pc' := 21) (v := 5) kc_10_20 rfl rfl ?_
                  refine xi_static (mj := 12) (as := [.int 1, .int 0, .int 5]) (st1 := []) (lv0 := [(0, .int 1), (1, .int 0), (2, .int 5)]) kc_10_21 rfl rfl (Nat.le_of_ble_eq_true rfl) rfl rfl (Nat.le_of_ble_eq_true rfl) (hJ _ _ _ _ (by decide)) (xm_le ml_12 rfl) rfl ?_
                  refine xi_iload_n (pc' := 1) (x := 1) kc_12_0 rfl rfl ?_
                  refine xi_iload_n (pc' := 2) (x := 0) kc_12_1 rfl rfl ?_
                  refine xi_cmf (pc' := 5) kc_12_2 rfl rfl ?_
                  refine xi_iload_n (pc' := 6) (x := 1) kc_12_5 rfl rfl ?_
                  refine xi_iload_n (pc' := 7) (x := 5) kc_12_6 rfl rfl ?_
                  refine xi_cmf (pc' := 10) kc_12_7 rfl rfl ?_
                  refine xi_iconst (pc' := 11) (v := 1) kc_12_10 rfl rfl ?_
                  refine xi_goto (pc' := 15) kc_12_11 rfl ?_
                  refine xi_ireturn kc_12_15 mr_12 rfl ?_
                  show xw J ov 99 10 (24, [(0, .ref 115), (1, .int 1), (2, .int 1), (3, .int a3)], [.int 1], hh3) _
                  refine xi_ift (pc' := 34) kc_10_24 rfl rfl ?_
                  refine xi_iload_n (pc' := 35) (x := a3) kc_10_34 rfl rfl ?_
                  refine xi_iload_n (pc' := 36) (x := 1) kc_10_35 rfl rfl ?_
                  refine xi_ift (pc' := 44) kc_10_36 rfl rfl ?_
                  refine xi_iconst (pc' := 45) (v := 0) kc_10_44 rfl rfl ?_
                  refine xi_cmt (pc' := 55) kc_10_45 rfl (xc_ge_t (X := a3.toInt) (Y := 0) rfl (by decide) (by omega)) ?_
                  refine xi_iload_n (pc' := 56) (x := a3) kc_10_55 rfl rfl ?_
                  refine xi_iload_n (pc' := 57) (x := 1) kc_10_56 rfl rfl ?_
                  refine xi_ift (pc' := 65) kc_10_57 rfl rfl ?_
                  refine xi_iload_n (pc' := 66) (x := 1) kc_10_65 rfl rfl ?_
                  refine xi_iconst (pc' := 67) (v := 1) kc_10_66 rfl rfl ?_
                  refine xi_cmf (pc' := 70) kc_10_67 rfl rfl ?_
                  refine xi_bipush (pc' := 72) (v := 30) kc_10_70 rfl rfl ?_
                  refine xi_goto (pc' := 96) kc_10_72 rfl ?_
                  refine xi_cmt (pc' := 106) kc_10_96 rfl (xc_le_t (X := a3.toInt) (Y := 30) rfl (by decide) (by omega)) ?_
                  refine xi_aload_n (pc' := 107) (x := 115) kc_10_106 rfl rfl ?_
                  refine xi_iload_n (pc' := 108) (x := 1) kc_10_107 rfl rfl ?_
                  refine xi_iload_n (pc' := 109) (x := 1) kc_10_108 rfl rfl ?_
                  refine xi_virtual (mj := 14) (as := [.int 1, .int 1]) (st1 := []) (lv0 := [(0, .ref 115), (1, .int 1), (2, .int 1)]) kc_10_109 rfl rfl rfl rfl rfl eh3.1 (Nat.le_of_ble_eq_true rfl) (hJ _ _ _ _ (by decide)) (xm_le ml_14 rfl) rfl ?_
                  refine xi_iload_n (pc' := 1) (x := 1) kc_14_0 rfl rfl ?_
                  refine xi_tsi (pc' := 43) (z := 1) kc_14_1 (rfl) rfl (by decide) ?_
                  refine xi_aload_n (pc' := 44) (x := 115) kc_14_43 rfl rfl ?_
                  refine xi_getfield (pc' := 47) (v := .ref 117) kc_14_44 rfl rfl rfl eh3.1 rfl ?_
                  refine xi_iload_n (pc' := 48) (x := 1) kc_14_47 rfl rfl ?_
                  refine xi_iaload (pc' := 49) (v := 18) kc_14_48 rfl ((eh3.2.1 117 (by decide)).trans ((eh2.2.1 117 (by decide)).trans ((eh1.2.1 117 (by decide)).trans (F 117 _ hl_117)))) (by decide) rfl (xi_in (n := 6) (by decide) (by decide)) rfl ?_
                  refine xi_ireturn kc_14_49 mr_14 rfl ?_
                  show xw J ov 99 10 (112, [(0, .ref 115), (1, .int 1), (2, .int 1), (3, .int a3)], [.int 18], hh3) _
                  refine xi_istore (pc' := 114) (lv' := [(4, .int 18), (0, .ref 115), (1, .int 1), (2, .int 1), (3, .int a3)]) kc_10_112 rfl rfl (xm_lt ml_10 rfl) ?_
                  refine xi_aload_n (pc' := 115) (x := 115) kc_10_114 rfl rfl ?_
                  refine xi_iload_n (pc' := 116) (x := 1) kc_10_115 rfl rfl ?_
                  refine xi_iload_n (pc' := 117) (x := 1) kc_10_116 rfl rfl ?_
                  refine xi_iload_n (pc' := 118) (x := a3) kc_10_117 rfl rfl ?_
                  refine xi_virtual (mj := 15) (as := [.int 1, .int 1, .int a3]) (st1 := []) (lv0 := [(0, .ref 115), (1, .int 1), (2, .int 1), (3, .int a3)]) kc_10_118 rfl rfl rfl rfl rfl eh3.1 (Nat.le_of_ble_eq_true rfl) (hJ _ _ _ _ (by decide)) (xm_le ml_15 rfl) rfl ?_
                  refine xi_aload_n (pc' := 1) (x := 115) kc_15_0 rfl rfl ?_
                  refine xi_getfield (pc' := 4) (v := .ref 116) kc_15_1 rfl rfl rfl eh3.1 rfl ?_
                  refine xi_iload_n (pc' := 5) (x := 1) kc_15_4 rfl rfl ?_
                  refine xi_iload_n (pc' := 6) (x := 1) kc_15_5 rfl rfl ?_
                  refine xi_ift (pc' := 13) kc_15_6 rfl rfl ?_
                  refine xi_aload_n (pc' := 14) (x := 115) kc_15_13 rfl rfl ?_
                  refine xi_getfield (pc' := 17) (v := .ref 116) kc_15_14 rfl rfl rfl eh3.1 rfl ?_
                  refine xi_iload_n (pc' := 18) (x := 1) kc_15_17 rfl rfl ?_
                  refine xi_iaload (pc' := 19) (v := 40) kc_15_18 rfl ((eh3.2.1 116 (by decide)).trans ((eh2.2.1 116 (by decide)).trans ((eh1.2.1 116 (by decide)).trans (F 116 _ hl_116)))) (by decide) rfl (xi_in (n := 6) (by decide) (by decide)) rfl ?_
                  refine xi_iastore (pc' := 20) (x' := [40, 40, 40, 40, 40, 40]) kc_15_19 rfl ((eh3.2.1 116 (by decide)).trans ((eh2.2.1 116 (by decide)).trans ((eh1.2.1 116 (by decide)).trans (F 116 _ hl_116)))) rfl (xi_in (n := 6) (by decide) (by decide)) rfl (fun hh4 eh4 => ?_)
                  refine xi_aload_n (pc' := 21) (x := 115) kc_15_20 rfl rfl ?_
                  refine xi_getfield (pc' := 24) (v := .ref 117) kc_15_21 rfl rfl rfl ((eh4.2.1 115 (by decide)).trans eh3.1) rfl ?_
                  refine xi_iload_n (pc' := 25) (x := 1) kc_15_24 rfl rfl ?_
                  refine xi_iload_n (pc' := 26) (x := 1) kc_15_25 rfl rfl ?_
                  refine xi_iconst (pc' := 27) (v := 1) kc_15_26 rfl rfl ?_
                  refine xi_cmf (pc' := 30) kc_15_27 rfl rfl ?_
                  refine xi_iload_n (pc' := 31) (x := a3) kc_15_30 rfl rfl ?_
                  refine xi_goto (pc' := 40) kc_15_31 rfl ?_
                  refine xi_iastore (pc' := 41) (x' := [18, a3, 18, 18, 18, 18]) kc_15_40 rfl ((eh4.2.1 117 (by decide)).trans ((eh3.2.1 117 (by decide)).trans ((eh2.2.1 117 (by decide)).trans ((eh1.2.1 117 (by decide)).trans (F 117 _ hl_117))))) rfl (xi_in (n := 6) (by decide) (by decide)) rfl (fun hh5 eh5 => ?_)
                  refine xi_aload_n (pc' := 42) (x := 115) kc_15_41 rfl rfl ?_
                  refine xi_getfield (pc' := 45) (v := .ref 118) kc_15_42 rfl rfl rfl ((eh5.2.1 115 (by decide)).trans ((eh4.2.1 115 (by decide)).trans eh3.1)) rfl ?_
                  refine xi_iload_n (pc' := 46) (x := 1) kc_15_45 rfl rfl ?_
                  refine xi_iload_n (pc' := 47) (x := 1) kc_15_46 rfl rfl ?_
                  refine xi_iconst (pc' := 48) (v := 2) kc_15_47 rfl rfl ?_
                  refine xi_cmt (pc' := 55) kc_15_48 rfl rfl ?_
                  refine xi_aload_n (pc' := 56) (x := 115) kc_15_55 rfl rfl ?_
                  refine xi_getfield (pc' := 59) (v := .ref 118) kc_15_56 rfl rfl rfl ((eh5.2.1 115 (by decide)).trans ((eh4.2.1 115 (by decide)).trans eh3.1)) rfl ?_
                  refine xi_iload_n (pc' := 60) (x := 1) kc_15_59 rfl rfl ?_
                  refine xi_iaload (pc' := 61) (v := 10) kc_15_60 rfl ((eh5.2.1 118 (by decide)).trans ((eh4.2.1 118 (by decide)).trans ((eh3.2.1 118 (by decide)).trans ((eh2.2.1 118 (by decide)).trans ((eh1.2.1 118 (by decide)).trans (F 118 _ hl_118)))))) (by decide) rfl (xi_in (n := 6) (by decide) (by decide)) rfl ?_
                  refine xi_iastore (pc' := 62) (x' := [10, 10, 10, 10, 10, 10]) kc_15_61 rfl ((eh5.2.1 118 (by decide)).trans ((eh4.2.1 118 (by decide)).trans ((eh3.2.1 118 (by decide)).trans ((eh2.2.1 118 (by decide)).trans ((eh1.2.1 118 (by decide)).trans (F 118 _ hl_118)))))) rfl (xi_in (n := 6) (by decide) (by decide)) rfl (fun hh6 eh6 => ?_)
                  refine xi_aload_n (pc' := 63) (x := 115) kc_15_62 rfl rfl ?_
                  refine xi_getfield (pc' := 66) (v := .ref 119) kc_15_63 rfl rfl rfl ((eh6.2.1 115 (by decide)).trans ((eh5.2.1 115 (by decide)).trans ((eh4.2.1 115 (by decide)).trans eh3.1))) rfl ?_
                  refine xi_iload_n (pc' := 67) (x := 1) kc_15_66 rfl rfl ?_
                  refine xi_iload_n (pc' := 68) (x := 1) kc_15_67 rfl rfl ?_
                  refine xi_iconst (pc' := 69) (v := 3) kc_15_68 rfl rfl ?_
                  refine xi_cmt (pc' := 76) kc_15_69 rfl rfl ?_
                  refine xi_aload_n (pc' := 77) (x := 115) kc_15_76 rfl rfl ?_
                  refine xi_getfield (pc' := 80) (v := .ref 119) kc_15_77 rfl rfl rfl ((eh6.2.1 115 (by decide)).trans ((eh5.2.1 115 (by decide)).trans ((eh4.2.1 115 (by decide)).trans eh3.1))) rfl ?_
                  refine xi_iload_n (pc' := 81) (x := 1) kc_15_80 rfl rfl ?_
                  refine xi_iaload (pc' := 82) (v := 0) kc_15_81 rfl ((eh6.2.1 119 (by decide)).trans ((eh5.2.1 119 (by decide)).trans ((eh4.2.1 119 (by decide)).trans ((eh3.2.1 119 (by decide)).trans ((eh2.2.1 119 (by decide)).trans ((eh1.2.1 119 (by decide)).trans (F 119 _ hl_119))))))) (by decide) rfl (xi_in (n := 6) (by decide) (by decide)) rfl ?_
                  refine xi_iastore (pc' := 83) (x' := [0, 0, 0, 0, 0, 0]) kc_15_82 rfl ((eh6.2.1 119 (by decide)).trans ((eh5.2.1 119 (by decide)).trans ((eh4.2.1 119 (by decide)).trans ((eh3.2.1 119 (by decide)).trans ((eh2.2.1 119 (by decide)).trans ((eh1.2.1 119 (by decide)).trans (F 119 _ hl_119))))))) rfl (xi_in (n := 6) (by decide) (by decide)) rfl (fun hh7 eh7 => ?_)
                  refine xi_aload_n (pc' := 84) (x := 115) kc_15_83 rfl rfl ?_
                  refine xi_getfield (pc' := 87) (v := .ref 120) kc_15_84 rfl rfl rfl ((eh7.2.1 115 (by decide)).trans ((eh6.2.1 115 (by decide)).trans ((eh5.2.1 115 (by decide)).trans ((eh4.2.1 115 (by decide)).trans eh3.1)))) rfl ?_
                  refine xi_iload_n (pc' := 88) (x := 1) kc_15_87 rfl rfl ?_
                  refine xi_iload_n (pc' := 89) (x := 1) kc_15_88 rfl rfl ?_
                  refine xi_iconst (pc' := 90) (v := 4) kc_15_89 rfl rfl ?_
                  refine xi_cmt (pc' := 97) kc_15_90 rfl rfl ?_
                  refine xi_aload_n (pc' := 98) (x := 115) kc_15_97 rfl rfl ?_
                  refine xi_getfield (pc' := 101) (v := .ref 120) kc_15_98 rfl rfl rfl ((eh7.2.1 115 (by decide)).trans ((eh6.2.1 115 (by decide)).trans ((eh5.2.1 115 (by decide)).trans ((eh4.2.1 115 (by decide)).trans eh3.1)))) rfl ?_
                  refine xi_iload_n (pc' := 102) (x := 1) kc_15_101 rfl rfl ?_
                  refine xi_iaload (pc' := 103) (v := 0) kc_15_102 rfl ((eh7.2.1 120 (by decide)).trans ((eh6.2.1 120 (by decide)).trans ((eh5.2.1 120 (by decide)).trans ((eh4.2.1 120 (by decide)).trans ((eh3.2.1 120 (by decide)).trans ((eh2.2.1 120 (by decide)).trans ((eh1.2.1 120 (by decide)).trans (F 120 _ hl_120)))))))) (by decide) rfl (xi_in (n := 6) (by decide) (by decide)) rfl ?_
                  refine xi_iastore (pc' := 104) (x' := [0, 0, 0, 0, 0, 0]) kc_15_103 rfl ((eh7.2.1 120 (by decide)).trans ((eh6.2.1 120 (by decide)).trans ((eh5.2.1 120 (by decide)).trans ((eh4.2.1 120 (by decide)).trans ((eh3.2.1 120 (by decide)).trans ((eh2.2.1 120 (by decide)).trans ((eh1.2.1 120 (by decide)).trans (F 120 _ hl_120)))))))) rfl (xi_in (n := 6) (by decide) (by decide)) rfl (fun hh8 eh8 => ?_)
                  refine xi_aload_n (pc' := 105) (x := 115) kc_15_104 rfl rfl ?_
                  refine xi_getfield (pc' := 108) (v := .ref 121) kc_15_105 rfl rfl rfl ((eh8.2.1 115 (by decide)).trans ((eh7.2.1 115 (by decide)).trans ((eh6.2.1 115 (by decide)).trans ((eh5.2.1 115 (by decide)).trans ((eh4.2.1 115 (by decide)).trans eh3.1))))) rfl ?_
                  refine xi_iload_n (pc' := 109) (x := 1) kc_15_108 rfl rfl ?_
                  refine xi_iload_n (pc' := 110) (x := 1) kc_15_109 rfl rfl ?_
                  refine xi_iconst (pc' := 111) (v := 5) kc_15_110 rfl rfl ?_
                  refine xi_cmt (pc' := 118) kc_15_111 rfl rfl ?_
                  refine xi_aload_n (pc' := 119) (x := 115) kc_15_118 rfl rfl ?_
                  refine xi_getfield (pc' := 122) (v := .ref 121) kc_15_119 rfl rfl rfl ((eh8.2.1 115 (by decide)).trans ((eh7.2.1 115 (by decide)).trans ((eh6.2.1 115 (by decide)).trans ((eh5.2.1 115 (by decide)).trans ((eh4.2.1 115 (by decide)).trans eh3.1))))) rfl ?_
                  refine xi_iload_n (pc' := 123) (x := 1) kc_15_122 rfl rfl ?_
                  refine xi_iaload (pc' := 124) (v := 0) kc_15_123 rfl ((eh8.2.1 121 (by decide)).trans ((eh7.2.1 121 (by decide)).trans ((eh6.2.1 121 (by decide)).trans ((eh5.2.1 121 (by decide)).trans ((eh4.2.1 121 (by decide)).trans ((eh3.2.1 121 (by decide)).trans ((eh2.2.1 121 (by decide)).trans ((eh1.2.1 121 (by decide)).trans (F 121 _ hl_121))))))))) (by decide) rfl (xi_in (n := 6) (by decide) (by decide)) rfl ?_
                  refine xi_iastore (pc' := 125) (x' := [0, 0, 0, 0, 0, 0]) kc_15_124 rfl ((eh8.2.1 121 (by decide)).trans ((eh7.2.1 121 (by decide)).trans ((eh6.2.1 121 (by decide)).trans ((eh5.2.1 121 (by decide)).trans ((eh4.2.1 121 (by decide)).trans ((eh3.2.1 121 (by decide)).trans ((eh2.2.1 121 (by decide)).trans ((eh1.2.1 121 (by decide)).trans (F 121 _ hl_121))))))))) rfl (xi_in (n := 6) (by decide) (by decide)) rfl (fun hh9 eh9 => ?_)
                  refine xi_aload_n (pc' := 126) (x := 115) kc_15_125 rfl rfl ?_
                  refine xi_iconst (pc' := 127) (v := 0) kc_15_126 rfl rfl ?_
                  refine xi_putfield (pc' := 130) (fs' := [.int 0, .int 0, .ref 116, .ref 117, .ref 118, .ref 119, .ref 120, .ref 121, .ref 122, .ref 123, .ref 124, .ref 125, .ref 126, .ref 127, .ref 128, .ref 129, .int 4, .ref 130, .int 0, .ref 131, .ref 132, .ref 133, .ref 134, .int 0, .ref 135, .ref 136, .ref 137, .ref 138, .ref 139, .ref 140, .ref 141, .ref 142, .int 0, .int 0, .int 0, .ref 143, .ref 144, .ref 145, .ref 146, .ref 147, .ref 148, .int 0, .ref 149, .ref 150, .ref 151, .int 0, .ref 152, .ref 153, .ref 154, .ref 155, .ref 156, .ref 157, .ref 158, .ref 159, .int 0, .ref 160, .int 0, .ref 161, .ref 162, .ref 163, .ref 164, .int 0, .ref 165, .ref 166]) kc_15_127 rfl rfl rfl ((eh9.2.1 115 (by decide)).trans ((eh8.2.1 115 (by decide)).trans ((eh7.2.1 115 (by decide)).trans ((eh6.2.1 115 (by decide)).trans ((eh5.2.1 115 (by decide)).trans ((eh4.2.1 115 (by decide)).trans eh3.1)))))) rfl rfl rfl (Nat.le_of_ble_eq_true rfl) rfl (fun hh10 eh10 => ?_)
                  refine xi_return kc_15_130 mr_15 ?_
                  show xw J ov 99 10 (121, [(4, .int 18), (0, .ref 115), (1, .int 1), (2, .int 1), (3, .int a3)], [], hh10) _
                  refine xi_iload (pc' := 123) (x := 18) kc_10_121 rfl rfl ?_
                  refine xi_ireturn kc_10_123 mr_10 rfl ?_
                  show xw J ov 100 196 (236, [(4, .int 0), (3, .ref 167), (2, .ref 115), (1, .ref 0), (0, .ref 1000000)], [.int 18, .int 18], hh10) _
                  refine xi_cmt (pc' := 1528) kc_196_236 rfl rfl ?_
                  refine xi_iinc (pc' := 1531) (x := 0) (v := 6) (lv' := [(4, .int 6), (3, .ref 167), (2, .ref 115), (1, .ref 0), (0, .ref 1000000)]) kc_196_1528 rfl rfl rfl rfl (xm_lt ml_196 rfl) ?_
                  refine xi_goto (pc' := 23) kc_196_1531 rfl ?_
                  refine xi_iload (pc' := 25) (x := 6) kc_196_23 rfl rfl ?_
                  refine xi_aload_n (pc' := 26) (x := 1000000) kc_196_25 rfl rfl ?_
                  refine xi_arraylength (pc' := 27) (n := 6) (v := 6) kc_196_26 rfl (xl_lenO (by decide) hov0 rfl) rfl ?_
                  refine xi_bipush (pc' := 29) (v := 6) kc_196_27 rfl rfl ?_
                  refine xi_isub (pc' := 30) (v := 0) kc_196_29 rfl rfl ?_
                  refine xi_cmt (pc' := 1534) kc_196_30 rfl rfl ?_
                  refine xi_iconst (pc' := 1535) (v := 1) kc_196_1534 rfl rfl ?_
                  refine xi_ireturn kc_196_1535 mr_196 rfl ?_
                  refine ⟨rfl, ?_, ?_⟩
                  · rw [eh10.2.2.1, eh9.2.2.1, eh8.2.2.1, eh7.2.2.1, eh6.2.2.1, eh5.2.2.1, eh4.2.2.1, eh3.2.2.1, eh2.2.2.1, eh1.2.2.1]; exact hn0
                  · rw [eh10.2.2.2, eh9.2.2.2, eh8.2.2.2, eh7.2.2.2, eh6.2.2.2, eh5.2.2.2, eh4.2.2.2, eh3.2.2.2, eh2.2.2.2, eh1.2.2.2]; exact hz0
                by_cases c18 : a1.toInt = 2
                · have qa1 : a1 = 2 := xc_of (Eq.trans (by omega) (show (2 : Int) = (2 : Int32).toInt by decide))
                  subst qa1
                  refine xi_aaload (pc' := 13) (b := 17) kc_93_12 rfl ((eh1.2.1 2 (by decide)).trans (F 2 _ hl_2)) rfl (xi_in (n := 6) (by decide) (by decide)) rfl ?_
                  refine xi_iload_n (pc' := 14) (x := 1) kc_93_13 rfl rfl ?_
                  refine xi_iload_n (pc' := 15) (x := a3) kc_93_14 rfl rfl ?_
                  refine xi_virtual (mj := 94) (as := [.int 1, .int a3]) (st1 := []) (lv0 := [(0, .ref 17), (1, .int 1), (2, .int a3)]) kc_93_15 rfl rfl rfl rfl rfl ((eh1.2.1 17 (by decide)).trans (F 17 _ hl_17)) (Nat.le_of_ble_eq_true rfl) (hJ _ _ _ _ (by decide)) (xm_le ml_94 rfl) rfl ?_
                  refine xi_iload_n (pc' := 1) (x := 1) kc_94_0 rfl rfl ?_
                  refine xi_iff (pc' := 4) kc_94_1 rfl rfl ?_
                  refine xi_iload_n (pc' := 5) (x := 1) kc_94_4 rfl rfl ?_
                  refine xi_iconst (pc' := 6) (v := 5) kc_94_5 rfl rfl ?_
                  refine xi_cmt (pc' := 11) kc_94_6 rfl rfl ?_
                  refine xi_aload_n (pc' := 12) (x := 17) kc_94_11 rfl rfl ?_
                  refine xi_getfield (pc' := 15) (v := .ref 18) kc_94_12 rfl rfl rfl ((eh1.2.1 17 (by decide)).trans (F 17 _ hl_17)) rfl ?_
                  refine xi_iload_n (pc' := 16) (x := 1) kc_94_15 rfl rfl ?_
                  refine xi_iaload (pc' := 17) (v := 18) kc_94_16 rfl ((eh1.2.1 18 (by decide)).trans (F 18 _ hl_18)) (by decide) rfl (xi_in (n := 5) (by decide) (by decide)) rfl ?_
                  refine xi_istore_n (pc' := 18) (lv' := [(3, .int 18), (0, .ref 17), (1, .int 1), (2, .int a3)]) kc_94_17 rfl rfl (xm_lt ml_94 rfl) ?_
                  refine xi_aload_n (pc' := 19) (x := 17) kc_94_18 rfl rfl ?_
                  refine xi_getfield (pc' := 22) (v := .ref 18) kc_94_19 rfl rfl rfl ((eh1.2.1 17 (by decide)).trans (F 17 _ hl_17)) rfl ?_
                  refine xi_iload_n (pc' := 23) (x := 1) kc_94_22 rfl rfl ?_
                  refine xi_iload_n (pc' := 24) (x := a3) kc_94_23 rfl rfl ?_
                  refine xi_iastore (pc' := 25) (x' := [40, a3, 10, 0, 0]) kc_94_24 rfl ((eh1.2.1 18 (by decide)).trans (F 18 _ hl_18)) rfl (xi_in (n := 5) (by decide) (by decide)) rfl (fun hh2 eh2 => ?_)
                  refine xi_iload_n (pc' := 26) (x := 18) kc_94_25 rfl rfl ?_
                  refine xi_ireturn kc_94_26 mr_94 rfl ?_
                  show xw J ov 98 93 (18, [(0, .ref 1), (1, .int 2), (2, .int 1), (3, .int a3)], [.int 18], hh2) _
                  refine xi_goto (pc' := 22) kc_93_18 rfl ?_
                  refine xi_ireturn kc_93_22 mr_93 rfl ?_
                  show xw J ov 99 89 (107, [(0, .ref 0), (1, .int 2), (2, .int 1), (3, .int a3)], [.int 18], hh2) _
                  refine xi_ireturn kc_89_107 mr_89 rfl ?_
                  show xw J ov 100 196 (214, [(4, .int 0), (3, .ref 167), (2, .ref 115), (1, .ref 0), (0, .ref 1000000)], [.int 18], hh2) _
                  refine xi_aload_n (pc' := 215) (x := 115) kc_196_214 rfl rfl ?_
                  refine xi_aload_n (pc' := 216) (x := 1000000) kc_196_215 rfl rfl ?_
                  refine xi_iload (pc' := 218) (x := 0) kc_196_216 rfl rfl ?_
                  refine xi_iconst (pc' := 219) (v := 1) kc_196_218 rfl rfl ?_
                  refine xi_iadd (pc' := 220) (v := 1) kc_196_219 rfl rfl ?_
                  refine xi_ialoadO (pc' := 221) (v := 2) kc_196_220 rfl (by decide) hov0 (xi_in (n := 6) (by decide) (by decide)) rfl ?_
                  refine xi_aload_n (pc' := 222) (x := 1000000) kc_196_221 rfl rfl ?_
                  refine xi_iload (pc' := 224) (x := 0) kc_196_222 rfl rfl ?_
                  refine xi_iconst (pc' := 225) (v := 2) kc_196_224 rfl rfl ?_
                  refine xi_iadd (pc' := 226) (v := 2) kc_196_225 rfl rfl ?_
                  refine xi_ialoadO (pc' := 227) (v := 1) kc_196_226 rfl (by decide) hov0 (xi_in (n := 6) (by decide) (by decide)) rfl ?_
                  refine xi_aload_n (pc' := 228) (x := 1000000) kc_196_227 rfl rfl ?_
                  refine xi_iload (pc' := 230) (x := 0) kc_196_228 rfl rfl ?_
                  refine xi_iconst (pc' := 231) (v := 3) kc_196_230 rfl rfl ?_
                  refine xi_iadd (pc' := 232) (v := 3) kc_196_231 rfl rfl ?_
                  refine xi_ialoadO (pc' := 233) (v := a3) kc_196_232 rfl (by decide) hov0 (xi_in (n := 6) (by decide) (by decide)) rfl ?_
                  refine xi_virtual (mj := 10) (as := [.int 2, .int 1, .int a3]) (st1 := [.int 18]) (lv0 := [(0, .ref 115), (1, .int 2), (2, .int 1), (3, .int a3)]) kc_196_233 rfl rfl rfl rfl rfl ((eh2.2.1 115 (by decide)).trans ((eh1.2.1 115 (by decide)).trans (F 115 _ hl_115))) (Nat.le_of_ble_eq_true rfl) (hJ _ _ _ _ (by decide)) (xm_le ml_10 rfl) rfl ?_
                  refine xi_aload_n (pc' := 1) (x := 115) kc_10_0 rfl rfl ?_
                  refine xi_iconst (pc' := 2) (v := 0) kc_10_1 rfl rfl ?_
                  refine xi_putfield (pc' := 5) (fs' := [.int 0, .int 0, .ref 116, .ref 117, .ref 118, .ref 119, .ref 120, .ref 121, .ref 122, .ref 123, .ref 124, .ref 125, .ref 126, .ref 127, .ref 128, .ref 129, .int 4, .ref 130, .int 0, .ref 131, .ref 132, .ref 133, .ref 134, .int 0, .ref 135, .ref 136, .ref 137, .ref 138, .ref 139, .ref 140, .ref 141, .ref 142, .int 0, .int 0, .int 0, .ref 143, .ref 144, .ref 145, .ref 146, .ref 147, .ref 148, .int 0, .ref 149, .ref 150, .ref 151, .int 0, .ref 152, .ref 153, .ref 154, .ref 155, .ref 156, .ref 157, .ref 158, .ref 159, .int 0, .ref 160, .int 0, .ref 161, .ref 162, .ref 163, .ref 164, .int 0, .ref 165, .ref 166]) kc_10_2 rfl rfl rfl ((eh2.2.1 115 (by decide)).trans ((eh1.2.1 115 (by decide)).trans (F 115 _ hl_115))) rfl rfl rfl (Nat.le_of_ble_eq_true rfl) rfl (fun hh3 eh3 => ?_)
                  refine xi_iload_n (pc' := 6) (x := 2) kc_10_5 rfl rfl ?_
                  refine xi_static (mj := 11) (as := [.int 2]) (st1 := []) (lv0 := [(0, .int 2)]) kc_10_6 rfl rfl (Nat.le_of_ble_eq_true rfl) rfl rfl (Nat.le_of_ble_eq_true rfl) (hJ _ _ _ _ (by decide)) (xm_le ml_11 rfl) rfl ?_
                  refine xi_iload_n (pc' := 1) (x := 2) kc_11_0 rfl rfl ?_
                  refine xi_iconst (pc' := 2) (v := 0) kc_11_1 rfl rfl ?_
                  refine xi_iconst (pc' := 3) (v := 5) kc_11_2 rfl rfl ?_
                  refine xi_static (mj := 12) (as := [.int 2, .int 0, .int 5]) (st1 := []) (lv0 := [(0, .int 2), (1, .int 0), (2, .int 5)]) kc_11_3 rfl rfl (Nat.le_of_ble_eq_true rfl) rfl rfl (Nat.le_of_ble_eq_true rfl) (hJ _ _ _ _ (by decide)) (xm_le ml_12 rfl) rfl ?_
                  refine xi_iload_n (pc' := 1) (x := 2) kc_12_0 rfl rfl ?_
                  refine xi_iload_n (pc' := 2) (x := 0) kc_12_1 rfl rfl ?_
                  refine xi_cmf (pc' := 5) kc_12_2 rfl rfl ?_
                  refine xi_iload_n (pc' := 6) (x := 2) kc_12_5 rfl rfl ?_
                  refine xi_iload_n (pc' := 7) (x := 5) kc_12_6 rfl rfl ?_
                  refine xi_cmf (pc' := 10) kc_12_7 rfl rfl ?_
                  refine xi_iconst (pc' := 11) (v := 1) kc_12_10 rfl rfl ?_
                  refine xi_goto (pc' := 15) kc_12_11 rfl ?_
                  refine xi_ireturn kc_12_15 mr_12 rfl ?_
                  show xw J ov 98 11 (6, [(0, .int 2)], [.int 1], hh3) _
                  refine xi_ireturn kc_11_6 mr_11 rfl ?_
                  show xw J ov 99 10 (9, [(0, .ref 115), (1, .int 2), (2, .int 1), (3, .int a3)], [.int 1], hh3) _
                  refine xi_ift (pc' := 18) kc_10_9 rfl rfl ?_
                  refine xi_iload_n (pc' := 19) (x := 1) kc_10_18 rfl rfl ?_
                  refine xi_iconst (pc' := 20) (v := 0) kc_10_19 rfl rfl ?_
                  refine xi_iconst (pc' := 21) (v := 5) kc_10_20 rfl rfl ?_
                  refine xi_static (mj := 12) (as := [.int 1, .int 0, .int 5]) (st1 := []) (lv0 := [(0, .int 1), (1, .int 0), (2, .int 5)]) kc_10_21 rfl rfl (Nat.le_of_ble_eq_true rfl) rfl rfl (Nat.le_of_ble_eq_true rfl) (hJ _ _ _ _ (by decide)) (xm_le ml_12 rfl) rfl ?_
                  refine xi_iload_n (pc' := 1) (x := 1) kc_12_0 rfl rfl ?_
                  refine xi_iload_n (pc' := 2) (x := 0) kc_12_1 rfl rfl ?_
                  refine xi_cmf (pc' := 5) kc_12_2 rfl rfl ?_
                  refine xi_iload_n (pc' := 6) (x := 1) kc_12_5 rfl rfl ?_
                  refine xi_iload_n (pc' := 7) (x := 5) kc_12_6 rfl rfl ?_
                  refine xi_cmf (pc' := 10) kc_12_7 rfl rfl ?_
                  refine xi_iconst (pc' := 11) (v := 1) kc_12_10 rfl rfl ?_
                  refine xi_goto (pc' := 15) kc_12_11 rfl ?_
                  refine xi_ireturn kc_12_15 mr_12 rfl ?_
                  show xw J ov 99 10 (24, [(0, .ref 115), (1, .int 2), (2, .int 1), (3, .int a3)], [.int 1], hh3) _
                  refine xi_ift (pc' := 34) kc_10_24 rfl rfl ?_
                  refine xi_iload_n (pc' := 35) (x := a3) kc_10_34 rfl rfl ?_
                  refine xi_iload_n (pc' := 36) (x := 1) kc_10_35 rfl rfl ?_
                  refine xi_ift (pc' := 44) kc_10_36 rfl rfl ?_
                  refine xi_iconst (pc' := 45) (v := 0) kc_10_44 rfl rfl ?_
                  refine xi_cmt (pc' := 55) kc_10_45 rfl (xc_ge_t (X := a3.toInt) (Y := 0) rfl (by decide) (by omega)) ?_
                  refine xi_iload_n (pc' := 56) (x := a3) kc_10_55 rfl rfl ?_
                  refine xi_iload_n (pc' := 57) (x := 1) kc_10_56 rfl rfl ?_
                  refine xi_ift (pc' := 65) kc_10_57 rfl rfl ?_
                  refine xi_iload_n (pc' := 66) (x := 1) kc_10_65 rfl rfl ?_
                  refine xi_iconst (pc' := 67) (v := 1) kc_10_66 rfl rfl ?_
                  refine xi_cmf (pc' := 70) kc_10_67 rfl rfl ?_
                  refine xi_bipush (pc' := 72) (v := 30) kc_10_70 rfl rfl ?_
                  refine xi_goto (pc' := 96) kc_10_72 rfl ?_
                  refine xi_cmt (pc' := 106) kc_10_96 rfl (xc_le_t (X := a3.toInt) (Y := 30) rfl (by decide) (by omega)) ?_
                  refine xi_aload_n (pc' := 107) (x := 115) kc_10_106 rfl rfl ?_
                  refine xi_iload_n (pc' := 108) (x := 2) kc_10_107 rfl rfl ?_
                  refine xi_iload_n (pc' := 109) (x := 1) kc_10_108 rfl rfl ?_
                  refine xi_virtual (mj := 14) (as := [.int 2, .int 1]) (st1 := []) (lv0 := [(0, .ref 115), (1, .int 2), (2, .int 1)]) kc_10_109 rfl rfl rfl rfl rfl eh3.1 (Nat.le_of_ble_eq_true rfl) (hJ _ _ _ _ (by decide)) (xm_le ml_14 rfl) rfl ?_
                  refine xi_iload_n (pc' := 1) (x := 1) kc_14_0 rfl rfl ?_
                  refine xi_tsi (pc' := 43) (z := 1) kc_14_1 (rfl) rfl (by decide) ?_
                  refine xi_aload_n (pc' := 44) (x := 115) kc_14_43 rfl rfl ?_
                  refine xi_getfield (pc' := 47) (v := .ref 117) kc_14_44 rfl rfl rfl eh3.1 rfl ?_
                  refine xi_iload_n (pc' := 48) (x := 2) kc_14_47 rfl rfl ?_
                  refine xi_iaload (pc' := 49) (v := 18) kc_14_48 rfl ((eh3.2.1 117 (by decide)).trans ((eh2.2.1 117 (by decide)).trans ((eh1.2.1 117 (by decide)).trans (F 117 _ hl_117)))) (by decide) rfl (xi_in (n := 6) (by decide) (by decide)) rfl ?_
                  refine xi_ireturn kc_14_49 mr_14 rfl ?_
                  show xw J ov 99 10 (112, [(0, .ref 115), (1, .int 2), (2, .int 1), (3, .int a3)], [.int 18], hh3) _
                  refine xi_istore (pc' := 114) (lv' := [(4, .int 18), (0, .ref 115), (1, .int 2), (2, .int 1), (3, .int a3)]) kc_10_112 rfl rfl (xm_lt ml_10 rfl) ?_
                  refine xi_aload_n (pc' := 115) (x := 115) kc_10_114 rfl rfl ?_
                  refine xi_iload_n (pc' := 116) (x := 2) kc_10_115 rfl rfl ?_
                  refine xi_iload_n (pc' := 117) (x := 1) kc_10_116 rfl rfl ?_
                  refine xi_iload_n (pc' := 118) (x := a3) kc_10_117 rfl rfl ?_
                  refine xi_virtual (mj := 15) (as := [.int 2, .int 1, .int a3]) (st1 := []) (lv0 := [(0, .ref 115), (1, .int 2), (2, .int 1), (3, .int a3)]) kc_10_118 rfl rfl rfl rfl rfl eh3.1 (Nat.le_of_ble_eq_true rfl) (hJ _ _ _ _ (by decide)) (xm_le ml_15 rfl) rfl ?_
                  refine xi_aload_n (pc' := 1) (x := 115) kc_15_0 rfl rfl ?_
                  refine xi_getfield (pc' := 4) (v := .ref 116) kc_15_1 rfl rfl rfl eh3.1 rfl ?_
                  refine xi_iload_n (pc' := 5) (x := 2) kc_15_4 rfl rfl ?_
                  refine xi_iload_n (pc' := 6) (x := 1) kc_15_5 rfl rfl ?_
                  refine xi_ift (pc' := 13) kc_15_6 rfl rfl ?_
                  refine xi_aload_n (pc' := 14) (x := 115) kc_15_13 rfl rfl ?_
                  refine xi_getfield (pc' := 17) (v := .ref 116) kc_15_14 rfl rfl rfl eh3.1 rfl ?_
                  refine xi_iload_n (pc' := 18) (x := 2) kc_15_17 rfl rfl ?_
                  refine xi_iaload (pc' := 19) (v := 40) kc_15_18 rfl ((eh3.2.1 116 (by decide)).trans ((eh2.2.1 116 (by decide)).trans ((eh1.2.1 116 (by decide)).trans (F 116 _ hl_116)))) (by decide) rfl (xi_in (n := 6) (by decide) (by decide)) rfl ?_
                  refine xi_iastore (pc' := 20) (x' := [40, 40, 40, 40, 40, 40]) kc_15_19 rfl ((eh3.2.1 116 (by decide)).trans ((eh2.2.1 116 (by decide)).trans ((eh1.2.1 116 (by decide)).trans (F 116 _ hl_116)))) rfl (xi_in (n := 6) (by decide) (by decide)) rfl (fun hh4 eh4 => ?_)
                  refine xi_aload_n (pc' := 21) (x := 115) kc_15_20 rfl rfl ?_
                  refine xi_getfield (pc' := 24) (v := .ref 117) kc_15_21 rfl rfl rfl ((eh4.2.1 115 (by decide)).trans eh3.1) rfl ?_
                  refine xi_iload_n (pc' := 25) (x := 2) kc_15_24 rfl rfl ?_
                  refine xi_iload_n (pc' := 26) (x := 1) kc_15_25 rfl rfl ?_
                  refine xi_iconst (pc' := 27) (v := 1) kc_15_26 rfl rfl ?_
                  refine xi_cmf (pc' := 30) kc_15_27 rfl rfl ?_
                  refine xi_iload_n (pc' := 31) (x := a3) kc_15_30 rfl rfl ?_
                  refine xi_goto (pc' := 40) kc_15_31 rfl ?_
                  refine xi_iastore (pc' := 41) (x' := [18, 18, a3, 18, 18, 18]) kc_15_40 rfl ((eh4.2.1 117 (by decide)).trans ((eh3.2.1 117 (by decide)).trans ((eh2.2.1 117 (by decide)).trans ((eh1.2.1 117 (by decide)).trans (F 117 _ hl_117))))) rfl (xi_in (n := 6) (by decide) (by decide)) rfl (fun hh5 eh5 => ?_)
                  refine xi_aload_n (pc' := 42) (x := 115) kc_15_41 rfl rfl ?_
                  refine xi_getfield (pc' := 45) (v := .ref 118) kc_15_42 rfl rfl rfl ((eh5.2.1 115 (by decide)).trans ((eh4.2.1 115 (by decide)).trans eh3.1)) rfl ?_
                  refine xi_iload_n (pc' := 46) (x := 2) kc_15_45 rfl rfl ?_
                  refine xi_iload_n (pc' := 47) (x := 1) kc_15_46 rfl rfl ?_
                  refine xi_iconst (pc' := 48) (v := 2) kc_15_47 rfl rfl ?_
                  refine xi_cmt (pc' := 55) kc_15_48 rfl rfl ?_
                  refine xi_aload_n (pc' := 56) (x := 115) kc_15_55 rfl rfl ?_
                  refine xi_getfield (pc' := 59) (v := .ref 118) kc_15_56 rfl rfl rfl ((eh5.2.1 115 (by decide)).trans ((eh4.2.1 115 (by decide)).trans eh3.1)) rfl ?_
                  refine xi_iload_n (pc' := 60) (x := 2) kc_15_59 rfl rfl ?_
                  refine xi_iaload (pc' := 61) (v := 10) kc_15_60 rfl ((eh5.2.1 118 (by decide)).trans ((eh4.2.1 118 (by decide)).trans ((eh3.2.1 118 (by decide)).trans ((eh2.2.1 118 (by decide)).trans ((eh1.2.1 118 (by decide)).trans (F 118 _ hl_118)))))) (by decide) rfl (xi_in (n := 6) (by decide) (by decide)) rfl ?_
                  refine xi_iastore (pc' := 62) (x' := [10, 10, 10, 10, 10, 10]) kc_15_61 rfl ((eh5.2.1 118 (by decide)).trans ((eh4.2.1 118 (by decide)).trans ((eh3.2.1 118 (by decide)).trans ((eh2.2.1 118 (by decide)).trans ((eh1.2.1 118 (by decide)).trans (F 118 _ hl_118)))))) rfl (xi_in (n := 6) (by decide) (by decide)) rfl (fun hh6 eh6 => ?_)
                  refine xi_aload_n (pc' := 63) (x := 115) kc_15_62 rfl rfl ?_
                  refine xi_getfield (pc' := 66) (v := .ref 119) kc_15_63 rfl rfl rfl ((eh6.2.1 115 (by decide)).trans ((eh5.2.1 115 (by decide)).trans ((eh4.2.1 115 (by decide)).trans eh3.1))) rfl ?_
                  refine xi_iload_n (pc' := 67) (x := 2) kc_15_66 rfl rfl ?_
                  refine xi_iload_n (pc' := 68) (x := 1) kc_15_67 rfl rfl ?_
                  refine xi_iconst (pc' := 69) (v := 3) kc_15_68 rfl rfl ?_
                  refine xi_cmt (pc' := 76) kc_15_69 rfl rfl ?_
                  refine xi_aload_n (pc' := 77) (x := 115) kc_15_76 rfl rfl ?_
                  refine xi_getfield (pc' := 80) (v := .ref 119) kc_15_77 rfl rfl rfl ((eh6.2.1 115 (by decide)).trans ((eh5.2.1 115 (by decide)).trans ((eh4.2.1 115 (by decide)).trans eh3.1))) rfl ?_
                  refine xi_iload_n (pc' := 81) (x := 2) kc_15_80 rfl rfl ?_
                  refine xi_iaload (pc' := 82) (v := 0) kc_15_81 rfl ((eh6.2.1 119 (by decide)).trans ((eh5.2.1 119 (by decide)).trans ((eh4.2.1 119 (by decide)).trans ((eh3.2.1 119 (by decide)).trans ((eh2.2.1 119 (by decide)).trans ((eh1.2.1 119 (by decide)).trans (F 119 _ hl_119))))))) (by decide) rfl (xi_in (n := 6) (by decide) (by decide)) rfl ?_
                  refine xi_iastore (pc' := 83) (x' := [0, 0, 0, 0, 0, 0]) kc_15_82 rfl ((eh6.2.1 119 (by decide)).trans ((eh5.2.1 119 (by decide)).trans ((eh4.2.1 119 (by decide)).trans ((eh3.2.1 119 (by decide)).trans ((eh2.2.1 119 (by decide)).trans ((eh1.2.1 119 (by decide)).trans (F 119 _ hl_119))))))) rfl (xi_in (n := 6) (by decide) (by decide)) rfl (fun hh7 eh7 => ?_)
                  refine xi_aload_n (pc' := 84) (x := 115) kc_15_83 rfl rfl ?_
                  refine xi_getfield (pc' := 87) (v := .ref 120) kc_15_84 rfl rfl rfl ((eh7.2.1 115 (by decide)).trans ((eh6.2.1 115 (by decide)).trans ((eh5.2.1 115 (by decide)).trans ((eh4.2.1 115 (by decide)).trans eh3.1)))) rfl ?_
                  refine xi_iload_n (pc' := 88) (x := 2) kc_15_87 rfl rfl ?_
                  refine xi_iload_n (pc' := 89) (x := 1) kc_15_88 rfl rfl ?_
                  refine xi_iconst (pc' := 90) (v := 4) kc_15_89 rfl rfl ?_
                  refine xi_cmt (pc' := 97) kc_15_90 rfl rfl ?_
                  refine xi_aload_n (pc' := 98) (x := 115) kc_15_97 rfl rfl ?_
                  refine xi_getfield (pc' := 101) (v := .ref 120) kc_15_98 rfl rfl rfl ((eh7.2.1 115 (by decide)).trans ((eh6.2.1 115 (by decide)).trans ((eh5.2.1 115 (by decide)).trans ((eh4.2.1 115 (by decide)).trans eh3.1)))) rfl ?_
                  refine xi_iload_n (pc' := 102) (x := 2) kc_15_101 rfl rfl ?_
                  refine xi_iaload (pc' := 103) (v := 0) kc_15_102 rfl ((eh7.2.1 120 (by decide)).trans ((eh6.2.1 120 (by decide)).trans ((eh5.2.1 120 (by decide)).trans ((eh4.2.1 120 (by decide)).trans ((eh3.2.1 120 (by decide)).trans ((eh2.2.1 120 (by decide)).trans ((eh1.2.1 120 (by decide)).trans (F 120 _ hl_120)))))))) (by decide) rfl (xi_in (n := 6) (by decide) (by decide)) rfl ?_
                  refine xi_iastore (pc' := 104) (x' := [0, 0, 0, 0, 0, 0]) kc_15_103 rfl ((eh7.2.1 120 (by decide)).trans ((eh6.2.1 120 (by decide)).trans ((eh5.2.1 120 (by decide)).trans ((eh4.2.1 120 (by decide)).trans ((eh3.2.1 120 (by decide)).trans ((eh2.2.1 120 (by decide)).trans ((eh1.2.1 120 (by decide)).trans (F 120 _ hl_120)))))))) rfl (xi_in (n := 6) (by decide) (by decide)) rfl (fun hh8 eh8 => ?_)
                  refine xi_aload_n (pc' := 105) (x := 115) kc_15_104 rfl rfl ?_
                  refine xi_getfield (pc' := 108) (v := .ref 121) kc_15_105 rfl rfl rfl ((eh8.2.1 115 (by decide)).trans ((eh7.2.1 115 (by decide)).trans ((eh6.2.1 115 (by decide)).trans ((eh5.2.1 115 (by decide)).trans ((eh4.2.1 115 (by decide)).trans eh3.1))))) rfl ?_
                  refine xi_iload_n (pc' := 109) (x := 2) kc_15_108 rfl rfl ?_
                  refine xi_iload_n (pc' := 110) (x := 1) kc_15_109 rfl rfl ?_
                  refine xi_iconst (pc' := 111) (v := 5) kc_15_110 rfl rfl ?_
                  refine xi_cmt (pc' := 118) kc_15_111 rfl rfl ?_
                  refine xi_aload_n (pc' := 119) (x := 115) kc_15_118 rfl rfl ?_
                  refine xi_getfield (pc' := 122) (v := .ref 121) kc_15_119 rfl rfl rfl ((eh8.2.1 115 (by decide)).trans ((eh7.2.1 115 (by decide)).trans ((eh6.2.1 115 (by decide)).trans ((eh5.2.1 115 (by decide)).trans ((eh4.2.1 115 (by decide)).trans eh3.1))))) rfl ?_
                  refine xi_iload_n (pc' := 123) (x := 2) kc_15_122 rfl rfl ?_
                  refine xi_iaload (pc' := 124) (v := 0) kc_15_123 rfl ((eh8.2.1 121 (by decide)).trans ((eh7.2.1 121 (by decide)).trans ((eh6.2.1 121 (by decide)).trans ((eh5.2.1 121 (by decide)).trans ((eh4.2.1 121 (by decide)).trans ((eh3.2.1 121 (by decide)).trans ((eh2.2.1 121 (by decide)).trans ((eh1.2.1 121 (by decide)).trans (F 121 _ hl_121))))))))) (by decide) rfl (xi_in (n := 6) (by decide) (by decide)) rfl ?_
                  refine xi_iastore (pc' := 125) (x' := [0, 0, 0, 0, 0, 0]) kc_15_124 rfl ((eh8.2.1 121 (by decide)).trans ((eh7.2.1 121 (by decide)).trans ((eh6.2.1 121 (by decide)).trans ((eh5.2.1 121 (by decide)).trans ((eh4.2.1 121 (by decide)).trans ((eh3.2.1 121 (by decide)).trans ((eh2.2.1 121 (by decide)).trans ((eh1.2.1 121 (by decide)).trans (F 121 _ hl_121))))))))) rfl (xi_in (n := 6) (by decide) (by decide)) rfl (fun hh9 eh9 => ?_)
                  refine xi_aload_n (pc' := 126) (x := 115) kc_15_125 rfl rfl ?_
                  refine xi_iconst (pc' := 127) (v := 0) kc_15_126 rfl rfl ?_
                  refine xi_putfield (pc' := 130) (fs' := [.int 0, .int 0, .ref 116, .ref 117, .ref 118, .ref 119, .ref 120, .ref 121, .ref 122, .ref 123, .ref 124, .ref 125, .ref 126, .ref 127, .ref 128, .ref 129, .int 4, .ref 130, .int 0, .ref 131, .ref 132, .ref 133, .ref 134, .int 0, .ref 135, .ref 136, .ref 137, .ref 138, .ref 139, .ref 140, .ref 141, .ref 142, .int 0, .int 0, .int 0, .ref 143, .ref 144, .ref 145, .ref 146, .ref 147, .ref 148, .int 0, .ref 149, .ref 150, .ref 151, .int 0, .ref 152, .ref 153, .ref 154, .ref 155, .ref 156, .ref 157, .ref 158, .ref 159, .int 0, .ref 160, .int 0, .ref 161, .ref 162, .ref 163, .ref 164, .int 0, .ref 165, .ref 166]) kc_15_127 rfl rfl rfl ((eh9.2.1 115 (by decide)).trans ((eh8.2.1 115 (by decide)).trans ((eh7.2.1 115 (by decide)).trans ((eh6.2.1 115 (by decide)).trans ((eh5.2.1 115 (by decide)).trans ((eh4.2.1 115 (by decide)).trans eh3.1)))))) rfl rfl rfl (Nat.le_of_ble_eq_true rfl) rfl (fun hh10 eh10 => ?_)
                  refine xi_return kc_15_130 mr_15 ?_
                  show xw J ov 99 10 (121, [(4, .int 18), (0, .ref 115), (1, .int 2), (2, .int 1), (3, .int a3)], [], hh10) _
                  refine xi_iload (pc' := 123) (x := 18) kc_10_121 rfl rfl ?_
                  refine xi_ireturn kc_10_123 mr_10 rfl ?_
                  show xw J ov 100 196 (236, [(4, .int 0), (3, .ref 167), (2, .ref 115), (1, .ref 0), (0, .ref 1000000)], [.int 18, .int 18], hh10) _
                  refine xi_cmt (pc' := 1528) kc_196_236 rfl rfl ?_
                  refine xi_iinc (pc' := 1531) (x := 0) (v := 6) (lv' := [(4, .int 6), (3, .ref 167), (2, .ref 115), (1, .ref 0), (0, .ref 1000000)]) kc_196_1528 rfl rfl rfl rfl (xm_lt ml_196 rfl) ?_
                  refine xi_goto (pc' := 23) kc_196_1531 rfl ?_
                  refine xi_iload (pc' := 25) (x := 6) kc_196_23 rfl rfl ?_
                  refine xi_aload_n (pc' := 26) (x := 1000000) kc_196_25 rfl rfl ?_
                  refine xi_arraylength (pc' := 27) (n := 6) (v := 6) kc_196_26 rfl (xl_lenO (by decide) hov0 rfl) rfl ?_
                  refine xi_bipush (pc' := 29) (v := 6) kc_196_27 rfl rfl ?_
                  refine xi_isub (pc' := 30) (v := 0) kc_196_29 rfl rfl ?_
                  refine xi_cmt (pc' := 1534) kc_196_30 rfl rfl ?_
                  refine xi_iconst (pc' := 1535) (v := 1) kc_196_1534 rfl rfl ?_
                  refine xi_ireturn kc_196_1535 mr_196 rfl ?_
                  refine ⟨rfl, ?_, ?_⟩
                  · rw [eh10.2.2.1, eh9.2.2.1, eh8.2.2.1, eh7.2.2.1, eh6.2.2.1, eh5.2.2.1, eh4.2.2.1, eh3.2.2.1, eh2.2.2.1, eh1.2.2.1]; exact hn0
                  · rw [eh10.2.2.2, eh9.2.2.2, eh8.2.2.2, eh7.2.2.2, eh6.2.2.2, eh5.2.2.2, eh4.2.2.2, eh3.2.2.2, eh2.2.2.2, eh1.2.2.2]; exact hz0
                by_cases c19 : a1.toInt = 3
                · have qa1 : a1 = 3 := xc_of (Eq.trans (by omega) (show (3 : Int) = (3 : Int32).toInt by decide))
                  subst qa1
                  refine xi_aaload (pc' := 13) (b := 20) kc_93_12 rfl ((eh1.2.1 2 (by decide)).trans (F 2 _ hl_2)) rfl (xi_in (n := 6) (by decide) (by decide)) rfl ?_
                  refine xi_iload_n (pc' := 14) (x := 1) kc_93_13 rfl rfl ?_
                  refine xi_iload_n (pc' := 15) (x := a3) kc_93_14 rfl rfl ?_
                  refine xi_virtual (mj := 94) (as := [.int 1, .int a3]) (st1 := []) (lv0 := [(0, .ref 20), (1, .int 1), (2, .int a3)]) kc_93_15 rfl rfl rfl rfl rfl ((eh1.2.1 20 (by decide)).trans (F 20 _ hl_20)) (Nat.le_of_ble_eq_true rfl) (hJ _ _ _ _ (by decide)) (xm_le ml_94 rfl) rfl ?_
                  refine xi_iload_n (pc' := 1) (x := 1) kc_94_0 rfl rfl ?_
                  refine xi_iff (pc' := 4) kc_94_1 rfl rfl ?_
                  refine xi_iload_n (pc' := 5) (x := 1) kc_94_4 rfl rfl ?_
                  refine xi_iconst (pc' := 6) (v := 5) kc_94_5 rfl rfl ?_
                  refine xi_cmt (pc' := 11) kc_94_6 rfl rfl ?_
                  refine xi_aload_n (pc' := 12) (x := 20) kc_94_11 rfl rfl ?_
                  refine xi_getfield (pc' := 15) (v := .ref 21) kc_94_12 rfl rfl rfl ((eh1.2.1 20 (by decide)).trans (F 20 _ hl_20)) rfl ?_
                  refine xi_iload_n (pc' := 16) (x := 1) kc_94_15 rfl rfl ?_
                  refine xi_iaload (pc' := 17) (v := 18) kc_94_16 rfl ((eh1.2.1 21 (by decide)).trans (F 21 _ hl_21)) (by decide) rfl (xi_in (n := 5) (by decide) (by decide)) rfl ?_
                  refine xi_istore_n (pc' := 18) (lv' := [(3, .int 18), (0, .ref 20), (1, .int 1), (2, .int a3)]) kc_94_17 rfl rfl (xm_lt ml_94 rfl) ?_
                  refine xi_aload_n (pc' := 19) (x := 20) kc_94_18 rfl rfl ?_
                  refine xi_getfield (pc' := 22) (v := .ref 21) kc_94_19 rfl rfl rfl ((eh1.2.1 20 (by decide)).trans (F 20 _ hl_20)) rfl ?_
                  refine xi_iload_n (pc' := 23) (x := 1) kc_94_22 rfl rfl ?_
                  refine xi_iload_n (pc' := 24) (x := a3) kc_94_23 rfl rfl ?_
                  refine xi_iastore (pc' := 25) (x' := [40, a3, 10, 0, 0]) kc_94_24 rfl ((eh1.2.1 21 (by decide)).trans (F 21 _ hl_21)) rfl (xi_in (n := 5) (by decide) (by decide)) rfl (fun hh2 eh2 => ?_)
                  refine xi_iload_n (pc' := 26) (x := 18) kc_94_25 rfl rfl ?_
                  refine xi_ireturn kc_94_26 mr_94 rfl ?_
                  show xw J ov 98 93 (18, [(0, .ref 1), (1, .int 3), (2, .int 1), (3, .int a3)], [.int 18], hh2) _
                  refine xi_goto (pc' := 22) kc_93_18 rfl ?_
                  refine xi_ireturn kc_93_22 mr_93 rfl ?_
                  show xw J ov 99 89 (107, [(0, .ref 0), (1, .int 3), (2, .int 1), (3, .int a3)], [.int 18], hh2) _
                  refine xi_ireturn kc_89_107 mr_89 rfl ?_
                  show xw J ov 100 196 (214, [(4, .int 0), (3, .ref 167), (2, .ref 115), (1, .ref 0), (0, .ref 1000000)], [.int 18], hh2) _
                  refine xi_aload_n (pc' := 215) (x := 115) kc_196_214 rfl rfl ?_
                  refine xi_aload_n (pc' := 216) (x := 1000000) kc_196_215 rfl rfl ?_
                  refine xi_iload (pc' := 218) (x := 0) kc_196_216 rfl rfl ?_
                  refine xi_iconst (pc' := 219) (v := 1) kc_196_218 rfl rfl ?_
                  refine xi_iadd (pc' := 220) (v := 1) kc_196_219 rfl rfl ?_
                  refine xi_ialoadO (pc' := 221) (v := 3) kc_196_220 rfl (by decide) hov0 (xi_in (n := 6) (by decide) (by decide)) rfl ?_
                  refine xi_aload_n (pc' := 222) (x := 1000000) kc_196_221 rfl rfl ?_
                  refine xi_iload (pc' := 224) (x := 0) kc_196_222 rfl rfl ?_
                  refine xi_iconst (pc' := 225) (v := 2) kc_196_224 rfl rfl ?_
                  refine xi_iadd (pc' := 226) (v := 2) kc_196_225 rfl rfl ?_
                  refine xi_ialoadO (pc' := 227) (v := 1) kc_196_226 rfl (by decide) hov0 (xi_in (n := 6) (by decide) (by decide)) rfl ?_
                  refine xi_aload_n (pc' := 228) (x := 1000000) kc_196_227 rfl rfl ?_
                  refine xi_iload (pc' := 230) (x := 0) kc_196_228 rfl rfl ?_
                  refine xi_iconst (pc' := 231) (v := 3) kc_196_230 rfl rfl ?_
                  refine xi_iadd (pc' := 232) (v := 3) kc_196_231 rfl rfl ?_
                  refine xi_ialoadO (pc' := 233) (v := a3) kc_196_232 rfl (by decide) hov0 (xi_in (n := 6) (by decide) (by decide)) rfl ?_
                  refine xi_virtual (mj := 10) (as := [.int 3, .int 1, .int a3]) (st1 := [.int 18]) (lv0 := [(0, .ref 115), (1, .int 3), (2, .int 1), (3, .int a3)]) kc_196_233 rfl rfl rfl rfl rfl ((eh2.2.1 115 (by decide)).trans ((eh1.2.1 115 (by decide)).trans (F 115 _ hl_115))) (Nat.le_of_ble_eq_true rfl) (hJ _ _ _ _ (by decide)) (xm_le ml_10 rfl) rfl ?_
                  refine xi_aload_n (pc' := 1) (x := 115) kc_10_0 rfl rfl ?_
                  refine xi_iconst (pc' := 2) (v := 0) kc_10_1 rfl rfl ?_
                  refine xi_putfield (pc' := 5) (fs' := [.int 0, .int 0, .ref 116, .ref 117, .ref 118, .ref 119, .ref 120, .ref 121, .ref 122, .ref 123, .ref 124, .ref 125, .ref 126, .ref 127, .ref 128, .ref 129, .int 4, .ref 130, .int 0, .ref 131, .ref 132, .ref 133, .ref 134, .int 0, .ref 135, .ref 136, .ref 137, .ref 138, .ref 139, .ref 140, .ref 141, .ref 142, .int 0, .int 0, .int 0, .ref 143, .ref 144, .ref 145, .ref 146, .ref 147, .ref 148, .int 0, .ref 149, .ref 150, .ref 151, .int 0, .ref 152, .ref 153, .ref 154, .ref 155, .ref 156, .ref 157, .ref 158, .ref 159, .int 0, .ref 160, .int 0, .ref 161, .ref 162, .ref 163, .ref 164, .int 0, .ref 165, .ref 166]) kc_10_2 rfl rfl rfl ((eh2.2.1 115 (by decide)).trans ((eh1.2.1 115 (by decide)).trans (F 115 _ hl_115))) rfl rfl rfl (Nat.le_of_ble_eq_true rfl) rfl (fun hh3 eh3 => ?_)
                  refine xi_iload_n (pc' := 6) (x := 3) kc_10_5 rfl rfl ?_
                  refine xi_static (mj := 11) (as := [.int 3]) (st1 := []) (lv0 := [(0, .int 3)]) kc_10_6 rfl rfl (Nat.le_of_ble_eq_true rfl) rfl rfl (Nat.le_of_ble_eq_true rfl) (hJ _ _ _ _ (by decide)) (xm_le ml_11 rfl) rfl ?_
                  refine xi_iload_n (pc' := 1) (x := 3) kc_11_0 rfl rfl ?_
                  refine xi_iconst (pc' := 2) (v := 0) kc_11_1 rfl rfl ?_
                  refine xi_iconst (pc' := 3) (v := 5) kc_11_2 rfl rfl ?_
                  refine xi_static (mj := 12) (as := [.int 3, .int 0, .int 5]) (st1 := []) (lv0 := [(0, .int 3), (1, .int 0), (2, .int 5)]) kc_11_3 rfl rfl (Nat.le_of_ble_eq_true rfl) rfl rfl (Nat.le_of_ble_eq_true rfl) (hJ _ _ _ _ (by decide)) (xm_le ml_12 rfl) rfl ?_
                  refine xi_iload_n (pc' := 1) (x := 3) kc_12_0 rfl rfl ?_
                  refine xi_iload_n (pc' := 2) (x := 0) kc_12_1 rfl rfl ?_
                  refine xi_cmf (pc' := 5) kc_12_2 rfl rfl ?_
                  refine xi_iload_n (pc' := 6) (x := 3) kc_12_5 rfl rfl ?_
                  refine xi_iload_n (pc' := 7) (x := 5) kc_12_6 rfl rfl ?_
                  refine xi_cmf (pc' := 10) kc_12_7 rfl rfl ?_
                  refine xi_iconst (pc' := 11) (v := 1) kc_12_10 rfl rfl ?_
                  refine xi_goto (pc' := 15) kc_12_11 rfl ?_
                  refine xi_ireturn kc_12_15 mr_12 rfl ?_
                  show xw J ov 98 11 (6, [(0, .int 3)], [.int 1], hh3) _
                  refine xi_ireturn kc_11_6 mr_11 rfl ?_
                  show xw J ov 99 10 (9, [(0, .ref 115), (1, .int 3), (2, .int 1), (3, .int a3)], [.int 1], hh3) _
                  refine xi_ift (pc' := 18) kc_10_9 rfl rfl ?_
                  refine xi_iload_n (pc' := 19) (x := 1) kc_10_18 rfl rfl ?_
                  refine xi_iconst (pc' := 20) (v := 0) kc_10_19 rfl rfl ?_
                  refine xi_iconst (pc' := 21) (v := 5) kc_10_20 rfl rfl ?_
                  refine xi_static (mj := 12) (as := [.int 1, .int 0, .int 5]) (st1 := []) (lv0 := [(0, .int 1), (1, .int 0), (2, .int 5)]) kc_10_21 rfl rfl (Nat.le_of_ble_eq_true rfl) rfl rfl (Nat.le_of_ble_eq_true rfl) (hJ _ _ _ _ (by decide)) (xm_le ml_12 rfl) rfl ?_
                  refine xi_iload_n (pc' := 1) (x := 1) kc_12_0 rfl rfl ?_
                  refine xi_iload_n (pc' := 2) (x := 0) kc_12_1 rfl rfl ?_
                  refine xi_cmf (pc' := 5) kc_12_2 rfl rfl ?_
                  refine xi_iload_n (pc' := 6) (x := 1) kc_12_5 rfl rfl ?_
                  refine xi_iload_n (pc' := 7) (x := 5) kc_12_6 rfl rfl ?_
                  refine xi_cmf (pc' := 10) kc_12_7 rfl rfl ?_
                  refine xi_iconst (pc' := 11) (v := 1) kc_12_10 rfl rfl ?_
                  refine xi_goto (pc' := 15) kc_12_11 rfl ?_
                  refine xi_ireturn kc_12_15 mr_12 rfl ?_
                  show xw J ov 99 10 (24, [(0, .ref 115), (1, .int 3), (2, .int 1), (3, .int a3)], [.int 1], hh3) _
                  refine xi_ift (pc' := 34) kc_10_24 rfl rfl ?_
                  refine xi_iload_n (pc' := 35) (x := a3) kc_10_34 rfl rfl ?_
                  refine xi_iload_n (pc' := 36) (x := 1) kc_10_35 rfl rfl ?_
                  refine xi_ift (pc' := 44) kc_10_36 rfl rfl ?_
                  refine xi_iconst (pc' := 45) (v := 0) kc_10_44 rfl rfl ?_
                  refine xi_cmt (pc' := 55) kc_10_45 rfl (xc_ge_t (X := a3.toInt) (Y := 0) rfl (by decide) (by omega)) ?_
                  refine xi_iload_n (pc' := 56) (x := a3) kc_10_55 rfl rfl ?_
                  refine xi_iload_n (pc' := 57) (x := 1) kc_10_56 rfl rfl ?_
                  refine xi_ift (pc' := 65) kc_10_57 rfl rfl ?_
                  refine xi_iload_n (pc' := 66) (x := 1) kc_10_65 rfl rfl ?_
                  refine xi_iconst (pc' := 67) (v := 1) kc_10_66 rfl rfl ?_
                  refine xi_cmf (pc' := 70) kc_10_67 rfl rfl ?_
                  refine xi_bipush (pc' := 72) (v := 30) kc_10_70 rfl rfl ?_
                  refine xi_goto (pc' := 96) kc_10_72 rfl ?_
                  refine xi_cmt (pc' := 106) kc_10_96 rfl (xc_le_t (X := a3.toInt) (Y := 30) rfl (by decide) (by omega)) ?_
                  refine xi_aload_n (pc' := 107) (x := 115) kc_10_106 rfl rfl ?_
                  refine xi_iload_n (pc' := 108) (x := 3) kc_10_107 rfl rfl ?_
                  refine xi_iload_n (pc' := 109) (x := 1) kc_10_108 rfl rfl ?_
                  refine xi_virtual (mj := 14) (as := [.int 3, .int 1]) (st1 := []) (lv0 := [(0, .ref 115), (1, .int 3), (2, .int 1)]) kc_10_109 rfl rfl rfl rfl rfl eh3.1 (Nat.le_of_ble_eq_true rfl) (hJ _ _ _ _ (by decide)) (xm_le ml_14 rfl) rfl ?_
                  refine xi_iload_n (pc' := 1) (x := 1) kc_14_0 rfl rfl ?_
                  refine xi_tsi (pc' := 43) (z := 1) kc_14_1 (rfl) rfl (by decide) ?_
                  refine xi_aload_n (pc' := 44) (x := 115) kc_14_43 rfl rfl ?_
                  refine xi_getfield (pc' := 47) (v := .ref 117) kc_14_44 rfl rfl rfl eh3.1 rfl ?_
                  refine xi_iload_n (pc' := 48) (x := 3) kc_14_47 rfl rfl ?_
                  refine xi_iaload (pc' := 49) (v := 18) kc_14_48 rfl ((eh3.2.1 117 (by decide)).trans ((eh2.2.1 117 (by decide)).trans ((eh1.2.1 117 (by decide)).trans (F 117 _ hl_117)))) (by decide) rfl (xi_in (n := 6) (by decide) (by decide)) rfl ?_
                  refine xi_ireturn kc_14_49 mr_14 rfl ?_
                  show xw J ov 99 10 (112, [(0, .ref 115), (1, .int 3), (2, .int 1), (3, .int a3)], [.int 18], hh3) _
                  refine xi_istore (pc' := 114) (lv' := [(4, .int 18), (0, .ref 115), (1, .int 3), (2, .int 1), (3, .int a3)]) kc_10_112 rfl rfl (xm_lt ml_10 rfl) ?_
                  refine xi_aload_n (pc' := 115) (x := 115) kc_10_114 rfl rfl ?_
                  refine xi_iload_n (pc' := 116) (x := 3) kc_10_115 rfl rfl ?_
                  refine xi_iload_n (pc' := 117) (x := 1) kc_10_116 rfl rfl ?_
                  refine xi_iload_n (pc' := 118) (x := a3) kc_10_117 rfl rfl ?_
                  refine xi_virtual (mj := 15) (as := [.int 3, .int 1, .int a3]) (st1 := []) (lv0 := [(0, .ref 115), (1, .int 3), (2, .int 1), (3, .int a3)]) kc_10_118 rfl rfl rfl rfl rfl eh3.1 (Nat.le_of_ble_eq_true rfl) (hJ _ _ _ _ (by decide)) (xm_le ml_15 rfl) rfl ?_
                  refine xi_aload_n (pc' := 1) (x := 115) kc_15_0 rfl rfl ?_
                  refine xi_getfield (pc' := 4) (v := .ref 116) kc_15_1 rfl rfl rfl eh3.1 rfl ?_
                  refine xi_iload_n (pc' := 5) (x := 3) kc_15_4 rfl rfl ?_
                  refine xi_iload_n (pc' := 6) (x := 1) kc_15_5 rfl rfl ?_
                  refine xi_ift (pc' := 13) kc_15_6 rfl rfl ?_
                  refine xi_aload_n (pc' := 14) (x := 115) kc_15_13 rfl rfl ?_
                  refine xi_getfield (pc' := 17) (v := .ref 116) kc_15_14 rfl rfl rfl eh3.1 rfl ?_
                  refine xi_iload_n (pc' := 18) (x := 3) kc_15_17 rfl rfl ?_
                  refine xi_iaload (pc' := 19) (v := 40) kc_15_18 rfl ((eh3.2.1 116 (by decide)).trans ((eh2.2.1 116 (by decide)).trans ((eh1.2.1 116 (by decide)).trans (F 116 _ hl_116)))) (by decide) rfl (xi_in (n := 6) (by decide) (by decide)) rfl ?_
                  refine xi_iastore (pc' := 20) (x' := [40, 40, 40, 40, 40, 40]) kc_15_19 rfl ((eh3.2.1 116 (by decide)).trans ((eh2.2.1 116 (by decide)).trans ((eh1.2.1 116 (by decide)).trans (F 116 _ hl_116)))) rfl (xi_in (n := 6) (by decide) (by decide)) rfl (fun hh4 eh4 => ?_)
                  refine xi_aload_n (pc' := 21) (x := 115) kc_15_20 rfl rfl ?_
                  refine xi_getfield (pc' := 24) (v := .ref 117) kc_15_21 rfl rfl rfl ((eh4.2.1 115 (by decide)).trans eh3.1) rfl ?_
                  refine xi_iload_n (pc' := 25) (x := 3) kc_15_24 rfl rfl ?_
                  refine xi_iload_n (pc' := 26) (x := 1) kc_15_25 rfl rfl ?_
                  refine xi_iconst (pc' := 27) (v := 1) kc_15_26 rfl rfl ?_
                  refine xi_cmf (pc' := 30) kc_15_27 rfl rfl ?_
                  refine xi_iload_n (pc' := 31) (x := a3) kc_15_30 rfl rfl ?_
                  refine xi_goto (pc' := 40) kc_15_31 rfl ?_
                  refine xi_iastore (pc' := 41) (x' := [18, 18, 18, a3, 18, 18]) kc_15_40 rfl ((eh4.2.1 117 (by decide)).trans ((eh3.2.1 117 (by decide)).trans ((eh2.2.1 117 (by decide)).trans ((eh1.2.1 117 (by decide)).trans (F 117 _ hl_117))))) rfl (xi_in (n := 6) (by decide) (by decide)) rfl (fun hh5 eh5 => ?_)
                  refine xi_aload_n (pc' := 42) (x := 115) kc_15_41 rfl rfl ?_
                  refine xi_getfield (pc' := 45) (v := .ref 118) kc_15_42 rfl rfl rfl ((eh5.2.1 115 (by decide)).trans ((eh4.2.1 115 (by decide)).trans eh3.1)) rfl ?_
                  refine xi_iload_n (pc' := 46) (x := 3) kc_15_45 rfl rfl ?_
                  refine xi_iload_n (pc' := 47) (x := 1) kc_15_46 rfl rfl ?_
                  refine xi_iconst (pc' := 48) (v := 2) kc_15_47 rfl rfl ?_
                  refine xi_cmt (pc' := 55) kc_15_48 rfl rfl ?_
                  refine xi_aload_n (pc' := 56) (x := 115) kc_15_55 rfl rfl ?_
                  refine xi_getfield (pc' := 59) (v := .ref 118) kc_15_56 rfl rfl rfl ((eh5.2.1 115 (by decide)).trans ((eh4.2.1 115 (by decide)).trans eh3.1)) rfl ?_
                  refine xi_iload_n (pc' := 60) (x := 3) kc_15_59 rfl rfl ?_
                  refine xi_iaload (pc' := 61) (v := 10) kc_15_60 rfl ((eh5.2.1 118 (by decide)).trans ((eh4.2.1 118 (by decide)).trans ((eh3.2.1 118 (by decide)).trans ((eh2.2.1 118 (by decide)).trans ((eh1.2.1 118 (by decide)).trans (F 118 _ hl_118)))))) (by decide) rfl (xi_in (n := 6) (by decide) (by decide)) rfl ?_
                  refine xi_iastore (pc' := 62) (x' := [10, 10, 10, 10, 10, 10]) kc_15_61 rfl ((eh5.2.1 118 (by decide)).trans ((eh4.2.1 118 (by decide)).trans ((eh3.2.1 118 (by decide)).trans ((eh2.2.1 118 (by decide)).trans ((eh1.2.1 118 (by decide)).trans (F 118 _ hl_118)))))) rfl (xi_in (n := 6) (by decide) (by decide)) rfl (fun hh6 eh6 => ?_)
                  refine xi_aload_n (pc' := 63) (x := 115) kc_15_62 rfl rfl ?_
                  refine xi_getfield (pc' := 66) (v := .ref 119) kc_15_63 rfl rfl rfl ((eh6.2.1 115 (by decide)).trans ((eh5.2.1 115 (by decide)).trans ((eh4.2.1 115 (by decide)).trans eh3.1))) rfl ?_
                  refine xi_iload_n (pc' := 67) (x := 3) kc_15_66 rfl rfl ?_
                  refine xi_iload_n (pc' := 68) (x := 1) kc_15_67 rfl rfl ?_
                  refine xi_iconst (pc' := 69) (v := 3) kc_15_68 rfl rfl ?_
                  refine xi_cmt (pc' := 76) kc_15_69 rfl rfl ?_
                  refine xi_aload_n (pc' := 77) (x := 115) kc_15_76 rfl rfl ?_
                  refine xi_getfield (pc' := 80) (v := .ref 119) kc_15_77 rfl rfl rfl ((eh6.2.1 115 (by decide)).trans ((eh5.2.1 115 (by decide)).trans ((eh4.2.1 115 (by decide)).trans eh3.1))) rfl ?_
                  refine xi_iload_n (pc' := 81) (x := 3) kc_15_80 rfl rfl ?_
                  refine xi_iaload (pc' := 82) (v := 0) kc_15_81 rfl ((eh6.2.1 119 (by decide)).trans ((eh5.2.1 119 (by decide)).trans ((eh4.2.1 119 (by decide)).trans ((eh3.2.1 119 (by decide)).trans ((eh2.2.1 119 (by decide)).trans ((eh1.2.1 119 (by decide)).trans (F 119 _ hl_119))))))) (by decide) rfl (xi_in (n := 6) (by decide) (by decide)) rfl ?_
                  refine xi_iastore (pc' := 83) (x' := [0, 0, 0, 0, 0, 0]) kc_15_82 rfl ((eh6.2.1 119 (by decide)).trans ((eh5.2.1 119 (by decide)).trans ((eh4.2.1 119 (by decide)).trans ((eh3.2.1 119 (by decide)).trans ((eh2.2.1 119 (by decide)).trans ((eh1.2.1 119 (by decide)).trans (F 119 _ hl_119))))))) rfl (xi_in (n := 6) (by decide) (by decide)) rfl (fun hh7 eh7 => ?_)
                  refine xi_aload_n (pc' := 84) (x := 115) kc_15_83 rfl rfl ?_
                  refine xi_getfield (pc' := 87) (v := .ref 120) kc_15_84 rfl rfl rfl ((eh7.2.1 115 (by decide)).trans ((eh6.2.1 115 (by decide)).trans ((eh5.2.1 115 (by decide)).trans ((eh4.2.1 115 (by decide)).trans eh3.1)))) rfl ?_
                  refine xi_iload_n (pc' := 88) (x := 3) kc_15_87 rfl rfl ?_
                  refine xi_iload_n (pc' := 89) (x := 1) kc_15_88 rfl rfl ?_
                  refine xi_iconst (pc' := 90) (v := 4) kc_15_89 rfl rfl ?_
                  refine xi_cmt (pc' := 97) kc_15_90 rfl rfl ?_
                  refine xi_aload_n (pc' := 98) (x := 115) kc_15_97 rfl rfl ?_
                  refine xi_getfield (pc' := 101) (v := .ref 120) kc_15_98 rfl rfl rfl ((eh7.2.1 115 (by decide)).trans ((eh6.2.1 115 (by decide)).trans ((eh5.2.1 115 (by decide)).trans ((eh4.2.1 115 (by decide)).trans eh3.1)))) rfl ?_
                  refine xi_iload_n (pc' := 102) (x := 3) kc_15_101 rfl rfl ?_
                  refine xi_iaload (pc' := 103) (v := 0) kc_15_102 rfl ((eh7.2.1 120 (by decide)).trans ((eh6.2.1 120 (by decide)).trans ((eh5.2.1 120 (by decide)).trans ((eh4.2.1 120 (by decide)).trans ((eh3.2.1 120 (by decide)).trans ((eh2.2.1 120 (by decide)).trans ((eh1.2.1 120 (by decide)).trans (F 120 _ hl_120)))))))) (by decide) rfl (xi_in (n := 6) (by decide) (by decide)) rfl ?_
                  refine xi_iastore (pc' := 104) (x' := [0, 0, 0, 0, 0, 0]) kc_15_103 rfl ((eh7.2.1 120 (by decide)).trans ((eh6.2.1 120 (by decide)).trans ((eh5.2.1 120 (by decide)).trans ((eh4.2.1 120 (by decide)).trans ((eh3.2.1 120 (by decide)).trans ((eh2.2.1 120 (by decide)).trans ((eh1.2.1 120 (by decide)).trans (F 120 _ hl_120)))))))) rfl (xi_in (n := 6) (by decide) (by decide)) rfl (fun hh8 eh8 => ?_)
                  refine xi_aload_n (pc' := 105) (x := 115) kc_15_104 rfl rfl ?_
                  refine xi_getfield (pc' := 108) (v := .ref 121) kc_15_105 rfl rfl rfl ((eh8.2.1 115 (by decide)).trans ((eh7.2.1 115 (by decide)).trans ((eh6.2.1 115 (by decide)).trans ((eh5.2.1 115 (by decide)).trans ((eh4.2.1 115 (by decide)).trans eh3.1))))) rfl ?_
                  refine xi_iload_n (pc' := 109) (x := 3) kc_15_108 rfl rfl ?_
                  refine xi_iload_n (pc' := 110) (x := 1) kc_15_109 rfl rfl ?_
                  refine xi_iconst (pc' := 111) (v := 5) kc_15_110 rfl rfl ?_
                  refine xi_cmt (pc' := 118) kc_15_111 rfl rfl ?_
                  refine xi_aload_n (pc' := 119) (x := 115) kc_15_118 rfl rfl ?_
                  refine xi_getfield (pc' := 122) (v := .ref 121) kc_15_119 rfl rfl rfl ((eh8.2.1 115 (by decide)).trans ((eh7.2.1 115 (by decide)).trans ((eh6.2.1 115 (by decide)).trans ((eh5.2.1 115 (by decide)).trans ((eh4.2.1 115 (by decide)).trans eh3.1))))) rfl ?_
                  refine xi_iload_n (pc' := 123) (x := 3) kc_15_122 rfl rfl ?_
                  refine xi_iaload (pc' := 124) (v := 0) kc_15_123 rfl ((eh8.2.1 121 (by decide)).trans ((eh7.2.1 121 (by decide)).trans ((eh6.2.1 121 (by decide)).trans ((eh5.2.1 121 (by decide)).trans ((eh4.2.1 121 (by decide)).trans ((eh3.2.1 121 (by decide)).trans ((eh2.2.1 121 (by decide)).trans ((eh1.2.1 121 (by decide)).trans (F 121 _ hl_121))))))))) (by decide) rfl (xi_in (n := 6) (by decide) (by decide)) rfl ?_
                  refine xi_iastore (pc' := 125) (x' := [0, 0, 0, 0, 0, 0]) kc_15_124 rfl ((eh8.2.1 121 (by decide)).trans ((eh7.2.1 121 (by decide)).trans ((eh6.2.1 121 (by decide)).trans ((eh5.2.1 121 (by decide)).trans ((eh4.2.1 121 (by decide)).trans ((eh3.2.1 121 (by decide)).trans ((eh2.2.1 121 (by decide)).trans ((eh1.2.1 121 (by decide)).trans (F 121 _ hl_121))))))))) rfl (xi_in (n := 6) (by decide) (by decide)) rfl (fun hh9 eh9 => ?_)
                  refine xi_aload_n (pc' := 126) (x := 115) kc_15_125 rfl rfl ?_
                  refine xi_iconst (pc' := 127) (v := 0) kc_15_126 rfl rfl ?_
                  refine xi_putfield (pc' := 130) (fs' := [.int 0, .int 0, .ref 116, .ref 117, .ref 118, .ref 119, .ref 120, .ref 121, .ref 122, .ref 123, .ref 124, .ref 125, .ref 126, .ref 127, .ref 128, .ref 129, .int 4, .ref 130, .int 0, .ref 131, .ref 132, .ref 133, .ref 134, .int 0, .ref 135, .ref 136, .ref 137, .ref 138, .ref 139, .ref 140, .ref 141, .ref 142, .int 0, .int 0, .int 0, .ref 143, .ref 144, .ref 145, .ref 146, .ref 147, .ref 148, .int 0, .ref 149, .ref 150, .ref 151, .int 0, .ref 152, .ref 153, .ref 154, .ref 155, .ref 156, .ref 157, .ref 158, .ref 159, .int 0, .ref 160, .int 0, .ref 161, .ref 162, .ref 163, .ref 164, .int 0, .ref 165, .ref 166]) kc_15_127 rfl rfl rfl ((eh9.2.1 115 (by decide)).trans ((eh8.2.1 115 (by decide)).trans ((eh7.2.1 115 (by decide)).trans ((eh6.2.1 115 (by decide)).trans ((eh5.2.1 115 (by decide)).trans ((eh4.2.1 115 (by decide)).trans eh3.1)))))) rfl rfl rfl (Nat.le_of_ble_eq_true rfl) rfl (fun hh10 eh10 => ?_)
                  refine xi_return kc_15_130 mr_15 ?_
                  show xw J ov 99 10 (121, [(4, .int 18), (0, .ref 115), (1, .int 3), (2, .int 1), (3, .int a3)], [], hh10) _
                  refine xi_iload (pc' := 123) (x := 18) kc_10_121 rfl rfl ?_
                  refine xi_ireturn kc_10_123 mr_10 rfl ?_
                  show xw J ov 100 196 (236, [(4, .int 0), (3, .ref 167), (2, .ref 115), (1, .ref 0), (0, .ref 1000000)], [.int 18, .int 18], hh10) _
                  refine xi_cmt (pc' := 1528) kc_196_236 rfl rfl ?_
                  refine xi_iinc (pc' := 1531) (x := 0) (v := 6) (lv' := [(4, .int 6), (3, .ref 167), (2, .ref 115), (1, .ref 0), (0, .ref 1000000)]) kc_196_1528 rfl rfl rfl rfl (xm_lt ml_196 rfl) ?_
                  refine xi_goto (pc' := 23) kc_196_1531 rfl ?_
                  refine xi_iload (pc' := 25) (x := 6) kc_196_23 rfl rfl ?_
                  refine xi_aload_n (pc' := 26) (x := 1000000) kc_196_25 rfl rfl ?_
                  refine xi_arraylength (pc' := 27) (n := 6) (v := 6) kc_196_26 rfl (xl_lenO (by decide) hov0 rfl) rfl ?_
                  refine xi_bipush (pc' := 29) (v := 6) kc_196_27 rfl rfl ?_
                  refine xi_isub (pc' := 30) (v := 0) kc_196_29 rfl rfl ?_
                  refine xi_cmt (pc' := 1534) kc_196_30 rfl rfl ?_
                  refine xi_iconst (pc' := 1535) (v := 1) kc_196_1534 rfl rfl ?_
                  refine xi_ireturn kc_196_1535 mr_196 rfl ?_
                  refine ⟨rfl, ?_, ?_⟩
                  · rw [eh10.2.2.1, eh9.2.2.1, eh8.2.2.1, eh7.2.2.1, eh6.2.2.1, eh5.2.2.1, eh4.2.2.1, eh3.2.2.1, eh2.2.2.1, eh1.2.2.1]; exact hn0
                  · rw [eh10.2.2.2, eh9.2.2.2, eh8.2.2.2, eh7.2.2.2, eh6.2.2.2, eh5.2.2.2, eh4.2.2.2, eh3.2.2.2, eh2.2.2.2, eh1.2.2.2]; exact hz0
                by_cases c20 : a1.toInt = 4
                · have qa1 : a1 = 4 := xc_of (Eq.trans (by omega) (show (4 : Int) = (4 : Int32).toInt by decide))
                  subst qa1
                  refine xi_aaload (pc' := 13) (b := 23) kc_93_12 rfl ((eh1.2.1 2 (by decide)).trans (F 2 _ hl_2)) rfl (xi_in (n := 6) (by decide) (by decide)) rfl ?_
                  refine xi_iload_n (pc' := 14) (x := 1) kc_93_13 rfl rfl ?_
                  refine xi_iload_n (pc' := 15) (x := a3) kc_93_14 rfl rfl ?_
                  refine xi_virtual (mj := 94) (as := [.int 1, .int a3]) (st1 := []) (lv0 := [(0, .ref 23), (1, .int 1), (2, .int a3)]) kc_93_15 rfl rfl rfl rfl rfl ((eh1.2.1 23 (by decide)).trans (F 23 _ hl_23)) (Nat.le_of_ble_eq_true rfl) (hJ _ _ _ _ (by decide)) (xm_le ml_94 rfl) rfl ?_
                  refine xi_iload_n (pc' := 1) (x := 1) kc_94_0 rfl rfl ?_
                  refine xi_iff (pc' := 4) kc_94_1 rfl rfl ?_
                  refine xi_iload_n (pc' := 5) (x := 1) kc_94_4 rfl rfl ?_
                  refine xi_iconst (pc' := 6) (v := 5) kc_94_5 rfl rfl ?_
                  refine xi_cmt (pc' := 11) kc_94_6 rfl rfl ?_
                  refine xi_aload_n (pc' := 12) (x := 23) kc_94_11 rfl rfl ?_
                  refine xi_getfield (pc' := 15) (v := .ref 24) kc_94_12 rfl rfl rfl ((eh1.2.1 23 (by decide)).trans (F 23 _ hl_23)) rfl ?_
                  refine xi_iload_n (pc' := 16) (x := 1) kc_94_15 rfl rfl ?_
                  refine xi_iaload (pc' := 17) (v := 18) kc_94_16 rfl ((eh1.2.1 24 (by decide)).trans (F 24 _ hl_24)) (by decide) rfl (xi_in (n := 5) (by decide) (by decide)) rfl ?_
                  refine xi_istore_n (pc' := 18) (lv' := [(3, .int 18), (0, .ref 23), (1, .int 1), (2, .int a3)]) kc_94_17 rfl rfl (xm_lt ml_94 rfl) ?_
                  refine xi_aload_n (pc' := 19) (x := 23) kc_94_18 rfl rfl ?_
                  refine xi_getfield (pc' := 22) (v := .ref 24) kc_94_19 rfl rfl rfl ((eh1.2.1 23 (by decide)).trans (F 23 _ hl_23)) rfl ?_
                  refine xi_iload_n (pc' := 23) (x := 1) kc_94_22 rfl rfl ?_
                  refine xi_iload_n (pc' := 24) (x := a3) kc_94_23 rfl rfl ?_
                  refine xi_iastore (pc' := 25) (x' := [40, a3, 10, 0, 0]) kc_94_24 rfl ((eh1.2.1 24 (by decide)).trans (F 24 _ hl_24)) rfl (xi_in (n := 5) (by decide) (by decide)) rfl (fun hh2 eh2 => ?_)
                  refine xi_iload_n (pc' := 26) (x := 18) kc_94_25 rfl rfl ?_
                  refine xi_ireturn kc_94_26 mr_94 rfl ?_
                  show xw J ov 98 93 (18, [(0, .ref 1), (1, .int 4), (2, .int 1), (3, .int a3)], [.int 18], hh2) _
                  refine xi_goto (pc' := 22) kc_93_18 rfl ?_
                  refine xi_ireturn kc_93_22 mr_93 rfl ?_
                  show xw J ov 99 89 (107, [(0, .ref 0), (1, .int 4), (2, .int 1), (3, .int a3)], [.int 18], hh2) _
                  refine xi_ireturn kc_89_107 mr_89 rfl ?_
                  show xw J ov 100 196 (214, [(4, .int 0), (3, .ref 167), (2, .ref 115), (1, .ref 0), (0, .ref 1000000)], [.int 18], hh2) _
                  refine xi_aload_n (pc' := 215) (x := 115) kc_196_214 rfl rfl ?_
                  refine xi_aload_n (pc' := 216) (x := 1000000) kc_196_215 rfl rfl ?_
                  refine xi_iload (pc' := 218) (x := 0) kc_196_216 rfl rfl ?_
                  refine xi_iconst (pc' := 219) (v := 1) kc_196_218 rfl rfl ?_
                  refine xi_iadd (pc' := 220) (v := 1) kc_196_219 rfl rfl ?_
                  refine xi_ialoadO (pc' := 221) (v := 4) kc_196_220 rfl (by decide) hov0 (xi_in (n := 6) (by decide) (by decide)) rfl ?_
                  refine xi_aload_n (pc' := 222) (x := 1000000) kc_196_221 rfl rfl ?_
                  refine xi_iload (pc' := 224) (x := 0) kc_196_222 rfl rfl ?_
                  refine xi_iconst (pc' := 225) (v := 2) kc_196_224 rfl rfl ?_
                  refine xi_iadd (pc' := 226) (v := 2) kc_196_225 rfl rfl ?_
                  refine xi_ialoadO (pc' := 227) (v := 1) kc_196_226 rfl (by decide) hov0 (xi_in (n := 6) (by decide) (by decide)) rfl ?_
                  refine xi_aload_n (pc' := 228) (x := 1000000) kc_196_227 rfl rfl ?_
                  refine xi_iload (pc' := 230) (x := 0) kc_196_228 rfl rfl ?_
                  refine xi_iconst (pc' := 231) (v := 3) kc_196_230 rfl rfl ?_
                  refine xi_iadd (pc' := 232) (v := 3) kc_196_231 rfl rfl ?_
                  refine xi_ialoadO (pc' := 233) (v := a3) kc_196_232 rfl (by decide) hov0 (xi_in (n := 6) (by decide) (by decide)) rfl ?_
                  refine xi_virtual (mj := 10) (as := [.int 4, .int 1, .int a3]) (st1 := [.int 18]) (lv0 := [(0, .ref 115), (1, .int 4), (2, .int 1), (3, .int a3)]) kc_196_233 rfl rfl rfl rfl rfl ((eh2.2.1 115 (by decide)).trans ((eh1.2.1 115 (by decide)).trans (F 115 _ hl_115))) (Nat.le_of_ble_eq_true rfl) (hJ _ _ _ _ (by decide)) (xm_le ml_10 rfl) rfl ?_
                  refine xi_aload_n (pc' := 1) (x := 115) kc_10_0 rfl rfl ?_
                  refine xi_iconst (pc' := 2) (v := 0) kc_10_1 rfl rfl ?_
                  refine xi_putfield (pc' := 5) (fs' := [.int 0, .int 0, .ref 116, .ref 117, .ref 118, .ref 119, .ref 120, .ref 121, .ref 122, .ref 123, .ref 124, .ref 125, .ref 126, .ref 127, .ref 128, .ref 129, .int 4, .ref 130, .int 0, .ref 131, .ref 132, .ref 133, .ref 134, .int 0, .ref 135, .ref 136, .ref 137, .ref 138, .ref 139, .ref 140, .ref 141, .ref 142, .int 0, .int 0, .int 0, .ref 143, .ref 144, .ref 145, .ref 146, .ref 147, .ref 148, .int 0, .ref 149, .ref 150, .ref 151, .int 0, .ref 152, .ref 153, .ref 154, .ref 155, .ref 156, .ref 157, .ref 158, .ref 159, .int 0, .ref 160, .int 0, .ref 161, .ref 162, .ref 163, .ref 164, .int 0, .ref 165, .ref 166]) kc_10_2 rfl rfl rfl ((eh2.2.1 115 (by decide)).trans ((eh1.2.1 115 (by decide)).trans (F 115 _ hl_115))) rfl rfl rfl (Nat.le_of_ble_eq_true rfl) rfl (fun hh3 eh3 => ?_)
                  refine xi_iload_n (pc' := 6) (x := 4) kc_10_5 rfl rfl ?_
                  refine xi_static (mj := 11) (as := [.int 4]) (st1 := []) (lv0 := [(0, .int 4)]) kc_10_6 rfl rfl (Nat.le_of_ble_eq_true rfl) rfl rfl (Nat.le_of_ble_eq_true rfl) (hJ _ _ _ _ (by decide)) (xm_le ml_11 rfl) rfl ?_
                  refine xi_iload_n (pc' := 1) (x := 4) kc_11_0 rfl rfl ?_
                  refine xi_iconst (pc' := 2) (v := 0) kc_11_1 rfl rfl ?_
                  refine xi_iconst (pc' := 3) (v := 5) kc_11_2 rfl rfl ?_
                  refine xi_static (mj := 12) (as := [.int 4, .int 0, .int 5]) (st1 := []) (lv0 := [(0, .int 4), (1, .int 0), (2, .int 5)]) kc_11_3 rfl rfl (Nat.le_of_ble_eq_true rfl) rfl rfl (Nat.le_of_ble_eq_true rfl) (hJ _ _ _ _ (by decide)) (xm_le ml_12 rfl) rfl ?_
                  refine xi_iload_n (pc' := 1) (x := 4) kc_12_0 rfl rfl ?_
                  refine xi_iload_n (pc' := 2) (x := 0) kc_12_1 rfl rfl ?_
                  refine xi_cmf (pc' := 5) kc_12_2 rfl rfl ?_
                  refine xi_iload_n (pc' := 6) (x := 4) kc_12_5 rfl rfl ?_
                  refine xi_iload_n (pc' := 7) (x := 5) kc_12_6 rfl rfl ?_
                  refine xi_cmf (pc' := 10) kc_12_7 rfl rfl ?_
                  refine xi_iconst (pc' := 11) (v := 1) kc_12_10 rfl rfl ?_
                  refine xi_goto (pc' := 15) kc_12_11 rfl ?_
                  refine xi_ireturn kc_12_15 mr_12 rfl ?_
                  show xw J ov 98 11 (6, [(0, .int 4)], [.int 1], hh3) _
                  refine xi_ireturn kc_11_6 mr_11 rfl ?_
                  show xw J ov 99 10 (9, [(0, .ref 115), (1, .int 4), (2, .int 1), (3, .int a3)], [.int 1], hh3) _
                  refine xi_ift (pc' := 18) kc_10_9 rfl rfl ?_
                  refine xi_iload_n (pc' := 19) (x := 1) kc_10_18 rfl rfl ?_
                  refine xi_iconst (pc' := 20) (v := 0) kc_10_19 rfl rfl ?_
                  refine xi_iconst (pc' := 21) (v := 5) kc_10_20 rfl rfl ?_
                  refine xi_static (mj := 12) (as := [.int 1, .int 0, .int 5]) (st1 := []) (lv0 := [(0, .int 1), (1, .int 0), (2, .int 5)]) kc_10_21 rfl rfl (Nat.le_of_ble_eq_true rfl) rfl rfl (Nat.le_of_ble_eq_true rfl) (hJ _ _ _ _ (by decide)) (xm_le ml_12 rfl) rfl ?_
                  refine xi_iload_n (pc' := 1) (x := 1) kc_12_0 rfl rfl ?_
                  refine xi_iload_n (pc' := 2) (x := 0) kc_12_1 rfl rfl ?_
                  refine xi_cmf (pc' := 5) kc_12_2 rfl rfl ?_
                  refine xi_iload_n (pc' := 6) (x := 1) kc_12_5 rfl rfl ?_
                  refine xi_iload_n (pc' := 7) (x := 5) kc_12_6 rfl rfl ?_
                  refine xi_cmf (pc' := 10) kc_12_7 rfl rfl ?_
                  refine xi_iconst (pc' := 11) (v := 1) kc_12_10 rfl rfl ?_
                  refine xi_goto (pc' := 15) kc_12_11 rfl ?_
                  refine xi_ireturn kc_12_15 mr_12 rfl ?_
                  show xw J ov 99 10 (24, [(0, .ref 115), (1, .int 4), (2, .int 1), (3, .int a3)], [.int 1], hh3) _
                  refine xi_ift (pc' := 34) kc_10_24 rfl rfl ?_
                  refine xi_iload_n (pc' := 35) (x := a3) kc_10_34 rfl rfl ?_
                  refine xi_iload_n (pc' := 36) (x := 1) kc_10_35 rfl rfl ?_
                  refine xi_ift (pc' := 44) kc_10_36 rfl rfl ?_
                  refine xi_iconst (pc' := 45) (v := 0) kc_10_44 rfl rfl ?_
                  refine xi_cmt (pc' := 55) kc_10_45 rfl (xc_ge_t (X := a3.toInt) (Y := 0) rfl (by decide) (by omega)) ?_
                  refine xi_iload_n (pc' := 56) (x := a3) kc_10_55 rfl rfl ?_
                  refine xi_iload_n (pc' := 57) (x := 1) kc_10_56 rfl rfl ?_
                  refine xi_ift (pc' := 65) kc_10_57 rfl rfl ?_
                  refine xi_iload_n (pc' := 66) (x := 1) kc_10_65 rfl rfl ?_
                  refine xi_iconst (pc' := 67) (v := 1) kc_10_66 rfl rfl ?_
                  refine xi_cmf (pc' := 70) kc_10_67 rfl rfl ?_
                  refine xi_bipush (pc' := 72) (v := 30) kc_10_70 rfl rfl ?_
                  refine xi_goto (pc' := 96) kc_10_72 rfl ?_
                  refine xi_cmt (pc' := 106) kc_10_96 rfl (xc_le_t (X := a3.toInt) (Y := 30) rfl (by decide) (by omega)) ?_
                  refine xi_aload_n (pc' := 107) (x := 115) kc_10_106 rfl rfl ?_
                  refine xi_iload_n (pc' := 108) (x := 4) kc_10_107 rfl rfl ?_
                  refine xi_iload_n (pc' := 109) (x := 1) kc_10_108 rfl rfl ?_
                  refine xi_virtual (mj := 14) (as := [.int 4, .int 1]) (st1 := []) (lv0 := [(0, .ref 115), (1, .int 4), (2, .int 1)]) kc_10_109 rfl rfl rfl rfl rfl eh3.1 (Nat.le_of_ble_eq_true rfl) (hJ _ _ _ _ (by decide)) (xm_le ml_14 rfl) rfl ?_
                  refine xi_iload_n (pc' := 1) (x := 1) kc_14_0 rfl rfl ?_
                  refine xi_tsi (pc' := 43) (z := 1) kc_14_1 (rfl) rfl (by decide) ?_
                  refine xi_aload_n (pc' := 44) (x := 115) kc_14_43 rfl rfl ?_
                  refine xi_getfield (pc' := 47) (v := .ref 117) kc_14_44 rfl rfl rfl eh3.1 rfl ?_
                  refine xi_iload_n (pc' := 48) (x := 4) kc_14_47 rfl rfl ?_
                  refine xi_iaload (pc' := 49) (v := 18) kc_14_48 rfl ((eh3.2.1 117 (by decide)).trans ((eh2.2.1 117 (by decide)).trans ((eh1.2.1 117 (by decide)).trans (F 117 _ hl_117)))) (by decide) rfl (xi_in (n := 6) (by decide) (by decide)) rfl ?_
                  refine xi_ireturn kc_14_49 mr_14 rfl ?_
                  show xw J ov 99 10 (112, [(0, .ref 115), (1, .int 4), (2, .int 1), (3, .int a3)], [.int 18], hh3) _
                  refine xi_istore (pc' := 114) (lv' := [(4, .int 18), (0, .ref 115), (1, .int 4), (2, .int 1), (3, .int a3)]) kc_10_112 rfl rfl (xm_lt ml_10 rfl) ?_
                  refine xi_aload_n (pc' := 115) (x := 115) kc_10_114 rfl rfl ?_
                  refine xi_iload_n (pc' := 116) (x := 4) kc_10_115 rfl rfl ?_
                  refine xi_iload_n (pc' := 117) (x := 1) kc_10_116 rfl rfl ?_
                  refine xi_iload_n (pc' := 118) (x := a3) kc_10_117 rfl rfl ?_
                  refine xi_virtual (mj := 15) (as := [.int 4, .int 1, .int a3]) (st1 := []) (lv0 := [(0, .ref 115), (1, .int 4), (2, .int 1), (3, .int a3)]) kc_10_118 rfl rfl rfl rfl rfl eh3.1 (Nat.le_of_ble_eq_true rfl) (hJ _ _ _ _ (by decide)) (xm_le ml_15 rfl) rfl ?_
                  refine xi_aload_n (pc' := 1) (x := 115) kc_15_0 rfl rfl ?_
                  refine xi_getfield (pc' := 4) (v := .ref 116) kc_15_1 rfl rfl rfl eh3.1 rfl ?_
                  refine xi_iload_n (pc' := 5) (x := 4) kc_15_4 rfl rfl ?_
                  refine xi_iload_n (pc' := 6) (x := 1) kc_15_5 rfl rfl ?_
                  refine xi_ift (pc' := 13) kc_15_6 rfl rfl ?_
                  refine xi_aload_n (pc' := 14) (x := 115) kc_15_13 rfl rfl ?_
                  refine xi_getfield (pc' := 17) (v := .ref 116) kc_15_14 rfl rfl rfl eh3.1 rfl ?_
                  refine xi_iload_n (pc' := 18) (x := 4) kc_15_17 rfl rfl ?_
                  refine xi_iaload (pc' := 19) (v := 40) kc_15_18 rfl ((eh3.2.1 116 (by decide)).trans ((eh2.2.1 116 (by decide)).trans ((eh1.2.1 116 (by decide)).trans (F 116 _ hl_116)))) (by decide) rfl (xi_in (n := 6) (by decide) (by decide)) rfl ?_
                  refine xi_iastore (pc' := 20) (x' := [40, 40, 40, 40, 40, 40]) kc_15_19 rfl ((eh3.2.1 116 (by decide)).trans ((eh2.2.1 116 (by decide)).trans ((eh1.2.1 116 (by decide)).trans (F 116 _ hl_116)))) rfl (xi_in (n := 6) (by decide) (by decide)) rfl (fun hh4 eh4 => ?_)
                  refine xi_aload_n (pc' := 21) (x := 115) kc_15_20 rfl rfl ?_
                  refine xi_getfield (pc' := 24) (v := .ref 117) kc_15_21 rfl rfl rfl ((eh4.2.1 115 (by decide)).trans eh3.1) rfl ?_
                  refine xi_iload_n (pc' := 25) (x := 4) kc_15_24 rfl rfl ?_
                  refine xi_iload_n (pc' := 26) (x := 1) kc_15_25 rfl rfl ?_
                  refine xi_iconst (pc' := 27) (v := 1) kc_15_26 rfl rfl ?_
                  refine xi_cmf (pc' := 30) kc_15_27 rfl rfl ?_
                  refine xi_iload_n (pc' := 31) (x := a3) kc_15_30 rfl rfl ?_
                  refine xi_goto (pc' := 40) kc_15_31 rfl ?_
                  refine xi_iastore (pc' := 41) (x' := [18, 18, 18, 18, a3, 18]) kc_15_40 rfl ((eh4.2.1 117 (by decide)).trans ((eh3.2.1 117 (by decide)).trans ((eh2.2.1 117 (by decide)).trans ((eh1.2.1 117 (by decide)).trans (F 117 _ hl_117))))) rfl (xi_in (n := 6) (by decide) (by decide)) rfl (fun hh5 eh5 => ?_)
                  refine xi_aload_n (pc' := 42) (x := 115) kc_15_41 rfl rfl ?_
                  refine xi_getfield (pc' := 45) (v := .ref 118) kc_15_42 rfl rfl rfl ((eh5.2.1 115 (by decide)).trans ((eh4.2.1 115 (by decide)).trans eh3.1)) rfl ?_
                  refine xi_iload_n (pc' := 46) (x := 4) kc_15_45 rfl rfl ?_
                  refine xi_iload_n (pc' := 47) (x := 1) kc_15_46 rfl rfl ?_
                  refine xi_iconst (pc' := 48) (v := 2) kc_15_47 rfl rfl ?_
                  refine xi_cmt (pc' := 55) kc_15_48 rfl rfl ?_
                  refine xi_aload_n (pc' := 56) (x := 115) kc_15_55 rfl rfl ?_
                  refine xi_getfield (pc' := 59) (v := .ref 118) kc_15_56 rfl rfl rfl ((eh5.2.1 115 (by decide)).trans ((eh4.2.1 115 (by decide)).trans eh3.1)) rfl ?_
                  refine xi_iload_n (pc' := 60) (x := 4) kc_15_59 rfl rfl ?_
                  refine xi_iaload (pc' := 61) (v := 10) kc_15_60 rfl ((eh5.2.1 118 (by decide)).trans ((eh4.2.1 118 (by decide)).trans ((eh3.2.1 118 (by decide)).trans ((eh2.2.1 118 (by decide)).trans ((eh1.2.1 118 (by decide)).trans (F 118 _ hl_118)))))) (by decide) rfl (xi_in (n := 6) (by decide) (by decide)) rfl ?_
                  refine xi_iastore (pc' := 62) (x' := [10, 10, 10, 10, 10, 10]) kc_15_61 rfl ((eh5.2.1 118 (by decide)).trans ((eh4.2.1 118 (by decide)).trans ((eh3.2.1 118 (by decide)).trans ((eh2.2.1 118 (by decide)).trans ((eh1.2.1 118 (by decide)).trans (F 118 _ hl_118)))))) rfl (xi_in (n := 6) (by decide) (by decide)) rfl (fun hh6 eh6 => ?_)
                  refine xi_aload_n (pc' := 63) (x := 115) kc_15_62 rfl rfl ?_
                  refine xi_getfield (pc' := 66) (v := .ref 119) kc_15_63 rfl rfl rfl ((eh6.2.1 115 (by decide)).trans ((eh5.2.1 115 (by decide)).trans ((eh4.2.1 115 (by decide)).trans eh3.1))) rfl ?_
                  refine xi_iload_n (pc' := 67) (x := 4) kc_15_66 rfl rfl ?_
                  refine xi_iload_n (pc' := 68) (x := 1) kc_15_67 rfl rfl ?_
                  refine xi_iconst (pc' := 69) (v := 3) kc_15_68 rfl rfl ?_
                  refine xi_cmt (pc' := 76) kc_15_69 rfl rfl ?_
                  refine xi_aload_n (pc' := 77) (x := 115) kc_15_76 rfl rfl ?_
                  refine xi_getfield (pc' := 80) (v := .ref 119) kc_15_77 rfl rfl rfl ((eh6.2.1 115 (by decide)).trans ((eh5.2.1 115 (by decide)).trans ((eh4.2.1 115 (by decide)).trans eh3.1))) rfl ?_
                  refine xi_iload_n (pc' := 81) (x := 4) kc_15_80 rfl rfl ?_
                  refine xi_iaload (pc' := 82) (v := 0) kc_15_81 rfl ((eh6.2.1 119 (by decide)).trans ((eh5.2.1 119 (by decide)).trans ((eh4.2.1 119 (by decide)).trans ((eh3.2.1 119 (by decide)).trans ((eh2.2.1 119 (by decide)).trans ((eh1.2.1 119 (by decide)).trans (F 119 _ hl_119))))))) (by decide) rfl (xi_in (n := 6) (by decide) (by decide)) rfl ?_
                  refine xi_iastore (pc' := 83) (x' := [0, 0, 0, 0, 0, 0]) kc_15_82 rfl ((eh6.2.1 119 (by decide)).trans ((eh5.2.1 119 (by decide)).trans ((eh4.2.1 119 (by decide)).trans ((eh3.2.1 119 (by decide)).trans ((eh2.2.1 119 (by decide)).trans ((eh1.2.1 119 (by decide)).trans (F 119 _ hl_119))))))) rfl (xi_in (n := 6) (by decide) (by decide)) rfl (fun hh7 eh7 => ?_)
                  refine xi_aload_n (pc' := 84) (x := 115) kc_15_83 rfl rfl ?_
                  refine xi_getfield (pc' := 87) (v := .ref 120) kc_15_84 rfl rfl rfl ((eh7.2.1 115 (by decide)).trans ((eh6.2.1 115 (by decide)).trans ((eh5.2.1 115 (by decide)).trans ((eh4.2.1 115 (by decide)).trans eh3.1)))) rfl ?_
                  refine xi_iload_n (pc' := 88) (x := 4) kc_15_87 rfl rfl ?_
                  refine xi_iload_n (pc' := 89) (x := 1) kc_15_88 rfl rfl ?_
                  refine xi_iconst (pc' := 90) (v := 4) kc_15_89 rfl rfl ?_
                  refine xi_cmt (pc' := 97) kc_15_90 rfl rfl ?_
                  refine xi_aload_n (pc' := 98) (x := 115) kc_15_97 rfl rfl ?_
                  refine xi_getfield (pc' := 101) (v := .ref 120) kc_15_98 rfl rfl rfl ((eh7.2.1 115 (by decide)).trans ((eh6.2.1 115 (by decide)).trans ((eh5.2.1 115 (by decide)).trans ((eh4.2.1 115 (by decide)).trans eh3.1)))) rfl ?_
                  refine xi_iload_n (pc' := 102) (x := 4) kc_15_101 rfl rfl ?_
                  refine xi_iaload (pc' := 103) (v := 0) kc_15_102 rfl ((eh7.2.1 120 (by decide)).trans ((eh6.2.1 120 (by decide)).trans ((eh5.2.1 120 (by decide)).trans ((eh4.2.1 120 (by decide)).trans ((eh3.2.1 120 (by decide)).trans ((eh2.2.1 120 (by decide)).trans ((eh1.2.1 120 (by decide)).trans (F 120 _ hl_120)))))))) (by decide) rfl (xi_in (n := 6) (by decide) (by decide)) rfl ?_
                  refine xi_iastore (pc' := 104) (x' := [0, 0, 0, 0, 0, 0]) kc_15_103 rfl ((eh7.2.1 120 (by decide)).trans ((eh6.2.1 120 (by decide)).trans ((eh5.2.1 120 (by decide)).trans ((eh4.2.1 120 (by decide)).trans ((eh3.2.1 120 (by decide)).trans ((eh2.2.1 120 (by decide)).trans ((eh1.2.1 120 (by decide)).trans (F 120 _ hl_120)))))))) rfl (xi_in (n := 6) (by decide) (by decide)) rfl (fun hh8 eh8 => ?_)
                  refine xi_aload_n (pc' := 105) (x := 115) kc_15_104 rfl rfl ?_
                  refine xi_getfield (pc' := 108) (v := .ref 121) kc_15_105 rfl rfl rfl ((eh8.2.1 115 (by decide)).trans ((eh7.2.1 115 (by decide)).trans ((eh6.2.1 115 (by decide)).trans ((eh5.2.1 115 (by decide)).trans ((eh4.2.1 115 (by decide)).trans eh3.1))))) rfl ?_
                  refine xi_iload_n (pc' := 109) (x := 4) kc_15_108 rfl rfl ?_
                  refine xi_iload_n (pc' := 110) (x := 1) kc_15_109 rfl rfl ?_
                  refine xi_iconst (pc' := 111) (v := 5) kc_15_110 rfl rfl ?_
                  refine xi_cmt (pc' := 118) kc_15_111 rfl rfl ?_
                  refine xi_aload_n (pc' := 119) (x := 115) kc_15_118 rfl rfl ?_
                  refine xi_getfield (pc' := 122) (v := .ref 121) kc_15_119 rfl rfl rfl ((eh8.2.1 115 (by decide)).trans ((eh7.2.1 115 (by decide)).trans ((eh6.2.1 115 (by decide)).trans ((eh5.2.1 115 (by decide)).trans ((eh4.2.1 115 (by decide)).trans eh3.1))))) rfl ?_
                  refine xi_iload_n (pc' := 123) (x := 4) kc_15_122 rfl rfl ?_
                  refine xi_iaload (pc' := 124) (v := 0) kc_15_123 rfl ((eh8.2.1 121 (by decide)).trans ((eh7.2.1 121 (by decide)).trans ((eh6.2.1 121 (by decide)).trans ((eh5.2.1 121 (by decide)).trans ((eh4.2.1 121 (by decide)).trans ((eh3.2.1 121 (by decide)).trans ((eh2.2.1 121 (by decide)).trans ((eh1.2.1 121 (by decide)).trans (F 121 _ hl_121))))))))) (by decide) rfl (xi_in (n := 6) (by decide) (by decide)) rfl ?_
                  refine xi_iastore (pc' := 125) (x' := [0, 0, 0, 0, 0, 0]) kc_15_124 rfl ((eh8.2.1 121 (by decide)).trans ((eh7.2.1 121 (by decide)).trans ((eh6.2.1 121 (by decide)).trans ((eh5.2.1 121 (by decide)).trans ((eh4.2.1 121 (by decide)).trans ((eh3.2.1 121 (by decide)).trans ((eh2.2.1 121 (by decide)).trans ((eh1.2.1 121 (by decide)).trans (F 121 _ hl_121))))))))) rfl (xi_in (n := 6) (by decide) (by decide)) rfl (fun hh9 eh9 => ?_)
                  refine xi_aload_n (pc' := 126) (x := 115) kc_15_125 rfl rfl ?_
                  refine xi_iconst (pc' := 127) (v := 0) kc_15_126 rfl rfl ?_
                  refine xi_putfield (pc' := 130) (fs' := [.int 0, .int 0, .ref 116, .ref 117, .ref 118, .ref 119, .ref 120, .ref 121, .ref 122, .ref 123, .ref 124, .ref 125, .ref 126, .ref 127, .ref 128, .ref 129, .int 4, .ref 130, .int 0, .ref 131, .ref 132, .ref 133, .ref 134, .int 0, .ref 135, .ref 136, .ref 137, .ref 138, .ref 139, .ref 140, .ref 141, .ref 142, .int 0, .int 0, .int 0, .ref 143, .ref 144, .ref 145, .ref 146, .ref 147, .ref 148, .int 0, .ref 149, .ref 150, .ref 151, .int 0, .ref 152, .ref 153, .ref 154, .ref 155, .ref 156, .ref 157, .ref 158, .ref 159, .int 0, .ref 160, .int 0, .ref 161, .ref 162, .ref 163, .ref 164, .int 0, .ref 165, .ref 166]) kc_15_127 rfl rfl rfl ((eh9.2.1 115 (by decide)).trans ((eh8.2.1 115 (by decide)).trans ((eh7.2.1 115 (by decide)).trans ((eh6.2.1 115 (by decide)).trans ((eh5.2.1 115 (by decide)).trans ((eh4.2.1 115 (by decide)).trans eh3.1)))))) rfl rfl rfl (Nat.le_of_ble_eq_true rfl) rfl (fun hh10 eh10 => ?_)
                  refine xi_return kc_15_130 mr_15 ?_
                  show xw J ov 99 10 (121, [(4, .int 18), (0, .ref 115), (1, .int 4), (2, .int 1), (3, .int a3)], [], hh10) _
                  refine xi_iload (pc' := 123) (x := 18) kc_10_121 rfl rfl ?_
                  refine xi_ireturn kc_10_123 mr_10 rfl ?_
                  show xw J ov 100 196 (236, [(4, .int 0), (3, .ref 167), (2, .ref 115), (1, .ref 0), (0, .ref 1000000)], [.int 18, .int 18], hh10) _
                  refine xi_cmt (pc' := 1528) kc_196_236 rfl rfl ?_
                  refine xi_iinc (pc' := 1531) (x := 0) (v := 6) (lv' := [(4, .int 6), (3, .ref 167), (2, .ref 115), (1, .ref 0), (0, .ref 1000000)]) kc_196_1528 rfl rfl rfl rfl (xm_lt ml_196 rfl) ?_
                  refine xi_goto (pc' := 23) kc_196_1531 rfl ?_
                  refine xi_iload (pc' := 25) (x := 6) kc_196_23 rfl rfl ?_
                  refine xi_aload_n (pc' := 26) (x := 1000000) kc_196_25 rfl rfl ?_
                  refine xi_arraylength (pc' := 27) (n := 6) (v := 6) kc_196_26 rfl (xl_lenO (by decide) hov0 rfl) rfl ?_
                  refine xi_bipush (pc' := 29) (v := 6) kc_196_27 rfl rfl ?_
                  refine xi_isub (pc' := 30) (v := 0) kc_196_29 rfl rfl ?_
                  refine xi_cmt (pc' := 1534) kc_196_30 rfl rfl ?_
                  refine xi_iconst (pc' := 1535) (v := 1) kc_196_1534 rfl rfl ?_
                  refine xi_ireturn kc_196_1535 mr_196 rfl ?_
                  refine ⟨rfl, ?_, ?_⟩
                  · rw [eh10.2.2.1, eh9.2.2.1, eh8.2.2.1, eh7.2.2.1, eh6.2.2.1, eh5.2.2.1, eh4.2.2.1, eh3.2.2.1, eh2.2.2.1, eh1.2.2.1]; exact hn0
                  · rw [eh10.2.2.2, eh9.2.2.2, eh8.2.2.2, eh7.2.2.2, eh6.2.2.2, eh5.2.2.2, eh4.2.2.2, eh3.2.2.2, eh2.2.2.2, eh1.2.2.2]; exact hz0
                have qa1 : a1 = 5 := xc_of (Eq.trans (by omega) (show (5 : Int) = (5 : Int32).toInt by decide))
                subst qa1
                refine xi_aaload (pc' := 13) (b := 26) kc_93_12 rfl ((eh1.2.1 2 (by decide)).trans (F 2 _ hl_2)) rfl (xi_in (n := 6) (by decide) (by decide)) rfl ?_
                refine xi_iload_n (pc' := 14) (x := 1) kc_93_13 rfl rfl ?_
                refine xi_iload_n (pc' := 15) (x := a3) kc_93_14 rfl rfl ?_
                refine xi_virtual (mj := 94) (as := [.int 1, .int a3]) (st1 := []) (lv0 := [(0, .ref 26), (1, .int 1), (2, .int a3)]) kc_93_15 rfl rfl rfl rfl rfl ((eh1.2.1 26 (by decide)).trans (F 26 _ hl_26)) (Nat.le_of_ble_eq_true rfl) (hJ _ _ _ _ (by decide)) (xm_le ml_94 rfl) rfl ?_
                refine xi_iload_n (pc' := 1) (x := 1) kc_94_0 rfl rfl ?_
                refine xi_iff (pc' := 4) kc_94_1 rfl rfl ?_
                refine xi_iload_n (pc' := 5) (x := 1) kc_94_4 rfl rfl ?_
                refine xi_iconst (pc' := 6) (v := 5) kc_94_5 rfl rfl ?_
                refine xi_cmt (pc' := 11) kc_94_6 rfl rfl ?_
                refine xi_aload_n (pc' := 12) (x := 26) kc_94_11 rfl rfl ?_
                refine xi_getfield (pc' := 15) (v := .ref 27) kc_94_12 rfl rfl rfl ((eh1.2.1 26 (by decide)).trans (F 26 _ hl_26)) rfl ?_
                refine xi_iload_n (pc' := 16) (x := 1) kc_94_15 rfl rfl ?_
                refine xi_iaload (pc' := 17) (v := 18) kc_94_16 rfl ((eh1.2.1 27 (by decide)).trans (F 27 _ hl_27)) (by decide) rfl (xi_in (n := 5) (by decide) (by decide)) rfl ?_
                refine xi_istore_n (pc' := 18) (lv' := [(3, .int 18), (0, .ref 26), (1, .int 1), (2, .int a3)]) kc_94_17 rfl rfl (xm_lt ml_94 rfl) ?_
                refine xi_aload_n (pc' := 19) (x := 26) kc_94_18 rfl rfl ?_
                refine xi_getfield (pc' := 22) (v := .ref 27) kc_94_19 rfl rfl rfl ((eh1.2.1 26 (by decide)).trans (F 26 _ hl_26)) rfl ?_
                refine xi_iload_n (pc' := 23) (x := 1) kc_94_22 rfl rfl ?_
                refine xi_iload_n (pc' := 24) (x := a3) kc_94_23 rfl rfl ?_
                refine xi_iastore (pc' := 25) (x' := [40, a3, 10, 0, 0]) kc_94_24 rfl ((eh1.2.1 27 (by decide)).trans (F 27 _ hl_27)) rfl (xi_in (n := 5) (by decide) (by decide)) rfl (fun hh2 eh2 => ?_)
                refine xi_iload_n (pc' := 26) (x := 18) kc_94_25 rfl rfl ?_
                refine xi_ireturn kc_94_26 mr_94 rfl ?_
                show xw J ov 98 93 (18, [(0, .ref 1), (1, .int 5), (2, .int 1), (3, .int a3)], [.int 18], hh2) _
                refine xi_goto (pc' := 22) kc_93_18 rfl ?_
                refine xi_ireturn kc_93_22 mr_93 rfl ?_
                show xw J ov 99 89 (107, [(0, .ref 0), (1, .int 5), (2, .int 1), (3, .int a3)], [.int 18], hh2) _
                refine xi_ireturn kc_89_107 mr_89 rfl ?_
                show xw J ov 100 196 (214, [(4, .int 0), (3, .ref 167), (2, .ref 115), (1, .ref 0), (0, .ref 1000000)], [.int 18], hh2) _
                refine xi_aload_n (pc' := 215) (x := 115) kc_196_214 rfl rfl ?_
                refine xi_aload_n (pc' := 216) (x := 1000000) kc_196_215 rfl rfl ?_
                refine xi_iload (pc' := 218) (x := 0) kc_196_216 rfl rfl ?_
                refine xi_iconst (pc' := 219) (v := 1) kc_196_218 rfl rfl ?_
                refine xi_iadd (pc' := 220) (v := 1) kc_196_219 rfl rfl ?_
                refine xi_ialoadO (pc' := 221) (v := 5) kc_196_220 rfl (by decide) hov0 (xi_in (n := 6) (by decide) (by decide)) rfl ?_
                refine xi_aload_n (pc' := 222) (x := 1000000) kc_196_221 rfl rfl ?_
                refine xi_iload (pc' := 224) (x := 0) kc_196_222 rfl rfl ?_
                refine xi_iconst (pc' := 225) (v := 2) kc_196_224 rfl rfl ?_
                refine xi_iadd (pc' := 226) (v := 2) kc_196_225 rfl rfl ?_
                refine xi_ialoadO (pc' := 227) (v := 1) kc_196_226 rfl (by decide) hov0 (xi_in (n := 6) (by decide) (by decide)) rfl ?_
                refine xi_aload_n (pc' := 228) (x := 1000000) kc_196_227 rfl rfl ?_
                refine xi_iload (pc' := 230) (x := 0) kc_196_228 rfl rfl ?_
                refine xi_iconst (pc' := 231) (v := 3) kc_196_230 rfl rfl ?_
                refine xi_iadd (pc' := 232) (v := 3) kc_196_231 rfl rfl ?_
                refine xi_ialoadO (pc' := 233) (v := a3) kc_196_232 rfl (by decide) hov0 (xi_in (n := 6) (by decide) (by decide)) rfl ?_
                refine xi_virtual (mj := 10) (as := [.int 5, .int 1, .int a3]) (st1 := [.int 18]) (lv0 := [(0, .ref 115), (1, .int 5), (2, .int 1), (3, .int a3)]) kc_196_233 rfl rfl rfl rfl rfl ((eh2.2.1 115 (by decide)).trans ((eh1.2.1 115 (by decide)).trans (F 115 _ hl_115))) (Nat.le_of_ble_eq_true rfl) (hJ _ _ _ _ (by decide)) (xm_le ml_10 rfl) rfl ?_
                refine xi_aload_n (pc' := 1) (x := 115) kc_10_0 rfl rfl ?_
                refine xi_iconst (pc' := 2) (v := 0) kc_10_1 rfl rfl ?_
                refine xi_putfield (pc' := 5) (fs' := [.int 0, .int 0, .ref 116, .ref 117, .ref 118, .ref 119, .ref 120, .ref 121, .ref 122, .ref 123, .ref 124, .ref 125, .ref 126, .ref 127, .ref 128, .ref 129, .int 4, .ref 130, .int 0, .ref 131, .ref 132, .ref 133, .ref 134, .int 0, .ref 135, .ref 136, .ref 137, .ref 138, .ref 139, .ref 140, .ref 141, .ref 142, .int 0, .int 0, .int 0, .ref 143, .ref 144, .ref 145, .ref 146, .ref 147, .ref 148, .int 0, .ref 149, .ref 150, .ref 151, .int 0, .ref 152, .ref 153, .ref 154, .ref 155, .ref 156, .ref 157, .ref 158, .ref 159, .int 0, .ref 160, .int 0, .ref 161, .ref 162, .ref 163, .ref 164, .int 0, .ref 165, .ref 166]) kc_10_2 rfl rfl rfl ((eh2.2.1 115 (by decide)).trans ((eh1.2.1 115 (by decide)).trans (F 115 _ hl_115))) rfl rfl rfl (Nat.le_of_ble_eq_true rfl) rfl (fun hh3 eh3 => ?_)
                refine xi_iload_n (pc' := 6) (x := 5) kc_10_5 rfl rfl ?_
                refine xi_static (mj := 11) (as := [.int 5]) (st1 := []) (lv0 := [(0, .int 5)]) kc_10_6 rfl rfl (Nat.le_of_ble_eq_true rfl) rfl rfl (Nat.le_of_ble_eq_true rfl) (hJ _ _ _ _ (by decide)) (xm_le ml_11 rfl) rfl ?_
                refine xi_iload_n (pc' := 1) (x := 5) kc_11_0 rfl rfl ?_
                refine xi_iconst (pc' := 2) (v := 0) kc_11_1 rfl rfl ?_
                refine xi_iconst (pc' := 3) (v := 5) kc_11_2 rfl rfl ?_
                refine xi_static (mj := 12) (as := [.int 5, .int 0, .int 5]) (st1 := []) (lv0 := [(0, .int 5), (1, .int 0), (2, .int 5)]) kc_11_3 rfl rfl (Nat.le_of_ble_eq_true rfl) rfl rfl (Nat.le_of_ble_eq_true rfl) (hJ _ _ _ _ (by decide)) (xm_le ml_12 rfl) rfl ?_
                refine xi_iload_n (pc' := 1) (x := 5) kc_12_0 rfl rfl ?_
                refine xi_iload_n (pc' := 2) (x := 0) kc_12_1 rfl rfl ?_
                refine xi_cmf (pc' := 5) kc_12_2 rfl rfl ?_
                refine xi_iload_n (pc' := 6) (x := 5) kc_12_5 rfl rfl ?_
                refine xi_iload_n (pc' := 7) (x := 5) kc_12_6 rfl rfl ?_
                refine xi_cmf (pc' := 10) kc_12_7 rfl rfl ?_
                refine xi_iconst (pc' := 11) (v := 1) kc_12_10 rfl rfl ?_
                refine xi_goto (pc' := 15) kc_12_11 rfl ?_
                refine xi_ireturn kc_12_15 mr_12 rfl ?_
                show xw J ov 98 11 (6, [(0, .int 5)], [.int 1], hh3) _
                refine xi_ireturn kc_11_6 mr_11 rfl ?_
                show xw J ov 99 10 (9, [(0, .ref 115), (1, .int 5), (2, .int 1), (3, .int a3)], [.int 1], hh3) _
                refine xi_ift (pc' := 18) kc_10_9 rfl rfl ?_
                refine xi_iload_n (pc' := 19) (x := 1) kc_10_18 rfl rfl ?_
                refine xi_iconst (pc' := 20) (v := 0) kc_10_19 rfl rfl ?_
                refine xi_iconst (pc' := 21) (v := 5) kc_10_20 rfl rfl ?_
                refine xi_static (mj := 12) (as := [.int 1, .int 0, .int 5]) (st1 := []) (lv0 := [(0, .int 1), (1, .int 0), (2, .int 5)]) kc_10_21 rfl rfl (Nat.le_of_ble_eq_true rfl) rfl rfl (Nat.le_of_ble_eq_true rfl) (hJ _ _ _ _ (by decide)) (xm_le ml_12 rfl) rfl ?_
                refine xi_iload_n (pc' := 1) (x := 1) kc_12_0 rfl rfl ?_
                refine xi_iload_n (pc' := 2) (x := 0) kc_12_1 rfl rfl ?_
                refine xi_cmf (pc' := 5) kc_12_2 rfl rfl ?_
                refine xi_iload_n (pc' := 6) (x := 1) kc_12_5 rfl rfl ?_
                refine xi_iload_n (pc' := 7) (x := 5) kc_12_6 rfl rfl ?_
                refine xi_cmf (pc' := 10) kc_12_7 rfl rfl ?_
                refine xi_iconst (pc' := 11) (v := 1) kc_12_10 rfl rfl ?_
                refine xi_goto (pc' := 15) kc_12_11 rfl ?_
                refine xi_ireturn kc_12_15 mr_12 rfl ?_
                show xw J ov 99 10 (24, [(0, .ref 115), (1, .int 5), (2, .int 1), (3, .int a3)], [.int 1], hh3) _
                refine xi_ift (pc' := 34) kc_10_24 rfl rfl ?_
                refine xi_iload_n (pc' := 35) (x := a3) kc_10_34 rfl rfl ?_
                refine xi_iload_n (pc' := 36) (x := 1) kc_10_35 rfl rfl ?_
                refine xi_ift (pc' := 44) kc_10_36 rfl rfl ?_
                refine xi_iconst (pc' := 45) (v := 0) kc_10_44 rfl rfl ?_
                refine xi_cmt (pc' := 55) kc_10_45 rfl (xc_ge_t (X := a3.toInt) (Y := 0) rfl (by decide) (by omega)) ?_
                refine xi_iload_n (pc' := 56) (x := a3) kc_10_55 rfl rfl ?_
                refine xi_iload_n (pc' := 57) (x := 1) kc_10_56 rfl rfl ?_
                refine xi_ift (pc' := 65) kc_10_57 rfl rfl ?_
                refine xi_iload_n (pc' := 66) (x := 1) kc_10_65 rfl rfl ?_
                refine xi_iconst (pc' := 67) (v := 1) kc_10_66 rfl rfl ?_
                refine xi_cmf (pc' := 70) kc_10_67 rfl rfl ?_
                refine xi_bipush (pc' := 72) (v := 30) kc_10_70 rfl rfl ?_
                refine xi_goto (pc' := 96) kc_10_72 rfl ?_
                refine xi_cmt (pc' := 106) kc_10_96 rfl (xc_le_t (X := a3.toInt) (Y := 30) rfl (by decide) (by omega)) ?_
                refine xi_aload_n (pc' := 107) (x := 115) kc_10_106 rfl rfl ?_
                refine xi_iload_n (pc' := 108) (x := 5) kc_10_107 rfl rfl ?_
                refine xi_iload_n (pc' := 109) (x := 1) kc_10_108 rfl rfl ?_
                refine xi_virtual (mj := 14) (as := [.int 5, .int 1]) (st1 := []) (lv0 := [(0, .ref 115), (1, .int 5), (2, .int 1)]) kc_10_109 rfl rfl rfl rfl rfl eh3.1 (Nat.le_of_ble_eq_true rfl) (hJ _ _ _ _ (by decide)) (xm_le ml_14 rfl) rfl ?_
                refine xi_iload_n (pc' := 1) (x := 1) kc_14_0 rfl rfl ?_
                refine xi_tsi (pc' := 43) (z := 1) kc_14_1 (rfl) rfl (by decide) ?_
                refine xi_aload_n (pc' := 44) (x := 115) kc_14_43 rfl rfl ?_
                refine xi_getfield (pc' := 47) (v := .ref 117) kc_14_44 rfl rfl rfl eh3.1 rfl ?_
                refine xi_iload_n (pc' := 48) (x := 5) kc_14_47 rfl rfl ?_
                refine xi_iaload (pc' := 49) (v := 18) kc_14_48 rfl ((eh3.2.1 117 (by decide)).trans ((eh2.2.1 117 (by decide)).trans ((eh1.2.1 117 (by decide)).trans (F 117 _ hl_117)))) (by decide) rfl (xi_in (n := 6) (by decide) (by decide)) rfl ?_
                refine xi_ireturn kc_14_49 mr_14 rfl ?_
                show xw J ov 99 10 (112, [(0, .ref 115), (1, .int 5), (2, .int 1), (3, .int a3)], [.int 18], hh3) _
                refine xi_istore (pc' := 114) (lv' := [(4, .int 18), (0, .ref 115), (1, .int 5), (2, .int 1), (3, .int a3)]) kc_10_112 rfl rfl (xm_lt ml_10 rfl) ?_
                refine xi_aload_n (pc' := 115) (x := 115) kc_10_114 rfl rfl ?_
                refine xi_iload_n (pc' := 116) (x := 5) kc_10_115 rfl rfl ?_
                refine xi_iload_n (pc' := 117) (x := 1) kc_10_116 rfl rfl ?_
                refine xi_iload_n (pc' := 118) (x := a3) kc_10_117 rfl rfl ?_
                refine xi_virtual (mj := 15) (as := [.int 5, .int 1, .int a3]) (st1 := []) (lv0 := [(0, .ref 115), (1, .int 5), (2, .int 1), (3, .int a3)]) kc_10_118 rfl rfl rfl rfl rfl eh3.1 (Nat.le_of_ble_eq_true rfl) (hJ _ _ _ _ (by decide)) (xm_le ml_15 rfl) rfl ?_
                refine xi_aload_n (pc' := 1) (x := 115) kc_15_0 rfl rfl ?_
                refine xi_getfield (pc' := 4) (v := .ref 116) kc_15_1 rfl rfl rfl eh3.1 rfl ?_
                refine xi_iload_n (pc' := 5) (x := 5) kc_15_4 rfl rfl ?_
                refine xi_iload_n (pc' := 6) (x := 1) kc_15_5 rfl rfl ?_
                refine xi_ift (pc' := 13) kc_15_6 rfl rfl ?_
                refine xi_aload_n (pc' := 14) (x := 115) kc_15_13 rfl rfl ?_
                refine xi_getfield (pc' := 17) (v := .ref 116) kc_15_14 rfl rfl rfl eh3.1 rfl ?_
                refine xi_iload_n (pc' := 18) (x := 5) kc_15_17 rfl rfl ?_
                refine xi_iaload (pc' := 19) (v := 40) kc_15_18 rfl ((eh3.2.1 116 (by decide)).trans ((eh2.2.1 116 (by decide)).trans ((eh1.2.1 116 (by decide)).trans (F 116 _ hl_116)))) (by decide) rfl (xi_in (n := 6) (by decide) (by decide)) rfl ?_
                refine xi_iastore (pc' := 20) (x' := [40, 40, 40, 40, 40, 40]) kc_15_19 rfl ((eh3.2.1 116 (by decide)).trans ((eh2.2.1 116 (by decide)).trans ((eh1.2.1 116 (by decide)).trans (F 116 _ hl_116)))) rfl (xi_in (n := 6) (by decide) (by decide)) rfl (fun hh4 eh4 => ?_)
                refine xi_aload_n (pc' := 21) (x := 115) kc_15_20 rfl rfl ?_
                refine xi_getfield (pc' := 24) (v := .ref 117) kc_15_21 rfl rfl rfl ((eh4.2.1 115 (by decide)).trans eh3.1) rfl ?_
                refine xi_iload_n (pc' := 25) (x := 5) kc_15_24 rfl rfl ?_
                refine xi_iload_n (pc' := 26) (x := 1) kc_15_25 rfl rfl ?_
                refine xi_iconst (pc' := 27) (v := 1) kc_15_26 rfl rfl ?_
                refine xi_cmf (pc' := 30) kc_15_27 rfl rfl ?_
                refine xi_iload_n (pc' := 31) (x := a3) kc_15_30 rfl rfl ?_
                refine xi_goto (pc' := 40) kc_15_31 rfl ?_
                refine xi_iastore (pc' := 41) (x' := [18, 18, 18, 18, 18, a3]) kc_15_40 rfl ((eh4.2.1 117 (by decide)).trans ((eh3.2.1 117 (by decide)).trans ((eh2.2.1 117 (by decide)).trans ((eh1.2.1 117 (by decide)).trans (F 117 _ hl_117))))) rfl (xi_in (n := 6) (by decide) (by decide)) rfl (fun hh5 eh5 => ?_)
                refine xi_aload_n (pc' := 42) (x := 115) kc_15_41 rfl rfl ?_
                refine xi_getfield (pc' := 45) (v := .ref 118) kc_15_42 rfl rfl rfl ((eh5.2.1 115 (by decide)).trans ((eh4.2.1 115 (by decide)).trans eh3.1)) rfl ?_
                refine xi_iload_n (pc' := 46) (x := 5) kc_15_45 rfl rfl ?_
                refine xi_iload_n (pc' := 47) (x := 1) kc_15_46 rfl rfl ?_
                refine xi_iconst (pc' := 48) (v := 2) kc_15_47 rfl rfl ?_
                refine xi_cmt (pc' := 55) kc_15_48 rfl rfl ?_
                refine xi_aload_n (pc' := 56) (x := 115) kc_15_55 rfl rfl ?_
                refine xi_getfield (pc' := 59) (v := .ref 118) kc_15_56 rfl rfl rfl ((eh5.2.1 115 (by decide)).trans ((eh4.2.1 115 (by decide)).trans eh3.1)) rfl ?_
                refine xi_iload_n (pc' := 60) (x := 5) kc_15_59 rfl rfl ?_
                refine xi_iaload (pc' := 61) (v := 10) kc_15_60 rfl ((eh5.2.1 118 (by decide)).trans ((eh4.2.1 118 (by decide)).trans ((eh3.2.1 118 (by decide)).trans ((eh2.2.1 118 (by decide)).trans ((eh1.2.1 118 (by decide)).trans (F 118 _ hl_118)))))) (by decide) rfl (xi_in (n := 6) (by decide) (by decide)) rfl ?_
                refine xi_iastore (pc' := 62) (x' := [10, 10, 10, 10, 10, 10]) kc_15_61 rfl ((eh5.2.1 118 (by decide)).trans ((eh4.2.1 118 (by decide)).trans ((eh3.2.1 118 (by decide)).trans ((eh2.2.1 118 (by decide)).trans ((eh1.2.1 118 (by decide)).trans (F 118 _ hl_118)))))) rfl (xi_in (n := 6) (by decide) (by decide)) rfl (fun hh6 eh6 => ?_)
                refine xi_aload_n (pc' := 63) (x := 115) kc_15_62 rfl rfl ?_
                refine xi_getfield (pc' := 66) (v := .ref 119) kc_15_63 rfl rfl rfl ((eh6.2.1 115 (by decide)).trans ((eh5.2.1 115 (by decide)).trans ((eh4.2.1 115 (by decide)).trans eh3.1))) rfl ?_
                refine xi_iload_n (pc' := 67) (x := 5) kc_15_66 rfl rfl ?_
                refine xi_iload_n (pc' := 68) (x := 1) kc_15_67 rfl rfl ?_
                refine xi_iconst (pc' := 69) (v := 3) kc_15_68 rfl rfl ?_
                refine xi_cmt (pc' := 76) kc_15_69 rfl rfl ?_
                refine xi_aload_n (pc' := 77) (x := 115) kc_15_76 rfl rfl ?_
                refine xi_getfield (pc' := 80) (v := .ref 119) kc_15_77 rfl rfl rfl ((eh6.2.1 115 (by decide)).trans ((eh5.2.1 115 (by decide)).trans ((eh4.2.1 115 (by decide)).trans eh3.1))) rfl ?_
                refine xi_iload_n (pc' := 81) (x := 5) kc_15_80 rfl rfl ?_
                refine xi_iaload (pc' := 82) (v := 0) kc_15_81 rfl ((eh6.2.1 119 (by decide)).trans ((eh5.2.1 119 (by decide)).trans ((eh4.2.1 119 (by decide)).trans ((eh3.2.1 119 (by decide)).trans ((eh2.2.1 119 (by decide)).trans ((eh1.2.1 119 (by decide)).trans (F 119 _ hl_119))))))) (by decide) rfl (xi_in (n := 6) (by decide) (by decide)) rfl ?_
                refine xi_iastore (pc' := 83) (x' := [0, 0, 0, 0, 0, 0]) kc_15_82 rfl ((eh6.2.1 119 (by decide)).trans ((eh5.2.1 119 (by decide)).trans ((eh4.2.1 119 (by decide)).trans ((eh3.2.1 119 (by decide)).trans ((eh2.2.1 119 (by decide)).trans ((eh1.2.1 119 (by decide)).trans (F 119 _ hl_119))))))) rfl (xi_in (n := 6) (by decide) (by decide)) rfl (fun hh7 eh7 => ?_)
                refine xi_aload_n (pc' := 84) (x := 115) kc_15_83 rfl rfl ?_
                refine xi_getfield (pc' := 87) (v := .ref 120) kc_15_84 rfl rfl rfl ((eh7.2.1 115 (by decide)).trans ((eh6.2.1 115 (by decide)).trans ((eh5.2.1 115 (by decide)).trans ((eh4.2.1 115 (by decide)).trans eh3.1)))) rfl ?_
                refine xi_iload_n (pc' := 88) (x := 5) kc_15_87 rfl rfl ?_
                refine xi_iload_n (pc' := 89) (x := 1) kc_15_88 rfl rfl ?_
                refine xi_iconst (pc' := 90) (v := 4) kc_15_89 rfl rfl ?_
                refine xi_cmt (pc' := 97) kc_15_90 rfl rfl ?_
                refine xi_aload_n (pc' := 98) (x := 115) kc_15_97 rfl rfl ?_
                refine xi_getfield (pc' := 101) (v := .ref 120) kc_15_98 rfl rfl rfl ((eh7.2.1 115 (by decide)).trans ((eh6.2.1 115 (by decide)).trans ((eh5.2.1 115 (by decide)).trans ((eh4.2.1 115 (by decide)).trans eh3.1)))) rfl ?_
                refine xi_iload_n (pc' := 102) (x := 5) kc_15_101 rfl rfl ?_
                refine xi_iaload (pc' := 103) (v := 0) kc_15_102 rfl ((eh7.2.1 120 (by decide)).trans ((eh6.2.1 120 (by decide)).trans ((eh5.2.1 120 (by decide)).trans ((eh4.2.1 120 (by decide)).trans ((eh3.2.1 120 (by decide)).trans ((eh2.2.1 120 (by decide)).trans ((eh1.2.1 120 (by decide)).trans (F 120 _ hl_120)))))))) (by decide) rfl (xi_in (n := 6) (by decide) (by decide)) rfl ?_
                refine xi_iastore (pc' := 104) (x' := [0, 0, 0, 0, 0, 0]) kc_15_103 rfl ((eh7.2.1 120 (by decide)).trans ((eh6.2.1 120 (by decide)).trans ((eh5.2.1 120 (by decide)).trans ((eh4.2.1 120 (by decide)).trans ((eh3.2.1 120 (by decide)).trans ((eh2.2.1 120 (by decide)).trans ((eh1.2.1 120 (by decide)).trans (F 120 _ hl_120)))))))) rfl (xi_in (n := 6) (by decide) (by decide)) rfl (fun hh8 eh8 => ?_)
                refine xi_aload_n (pc' := 105) (x := 115) kc_15_104 rfl rfl ?_
                refine xi_getfield (pc' := 108) (v := .ref 121) kc_15_105 rfl rfl rfl ((eh8.2.1 115 (by decide)).trans ((eh7.2.1 115 (by decide)).trans ((eh6.2.1 115 (by decide)).trans ((eh5.2.1 115 (by decide)).trans ((eh4.2.1 115 (by decide)).trans eh3.1))))) rfl ?_
                refine xi_iload_n (pc' := 109) (x := 5) kc_15_108 rfl rfl ?_
                refine xi_iload_n (pc' := 110) (x := 1) kc_15_109 rfl rfl ?_
                refine xi_iconst (pc' := 111) (v := 5) kc_15_110 rfl rfl ?_
                refine xi_cmt (pc' := 118) kc_15_111 rfl rfl ?_
                refine xi_aload_n (pc' := 119) (x := 115) kc_15_118 rfl rfl ?_
                refine xi_getfield (pc' := 122) (v := .ref 121) kc_15_119 rfl rfl rfl ((eh8.2.1 115 (by decide)).trans ((eh7.2.1 115 (by decide)).trans ((eh6.2.1 115 (by decide)).trans ((eh5.2.1 115 (by decide)).trans ((eh4.2.1 115 (by decide)).trans eh3.1))))) rfl ?_
                refine xi_iload_n (pc' := 123) (x := 5) kc_15_122 rfl rfl ?_
                refine xi_iaload (pc' := 124) (v := 0) kc_15_123 rfl ((eh8.2.1 121 (by decide)).trans ((eh7.2.1 121 (by decide)).trans ((eh6.2.1 121 (by decide)).trans ((eh5.2.1 121 (by decide)).trans ((eh4.2.1 121 (by decide)).trans ((eh3.2.1 121 (by decide)).trans ((eh2.2.1 121 (by decide)).trans ((eh1.2.1 121 (by decide)).trans (F 121 _ hl_121))))))))) (by decide) rfl (xi_in (n := 6) (by decide) (by decide)) rfl ?_
                refine xi_iastore (pc' := 125) (x' := [0, 0, 0, 0, 0, 0]) kc_15_124 rfl ((eh8.2.1 121 (by decide)).trans ((eh7.2.1 121 (by decide)).trans ((eh6.2.1 121 (by decide)).trans ((eh5.2.1 121 (by decide)).trans ((eh4.2.1 121 (by decide)).trans ((eh3.2.1 121 (by decide)).trans ((eh2.2.1 121 (by decide)).trans ((eh1.2.1 121 (by decide)).trans (F 121 _ hl_121))))))))) rfl (xi_in (n := 6) (by decide) (by decide)) rfl (fun hh9 eh9 => ?_)
                refine xi_aload_n (pc' := 126) (x := 115) kc_15_125 rfl rfl ?_
                refine xi_iconst (pc' := 127) (v := 0) kc_15_126 rfl rfl ?_
                refine xi_putfield (pc' := 130) (fs' := [.int 0, .int 0, .ref 116, .ref 117, .ref 118, .ref 119, .ref 120, .ref 121, .ref 122, .ref 123, .ref 124, .ref 125, .ref 126, .ref 127, .ref 128, .ref 129, .int 4, .ref 130, .int 0, .ref 131, .ref 132, .ref 133, .ref 134, .int 0, .ref 135, .ref 136, .ref 137, .ref 138, .ref 139, .ref 140, .ref 141, .ref 142, .int 0, .int 0, .int 0, .ref 143, .ref 144, .ref 145, .ref 146, .ref 147, .ref 148, .int 0, .ref 149, .ref 150, .ref 151, .int 0, .ref 152, .ref 153, .ref 154, .ref 155, .ref 156, .ref 157, .ref 158, .ref 159, .int 0, .ref 160, .int 0, .ref 161, .ref 162, .ref 163, .ref 164, .int 0, .ref 165, .ref 166]) kc_15_127 rfl rfl rfl ((eh9.2.1 115 (by decide)).trans ((eh8.2.1 115 (by decide)).trans ((eh7.2.1 115 (by decide)).trans ((eh6.2.1 115 (by decide)).trans ((eh5.2.1 115 (by decide)).trans ((eh4.2.1 115 (by decide)).trans eh3.1)))))) rfl rfl rfl (Nat.le_of_ble_eq_true rfl) rfl (fun hh10 eh10 => ?_)
                refine xi_return kc_15_130 mr_15 ?_
                show xw J ov 99 10 (121, [(4, .int 18), (0, .ref 115), (1, .int 5), (2, .int 1), (3, .int a3)], [], hh10) _
                refine xi_iload (pc' := 123) (x := 18) kc_10_121 rfl rfl ?_
                refine xi_ireturn kc_10_123 mr_10 rfl ?_
                show xw J ov 100 196 (236, [(4, .int 0), (3, .ref 167), (2, .ref 115), (1, .ref 0), (0, .ref 1000000)], [.int 18, .int 18], hh10) _
                refine xi_cmt (pc' := 1528) kc_196_236 rfl rfl ?_
                refine xi_iinc (pc' := 1531) (x := 0) (v := 6) (lv' := [(4, .int 6), (3, .ref 167), (2, .ref 115), (1, .ref 0), (0, .ref 1000000)]) kc_196_1528 rfl rfl rfl rfl (xm_lt ml_196 rfl) ?_
                refine xi_goto (pc' := 23) kc_196_1531 rfl ?_
                refine xi_iload (pc' := 25) (x := 6) kc_196_23 rfl rfl ?_
                refine xi_aload_n (pc' := 26) (x := 1000000) kc_196_25 rfl rfl ?_
                refine xi_arraylength (pc' := 27) (n := 6) (v := 6) kc_196_26 rfl (xl_lenO (by decide) hov0 rfl) rfl ?_
                refine xi_bipush (pc' := 29) (v := 6) kc_196_27 rfl rfl ?_
                refine xi_isub (pc' := 30) (v := 0) kc_196_29 rfl rfl ?_
                refine xi_cmt (pc' := 1534) kc_196_30 rfl rfl ?_
                refine xi_iconst (pc' := 1535) (v := 1) kc_196_1534 rfl rfl ?_
                refine xi_ireturn kc_196_1535 mr_196 rfl ?_
                refine ⟨rfl, ?_, ?_⟩
                · rw [eh10.2.2.1, eh9.2.2.1, eh8.2.2.1, eh7.2.2.1, eh6.2.2.1, eh5.2.2.1, eh4.2.2.1, eh3.2.2.1, eh2.2.2.1, eh1.2.2.1]; exact hn0
                · rw [eh10.2.2.2, eh9.2.2.2, eh8.2.2.2, eh7.2.2.2, eh6.2.2.2, eh5.2.2.2, eh4.2.2.2, eh3.2.2.2, eh2.2.2.2, eh1.2.2.2]; exact hz0
              · refine xi_cmf (pc' := 54) kc_89_51 rfl (xc_le_f (X := a3.toInt) (Y := 30) rfl (by decide) (by omega)) ?_
                refine xi_aload_n (pc' := 55) (x := 0) kc_89_54 rfl rfl ?_
                refine xi_bipush (pc' := 57) (v := (-6)) kc_89_55 rfl rfl ?_
                refine xi_virtual (mj := 91) (as := [.int (-6)]) (st1 := []) (lv0 := [(0, .ref 0), (1, .int (-6))]) kc_89_57 rfl rfl rfl rfl rfl (F 0 _ hl_0) (Nat.le_of_ble_eq_true rfl) (hJ _ _ _ _ (by decide)) (xm_le ml_91 rfl) rfl ?_
                refine xi_iload_n (pc' := 1) (x := (-6)) kc_91_0 rfl rfl ?_
                refine xi_ineg (pc' := 2) (v := 6) kc_91_1 rfl rfl ?_
                refine xi_istore_n (pc' := 3) (lv' := [(2, .int 6), (0, .ref 0), (1, .int (-6))]) kc_91_2 rfl rfl (xm_lt ml_91 rfl) ?_
                refine xi_iload_n (pc' := 4) (x := 6) kc_91_3 rfl rfl ?_
                refine xi_iff (pc' := 7) kc_91_4 rfl rfl ?_
                refine xi_iload_n (pc' := 8) (x := 6) kc_91_7 rfl rfl ?_
                refine xi_aload_n (pc' := 9) (x := 0) kc_91_8 rfl rfl ?_
                refine xi_getfield (pc' := 12) (v := .ref 94) kc_91_9 rfl rfl rfl (F 0 _ hl_0) rfl ?_
                refine xi_arraylength (pc' := 13) (n := 7) (v := 7) kc_91_12 rfl (xl_lenI (by decide) (by decide) (F 94 _ hl_94) (by simp only [List.length_replicate, List.length_cons, List.length_nil])) rfl ?_
                refine xi_cmf (pc' := 16) kc_91_13 rfl rfl ?_
                refine xi_aload_n (pc' := 17) (x := 0) kc_91_16 rfl rfl ?_
                refine xi_getfield (pc' := 20) (v := .ref 94) kc_91_17 rfl rfl rfl (F 0 _ hl_0) rfl ?_
                refine xi_iload_n (pc' := 21) (x := 6) kc_91_20 rfl rfl ?_
                refine xi_dup2 (pc' := 22) kc_91_21 rfl ⟨rfl, rfl⟩ ?_
                refine xi_iaload (pc' := 23) (v := 0) kc_91_22 rfl (F 94 _ hl_94) (by decide) rfl (xi_in (n := 7) (by decide) (by decide)) rfl ?_
                refine xi_iconst (pc' := 24) (v := 1) kc_91_23 rfl rfl ?_
                refine xi_iadd (pc' := 25) (v := 1) kc_91_24 rfl rfl ?_
                refine xi_iastore (pc' := 26) (x' := [0, 0, 0, 0, 0, 0, 1]) kc_91_25 rfl (F 94 _ hl_94) rfl (xi_in (n := 7) (by decide) (by decide)) rfl (fun hh1 eh1 => ?_)
                refine xi_iload_n (pc' := 27) (x := (-6)) kc_91_26 rfl rfl ?_
                refine xi_ireturn kc_91_27 mr_91 rfl ?_
                show xw J ov 99 89 (60, [(0, .ref 0), (1, .int a1), (2, .int 1), (3, .int a3)], [.int (-6)], hh1) _
                refine xi_ireturn kc_89_60 mr_89 rfl ?_
                show xw J ov 100 196 (214, [(4, .int 0), (3, .ref 167), (2, .ref 115), (1, .ref 0), (0, .ref 1000000)], [.int (-6)], hh1) _
                refine xi_aload_n (pc' := 215) (x := 115) kc_196_214 rfl rfl ?_
                refine xi_aload_n (pc' := 216) (x := 1000000) kc_196_215 rfl rfl ?_
                refine xi_iload (pc' := 218) (x := 0) kc_196_216 rfl rfl ?_
                refine xi_iconst (pc' := 219) (v := 1) kc_196_218 rfl rfl ?_
                refine xi_iadd (pc' := 220) (v := 1) kc_196_219 rfl rfl ?_
                refine xi_ialoadO (pc' := 221) (v := a1) kc_196_220 rfl (by decide) hov0 (xi_in (n := 6) (by decide) (by decide)) rfl ?_
                refine xi_aload_n (pc' := 222) (x := 1000000) kc_196_221 rfl rfl ?_
                refine xi_iload (pc' := 224) (x := 0) kc_196_222 rfl rfl ?_
                refine xi_iconst (pc' := 225) (v := 2) kc_196_224 rfl rfl ?_
                refine xi_iadd (pc' := 226) (v := 2) kc_196_225 rfl rfl ?_
                refine xi_ialoadO (pc' := 227) (v := 1) kc_196_226 rfl (by decide) hov0 (xi_in (n := 6) (by decide) (by decide)) rfl ?_
                refine xi_aload_n (pc' := 228) (x := 1000000) kc_196_227 rfl rfl ?_
                refine xi_iload (pc' := 230) (x := 0) kc_196_228 rfl rfl ?_
                refine xi_iconst (pc' := 231) (v := 3) kc_196_230 rfl rfl ?_
                refine xi_iadd (pc' := 232) (v := 3) kc_196_231 rfl rfl ?_
                refine xi_ialoadO (pc' := 233) (v := a3) kc_196_232 rfl (by decide) hov0 (xi_in (n := 6) (by decide) (by decide)) rfl ?_
                refine xi_virtual (mj := 10) (as := [.int a1, .int 1, .int a3]) (st1 := [.int (-6)]) (lv0 := [(0, .ref 115), (1, .int a1), (2, .int 1), (3, .int a3)]) kc_196_233 rfl rfl rfl rfl rfl ((eh1.2.1 115 (by decide)).trans (F 115 _ hl_115)) (Nat.le_of_ble_eq_true rfl) (hJ _ _ _ _ (by decide)) (xm_le ml_10 rfl) rfl ?_
                refine xi_aload_n (pc' := 1) (x := 115) kc_10_0 rfl rfl ?_
                refine xi_iconst (pc' := 2) (v := 0) kc_10_1 rfl rfl ?_
                refine xi_putfield (pc' := 5) (fs' := [.int 0, .int 0, .ref 116, .ref 117, .ref 118, .ref 119, .ref 120, .ref 121, .ref 122, .ref 123, .ref 124, .ref 125, .ref 126, .ref 127, .ref 128, .ref 129, .int 4, .ref 130, .int 0, .ref 131, .ref 132, .ref 133, .ref 134, .int 0, .ref 135, .ref 136, .ref 137, .ref 138, .ref 139, .ref 140, .ref 141, .ref 142, .int 0, .int 0, .int 0, .ref 143, .ref 144, .ref 145, .ref 146, .ref 147, .ref 148, .int 0, .ref 149, .ref 150, .ref 151, .int 0, .ref 152, .ref 153, .ref 154, .ref 155, .ref 156, .ref 157, .ref 158, .ref 159, .int 0, .ref 160, .int 0, .ref 161, .ref 162, .ref 163, .ref 164, .int 0, .ref 165, .ref 166]) kc_10_2 rfl rfl rfl ((eh1.2.1 115 (by decide)).trans (F 115 _ hl_115)) rfl rfl rfl (Nat.le_of_ble_eq_true rfl) rfl (fun hh2 eh2 => ?_)
                refine xi_iload_n (pc' := 6) (x := a1) kc_10_5 rfl rfl ?_
                refine xi_static (mj := 11) (as := [.int a1]) (st1 := []) (lv0 := [(0, .int a1)]) kc_10_6 rfl rfl (Nat.le_of_ble_eq_true rfl) rfl rfl (Nat.le_of_ble_eq_true rfl) (hJ _ _ _ _ (by decide)) (xm_le ml_11 rfl) rfl ?_
                refine xi_iload_n (pc' := 1) (x := a1) kc_11_0 rfl rfl ?_
                refine xi_iconst (pc' := 2) (v := 0) kc_11_1 rfl rfl ?_
                refine xi_iconst (pc' := 3) (v := 5) kc_11_2 rfl rfl ?_
                refine xi_static (mj := 12) (as := [.int a1, .int 0, .int 5]) (st1 := []) (lv0 := [(0, .int a1), (1, .int 0), (2, .int 5)]) kc_11_3 rfl rfl (Nat.le_of_ble_eq_true rfl) rfl rfl (Nat.le_of_ble_eq_true rfl) (hJ _ _ _ _ (by decide)) (xm_le ml_12 rfl) rfl ?_
                refine xi_iload_n (pc' := 1) (x := a1) kc_12_0 rfl rfl ?_
                refine xi_iload_n (pc' := 2) (x := 0) kc_12_1 rfl rfl ?_
                refine xi_cmf (pc' := 5) kc_12_2 rfl (xc_lt_f (X := a1.toInt) (Y := 0) rfl (by decide) (by omega)) ?_
                refine xi_iload_n (pc' := 6) (x := a1) kc_12_5 rfl rfl ?_
                refine xi_iload_n (pc' := 7) (x := 5) kc_12_6 rfl rfl ?_
                refine xi_cmf (pc' := 10) kc_12_7 rfl (xc_gt_f (X := a1.toInt) (Y := 5) rfl (by decide) (by omega)) ?_
                refine xi_iconst (pc' := 11) (v := 1) kc_12_10 rfl rfl ?_
                refine xi_goto (pc' := 15) kc_12_11 rfl ?_
                refine xi_ireturn kc_12_15 mr_12 rfl ?_
                show xw J ov 98 11 (6, [(0, .int a1)], [.int 1], hh2) _
                refine xi_ireturn kc_11_6 mr_11 rfl ?_
                show xw J ov 99 10 (9, [(0, .ref 115), (1, .int a1), (2, .int 1), (3, .int a3)], [.int 1], hh2) _
                refine xi_ift (pc' := 18) kc_10_9 rfl rfl ?_
                refine xi_iload_n (pc' := 19) (x := 1) kc_10_18 rfl rfl ?_
                refine xi_iconst (pc' := 20) (v := 0) kc_10_19 rfl rfl ?_
                refine xi_iconst (pc' := 21) (v := 5) kc_10_20 rfl rfl ?_
                refine xi_static (mj := 12) (as := [.int 1, .int 0, .int 5]) (st1 := []) (lv0 := [(0, .int 1), (1, .int 0), (2, .int 5)]) kc_10_21 rfl rfl (Nat.le_of_ble_eq_true rfl) rfl rfl (Nat.le_of_ble_eq_true rfl) (hJ _ _ _ _ (by decide)) (xm_le ml_12 rfl) rfl ?_
                refine xi_iload_n (pc' := 1) (x := 1) kc_12_0 rfl rfl ?_
                refine xi_iload_n (pc' := 2) (x := 0) kc_12_1 rfl rfl ?_
                refine xi_cmf (pc' := 5) kc_12_2 rfl rfl ?_
                refine xi_iload_n (pc' := 6) (x := 1) kc_12_5 rfl rfl ?_
                refine xi_iload_n (pc' := 7) (x := 5) kc_12_6 rfl rfl ?_
                refine xi_cmf (pc' := 10) kc_12_7 rfl rfl ?_
                refine xi_iconst (pc' := 11) (v := 1) kc_12_10 rfl rfl ?_
                refine xi_goto (pc' := 15) kc_12_11 rfl ?_
                refine xi_ireturn kc_12_15 mr_12 rfl ?_
                show xw J ov 99 10 (24, [(0, .ref 115), (1, .int a1), (2, .int 1), (3, .int a3)], [.int 1], hh2) _
                refine xi_ift (pc' := 34) kc_10_24 rfl rfl ?_
                refine xi_iload_n (pc' := 35) (x := a3) kc_10_34 rfl rfl ?_
                refine xi_iload_n (pc' := 36) (x := 1) kc_10_35 rfl rfl ?_
                refine xi_ift (pc' := 44) kc_10_36 rfl rfl ?_
                refine xi_iconst (pc' := 45) (v := 0) kc_10_44 rfl rfl ?_
                refine xi_cmt (pc' := 55) kc_10_45 rfl (xc_ge_t (X := a3.toInt) (Y := 0) rfl (by decide) (by omega)) ?_
                refine xi_iload_n (pc' := 56) (x := a3) kc_10_55 rfl rfl ?_
                refine xi_iload_n (pc' := 57) (x := 1) kc_10_56 rfl rfl ?_
                refine xi_ift (pc' := 65) kc_10_57 rfl rfl ?_
                refine xi_iload_n (pc' := 66) (x := 1) kc_10_65 rfl rfl ?_
                refine xi_iconst (pc' := 67) (v := 1) kc_10_66 rfl rfl ?_
                refine xi_cmf (pc' := 70) kc_10_67 rfl rfl ?_
                refine xi_bipush (pc' := 72) (v := 30) kc_10_70 rfl rfl ?_
                refine xi_goto (pc' := 96) kc_10_72 rfl ?_
                refine xi_cmf (pc' := 99) kc_10_96 rfl (xc_le_f (X := a3.toInt) (Y := 30) rfl (by decide) (by omega)) ?_
                refine xi_aload_n (pc' := 100) (x := 115) kc_10_99 rfl rfl ?_
                refine xi_bipush (pc' := 102) (v := (-6)) kc_10_100 rfl rfl ?_
                refine xi_virtual (mj := 13) (as := [.int (-6)]) (st1 := []) (lv0 := [(0, .ref 115), (1, .int (-6))]) kc_10_102 rfl rfl rfl rfl rfl eh2.1 (Nat.le_of_ble_eq_true rfl) (hJ _ _ _ _ (by decide)) (xm_le ml_13 rfl) rfl ?_
                refine xi_aload_n (pc' := 1) (x := 115) kc_13_0 rfl rfl ?_
                refine xi_getfield (pc' := 4) (v := .ref 140) kc_13_1 rfl rfl rfl eh2.1 rfl ?_
                refine xi_iload_n (pc' := 5) (x := (-6)) kc_13_4 rfl rfl ?_
                refine xi_ineg (pc' := 6) (v := 6) kc_13_5 rfl rfl ?_
                refine xi_dup2 (pc' := 7) kc_13_6 rfl ⟨rfl, rfl⟩ ?_
                refine xi_iaload (pc' := 8) (v := 0) kc_13_7 rfl ((eh2.2.1 140 (by decide)).trans ((eh1.2.1 140 (by decide)).trans (F 140 _ hl_140))) (by decide) rfl (xi_in (n := 7) (by decide) (by decide)) rfl ?_
                refine xi_iconst (pc' := 9) (v := 1) kc_13_8 rfl rfl ?_
                refine xi_iadd (pc' := 10) (v := 1) kc_13_9 rfl rfl ?_
                refine xi_iastore (pc' := 11) (x' := [0, 0, 0, 0, 0, 0, 1]) kc_13_10 rfl ((eh2.2.1 140 (by decide)).trans ((eh1.2.1 140 (by decide)).trans (F 140 _ hl_140))) rfl (xi_in (n := 7) (by decide) (by decide)) rfl (fun hh3 eh3 => ?_)
                refine xi_iload_n (pc' := 12) (x := (-6)) kc_13_11 rfl rfl ?_
                refine xi_ireturn kc_13_12 mr_13 rfl ?_
                show xw J ov 99 10 (105, [(0, .ref 115), (1, .int a1), (2, .int 1), (3, .int a3)], [.int (-6)], hh3) _
                refine xi_ireturn kc_10_105 mr_10 rfl ?_
                show xw J ov 100 196 (236, [(4, .int 0), (3, .ref 167), (2, .ref 115), (1, .ref 0), (0, .ref 1000000)], [.int (-6), .int (-6)], hh3) _
                refine xi_cmt (pc' := 1528) kc_196_236 rfl rfl ?_
                refine xi_iinc (pc' := 1531) (x := 0) (v := 6) (lv' := [(4, .int 6), (3, .ref 167), (2, .ref 115), (1, .ref 0), (0, .ref 1000000)]) kc_196_1528 rfl rfl rfl rfl (xm_lt ml_196 rfl) ?_
                refine xi_goto (pc' := 23) kc_196_1531 rfl ?_
                refine xi_iload (pc' := 25) (x := 6) kc_196_23 rfl rfl ?_
                refine xi_aload_n (pc' := 26) (x := 1000000) kc_196_25 rfl rfl ?_
                refine xi_arraylength (pc' := 27) (n := 6) (v := 6) kc_196_26 rfl (xl_lenO (by decide) hov0 rfl) rfl ?_
                refine xi_bipush (pc' := 29) (v := 6) kc_196_27 rfl rfl ?_
                refine xi_isub (pc' := 30) (v := 0) kc_196_29 rfl rfl ?_
                refine xi_cmt (pc' := 1534) kc_196_30 rfl rfl ?_
                refine xi_iconst (pc' := 1535) (v := 1) kc_196_1534 rfl rfl ?_
                refine xi_ireturn kc_196_1535 mr_196 rfl ?_
                refine ⟨rfl, ?_, ?_⟩
                · rw [eh3.2.2.1, eh2.2.2.1, eh1.2.2.1]; exact hn0
                · rw [eh3.2.2.2, eh2.2.2.2, eh1.2.2.2]; exact hz0
            · refine xi_cmf (pc' := 38) kc_89_35 rfl (xc_ge_f (X := a3.toInt) (Y := 0) rfl (by decide) (by omega)) ?_
              refine xi_aload_n (pc' := 39) (x := 0) kc_89_38 rfl rfl ?_
              refine xi_bipush (pc' := 41) (v := (-4)) kc_89_39 rfl rfl ?_
              refine xi_virtual (mj := 91) (as := [.int (-4)]) (st1 := []) (lv0 := [(0, .ref 0), (1, .int (-4))]) kc_89_41 rfl rfl rfl rfl rfl (F 0 _ hl_0) (Nat.le_of_ble_eq_true rfl) (hJ _ _ _ _ (by decide)) (xm_le ml_91 rfl) rfl ?_
              refine xi_iload_n (pc' := 1) (x := (-4)) kc_91_0 rfl rfl ?_
              refine xi_ineg (pc' := 2) (v := 4) kc_91_1 rfl rfl ?_
              refine xi_istore_n (pc' := 3) (lv' := [(2, .int 4), (0, .ref 0), (1, .int (-4))]) kc_91_2 rfl rfl (xm_lt ml_91 rfl) ?_
              refine xi_iload_n (pc' := 4) (x := 4) kc_91_3 rfl rfl ?_
              refine xi_iff (pc' := 7) kc_91_4 rfl rfl ?_
              refine xi_iload_n (pc' := 8) (x := 4) kc_91_7 rfl rfl ?_
              refine xi_aload_n (pc' := 9) (x := 0) kc_91_8 rfl rfl ?_
              refine xi_getfield (pc' := 12) (v := .ref 94) kc_91_9 rfl rfl rfl (F 0 _ hl_0) rfl ?_
              refine xi_arraylength (pc' := 13) (n := 7) (v := 7) kc_91_12 rfl (xl_lenI (by decide) (by decide) (F 94 _ hl_94) (by simp only [List.length_replicate, List.length_cons, List.length_nil])) rfl ?_
              refine xi_cmf (pc' := 16) kc_91_13 rfl rfl ?_
              refine xi_aload_n (pc' := 17) (x := 0) kc_91_16 rfl rfl ?_
              refine xi_getfield (pc' := 20) (v := .ref 94) kc_91_17 rfl rfl rfl (F 0 _ hl_0) rfl ?_
              refine xi_iload_n (pc' := 21) (x := 4) kc_91_20 rfl rfl ?_
              refine xi_dup2 (pc' := 22) kc_91_21 rfl ⟨rfl, rfl⟩ ?_
              refine xi_iaload (pc' := 23) (v := 0) kc_91_22 rfl (F 94 _ hl_94) (by decide) rfl (xi_in (n := 7) (by decide) (by decide)) rfl ?_
              refine xi_iconst (pc' := 24) (v := 1) kc_91_23 rfl rfl ?_
              refine xi_iadd (pc' := 25) (v := 1) kc_91_24 rfl rfl ?_
              refine xi_iastore (pc' := 26) (x' := [0, 0, 0, 0, 1, 0, 0]) kc_91_25 rfl (F 94 _ hl_94) rfl (xi_in (n := 7) (by decide) (by decide)) rfl (fun hh1 eh1 => ?_)
              refine xi_iload_n (pc' := 27) (x := (-4)) kc_91_26 rfl rfl ?_
              refine xi_ireturn kc_91_27 mr_91 rfl ?_
              show xw J ov 99 89 (44, [(0, .ref 0), (1, .int a1), (2, .int 1), (3, .int a3)], [.int (-4)], hh1) _
              refine xi_ireturn kc_89_44 mr_89 rfl ?_
              show xw J ov 100 196 (214, [(4, .int 0), (3, .ref 167), (2, .ref 115), (1, .ref 0), (0, .ref 1000000)], [.int (-4)], hh1) _
              refine xi_aload_n (pc' := 215) (x := 115) kc_196_214 rfl rfl ?_
              refine xi_aload_n (pc' := 216) (x := 1000000) kc_196_215 rfl rfl ?_
              refine xi_iload (pc' := 218) (x := 0) kc_196_216 rfl rfl ?_
              refine xi_iconst (pc' := 219) (v := 1) kc_196_218 rfl rfl ?_
              refine xi_iadd (pc' := 220) (v := 1) kc_196_219 rfl rfl ?_
              refine xi_ialoadO (pc' := 221) (v := a1) kc_196_220 rfl (by decide) hov0 (xi_in (n := 6) (by decide) (by decide)) rfl ?_
              refine xi_aload_n (pc' := 222) (x := 1000000) kc_196_221 rfl rfl ?_
              refine xi_iload (pc' := 224) (x := 0) kc_196_222 rfl rfl ?_
              refine xi_iconst (pc' := 225) (v := 2) kc_196_224 rfl rfl ?_
              refine xi_iadd (pc' := 226) (v := 2) kc_196_225 rfl rfl ?_
              refine xi_ialoadO (pc' := 227) (v := 1) kc_196_226 rfl (by decide) hov0 (xi_in (n := 6) (by decide) (by decide)) rfl ?_
              refine xi_aload_n (pc' := 228) (x := 1000000) kc_196_227 rfl rfl ?_
              refine xi_iload (pc' := 230) (x := 0) kc_196_228 rfl rfl ?_
              refine xi_iconst (pc' := 231) (v := 3) kc_196_230 rfl rfl ?_
              refine xi_iadd (pc' := 232) (v := 3) kc_196_231 rfl rfl ?_
              refine xi_ialoadO (pc' := 233) (v := a3) kc_196_232 rfl (by decide) hov0 (xi_in (n := 6) (by decide) (by decide)) rfl ?_
              refine xi_virtual (mj := 10) (as := [.int a1, .int 1, .int a3]) (st1 := [.int (-4)]) (lv0 := [(0, .ref 115), (1, .int a1), (2, .int 1), (3, .int a3)]) kc_196_233 rfl rfl rfl rfl rfl ((eh1.2.1 115 (by decide)).trans (F 115 _ hl_115)) (Nat.le_of_ble_eq_true rfl) (hJ _ _ _ _ (by decide)) (xm_le ml_10 rfl) rfl ?_
              refine xi_aload_n (pc' := 1) (x := 115) kc_10_0 rfl rfl ?_
              refine xi_iconst (pc' := 2) (v := 0) kc_10_1 rfl rfl ?_
              refine xi_putfield (pc' := 5) (fs' := [.int 0, .int 0, .ref 116, .ref 117, .ref 118, .ref 119, .ref 120, .ref 121, .ref 122, .ref 123, .ref 124, .ref 125, .ref 126, .ref 127, .ref 128, .ref 129, .int 4, .ref 130, .int 0, .ref 131, .ref 132, .ref 133, .ref 134, .int 0, .ref 135, .ref 136, .ref 137, .ref 138, .ref 139, .ref 140, .ref 141, .ref 142, .int 0, .int 0, .int 0, .ref 143, .ref 144, .ref 145, .ref 146, .ref 147, .ref 148, .int 0, .ref 149, .ref 150, .ref 151, .int 0, .ref 152, .ref 153, .ref 154, .ref 155, .ref 156, .ref 157, .ref 158, .ref 159, .int 0, .ref 160, .int 0, .ref 161, .ref 162, .ref 163, .ref 164, .int 0, .ref 165, .ref 166]) kc_10_2 rfl rfl rfl ((eh1.2.1 115 (by decide)).trans (F 115 _ hl_115)) rfl rfl rfl (Nat.le_of_ble_eq_true rfl) rfl (fun hh2 eh2 => ?_)
              refine xi_iload_n (pc' := 6) (x := a1) kc_10_5 rfl rfl ?_
              refine xi_static (mj := 11) (as := [.int a1]) (st1 := []) (lv0 := [(0, .int a1)]) kc_10_6 rfl rfl (Nat.le_of_ble_eq_true rfl) rfl rfl (Nat.le_of_ble_eq_true rfl) (hJ _ _ _ _ (by decide)) (xm_le ml_11 rfl) rfl ?_
              refine xi_iload_n (pc' := 1) (x := a1) kc_11_0 rfl rfl ?_
              refine xi_iconst (pc' := 2) (v := 0) kc_11_1 rfl rfl ?_
              refine xi_iconst (pc' := 3) (v := 5) kc_11_2 rfl rfl ?_
              refine xi_static (mj := 12) (as := [.int a1, .int 0, .int 5]) (st1 := []) (lv0 := [(0, .int a1), (1, .int 0), (2, .int 5)]) kc_11_3 rfl rfl (Nat.le_of_ble_eq_true rfl) rfl rfl (Nat.le_of_ble_eq_true rfl) (hJ _ _ _ _ (by decide)) (xm_le ml_12 rfl) rfl ?_
              refine xi_iload_n (pc' := 1) (x := a1) kc_12_0 rfl rfl ?_
              refine xi_iload_n (pc' := 2) (x := 0) kc_12_1 rfl rfl ?_
              refine xi_cmf (pc' := 5) kc_12_2 rfl (xc_lt_f (X := a1.toInt) (Y := 0) rfl (by decide) (by omega)) ?_
              refine xi_iload_n (pc' := 6) (x := a1) kc_12_5 rfl rfl ?_
              refine xi_iload_n (pc' := 7) (x := 5) kc_12_6 rfl rfl ?_
              refine xi_cmf (pc' := 10) kc_12_7 rfl (xc_gt_f (X := a1.toInt) (Y := 5) rfl (by decide) (by omega)) ?_
              refine xi_iconst (pc' := 11) (v := 1) kc_12_10 rfl rfl ?_
              refine xi_goto (pc' := 15) kc_12_11 rfl ?_
              refine xi_ireturn kc_12_15 mr_12 rfl ?_
              show xw J ov 98 11 (6, [(0, .int a1)], [.int 1], hh2) _
              refine xi_ireturn kc_11_6 mr_11 rfl ?_
              show xw J ov 99 10 (9, [(0, .ref 115), (1, .int a1), (2, .int 1), (3, .int a3)], [.int 1], hh2) _
              refine xi_ift (pc' := 18) kc_10_9 rfl rfl ?_
              refine xi_iload_n (pc' := 19) (x := 1) kc_10_18 rfl rfl ?_
              refine xi_iconst (pc' := 20) (v := 0) kc_10_19 rfl rfl ?_
              refine xi_iconst (pc' := 21) (v := 5) kc_10_20 rfl rfl ?_
              refine xi_static (mj := 12) (as := [.int 1, .int 0, .int 5]) (st1 := []) (lv0 := [(0, .int 1), (1, .int 0), (2, .int 5)]) kc_10_21 rfl rfl (Nat.le_of_ble_eq_true rfl) rfl rfl (Nat.le_of_ble_eq_true rfl) (hJ _ _ _ _ (by decide)) (xm_le ml_12 rfl) rfl ?_
              refine xi_iload_n (pc' := 1) (x := 1) kc_12_0 rfl rfl ?_
              refine xi_iload_n (pc' := 2) (x := 0) kc_12_1 rfl rfl ?_
              refine xi_cmf (pc' := 5) kc_12_2 rfl rfl ?_
              refine xi_iload_n (pc' := 6) (x := 1) kc_12_5 rfl rfl ?_
              refine xi_iload_n (pc' := 7) (x := 5) kc_12_6 rfl rfl ?_
              refine xi_cmf (pc' := 10) kc_12_7 rfl rfl ?_
              refine xi_iconst (pc' := 11) (v := 1) kc_12_10 rfl rfl ?_
              refine xi_goto (pc' := 15) kc_12_11 rfl ?_
              refine xi_ireturn kc_12_15 mr_12 rfl ?_
              show xw J ov 99 10 (24, [(0, .ref 115), (1, .int a1), (2, .int 1), (3, .int a3)], [.int 1], hh2) _
              refine xi_ift (pc' := 34) kc_10_24 rfl rfl ?_
              refine xi_iload_n (pc' := 35) (x := a3) kc_10_34 rfl rfl ?_
              refine xi_iload_n (pc' := 36) (x := 1) kc_10_35 rfl rfl ?_
              refine xi_ift (pc' := 44) kc_10_36 rfl rfl ?_
              refine xi_iconst (pc' := 45) (v := 0) kc_10_44 rfl rfl ?_
              refine xi_cmf (pc' := 48) kc_10_45 rfl (xc_ge_f (X := a3.toInt) (Y := 0) rfl (by decide) (by omega)) ?_
              refine xi_aload_n (pc' := 49) (x := 115) kc_10_48 rfl rfl ?_
              refine xi_bipush (pc' := 51) (v := (-4)) kc_10_49 rfl rfl ?_
              refine xi_virtual (mj := 13) (as := [.int (-4)]) (st1 := []) (lv0 := [(0, .ref 115), (1, .int (-4))]) kc_10_51 rfl rfl rfl rfl rfl eh2.1 (Nat.le_of_ble_eq_true rfl) (hJ _ _ _ _ (by decide)) (xm_le ml_13 rfl) rfl ?_
              refine xi_aload_n (pc' := 1) (x := 115) kc_13_0 rfl rfl ?_
              refine xi_getfield (pc' := 4) (v := .ref 140) kc_13_1 rfl rfl rfl eh2.1 rfl ?_
              refine xi_iload_n (pc' := 5) (x := (-4)) kc_13_4 rfl rfl ?_
              refine xi_ineg (pc' := 6) (v := 4) kc_13_5 rfl rfl ?_
              refine xi_dup2 (pc' := 7) kc_13_6 rfl ⟨rfl, rfl⟩ ?_
              refine xi_iaload (pc' := 8) (v := 0) kc_13_7 rfl ((eh2.2.1 140 (by decide)).trans ((eh1.2.1 140 (by decide)).trans (F 140 _ hl_140))) (by decide) rfl (xi_in (n := 7) (by decide) (by decide)) rfl ?_
              refine xi_iconst (pc' := 9) (v := 1) kc_13_8 rfl rfl ?_
              refine xi_iadd (pc' := 10) (v := 1) kc_13_9 rfl rfl ?_
              refine xi_iastore (pc' := 11) (x' := [0, 0, 0, 0, 1, 0, 0]) kc_13_10 rfl ((eh2.2.1 140 (by decide)).trans ((eh1.2.1 140 (by decide)).trans (F 140 _ hl_140))) rfl (xi_in (n := 7) (by decide) (by decide)) rfl (fun hh3 eh3 => ?_)
              refine xi_iload_n (pc' := 12) (x := (-4)) kc_13_11 rfl rfl ?_
              refine xi_ireturn kc_13_12 mr_13 rfl ?_
              show xw J ov 99 10 (54, [(0, .ref 115), (1, .int a1), (2, .int 1), (3, .int a3)], [.int (-4)], hh3) _
              refine xi_ireturn kc_10_54 mr_10 rfl ?_
              show xw J ov 100 196 (236, [(4, .int 0), (3, .ref 167), (2, .ref 115), (1, .ref 0), (0, .ref 1000000)], [.int (-4), .int (-4)], hh3) _
              refine xi_cmt (pc' := 1528) kc_196_236 rfl rfl ?_
              refine xi_iinc (pc' := 1531) (x := 0) (v := 6) (lv' := [(4, .int 6), (3, .ref 167), (2, .ref 115), (1, .ref 0), (0, .ref 1000000)]) kc_196_1528 rfl rfl rfl rfl (xm_lt ml_196 rfl) ?_
              refine xi_goto (pc' := 23) kc_196_1531 rfl ?_
              refine xi_iload (pc' := 25) (x := 6) kc_196_23 rfl rfl ?_
              refine xi_aload_n (pc' := 26) (x := 1000000) kc_196_25 rfl rfl ?_
              refine xi_arraylength (pc' := 27) (n := 6) (v := 6) kc_196_26 rfl (xl_lenO (by decide) hov0 rfl) rfl ?_
              refine xi_bipush (pc' := 29) (v := 6) kc_196_27 rfl rfl ?_
              refine xi_isub (pc' := 30) (v := 0) kc_196_29 rfl rfl ?_
              refine xi_cmt (pc' := 1534) kc_196_30 rfl rfl ?_
              refine xi_iconst (pc' := 1535) (v := 1) kc_196_1534 rfl rfl ?_
              refine xi_ireturn kc_196_1535 mr_196 rfl ?_
              refine ⟨rfl, ?_, ?_⟩
              · rw [eh3.2.2.1, eh2.2.2.1, eh1.2.2.1]; exact hn0
              · rw [eh3.2.2.2, eh2.2.2.2, eh1.2.2.2]; exact hz0
          by_cases c21 : a2.toInt = 2
          · have qa2 : a2 = 2 := xc_of (Eq.trans (by omega) (show (2 : Int) = (2 : Int32).toInt by decide))
            subst qa2
            refine xi_ialoadO (pc' := 35) (v := 0) kc_89_34 rfl (by decide) hov1 (xi_in (n := 6) (by decide) (by decide)) rfl ?_
            by_cases c22 : 0 ≤ a3.toInt
            · refine xi_cmt (pc' := 45) kc_89_35 rfl (xc_ge_t (X := a3.toInt) (Y := 0) rfl (by decide) (by omega)) ?_
              refine xi_iload_n (pc' := 46) (x := a3) kc_89_45 rfl rfl ?_
              refine xi_getstatic (pc' := 49) (j := 1000002) kc_89_46 rfl rfl ?_
              refine xi_iload_n (pc' := 50) (x := 2) kc_89_49 rfl rfl ?_
              refine xi_ialoadO (pc' := 51) (v := 50) kc_89_50 rfl (by decide) hov2 (xi_in (n := 6) (by decide) (by decide)) rfl ?_
              by_cases c23 : a3.toInt ≤ 50
              · refine xi_cmt (pc' := 61) kc_89_51 rfl (xc_le_t (X := a3.toInt) (Y := 50) rfl (by decide) (by omega)) ?_
                refine xi_iload_n (pc' := 62) (x := 2) kc_89_61 rfl rfl ?_
                refine xi_iconst (pc' := 63) (v := 5) kc_89_62 rfl rfl ?_
                refine xi_cmt (pc' := 90) kc_89_63 rfl rfl ?_
                refine xi_aload_n (pc' := 91) (x := 0) kc_89_90 rfl rfl ?_
                refine xi_getfield (pc' := 94) (v := .ref 66) kc_89_91 rfl rfl rfl (F 0 _ hl_0) rfl ?_
                refine xi_virtual (mj := 92) (as := []) (st1 := []) (lv0 := [(0, .ref 66)]) kc_89_94 rfl rfl rfl rfl rfl (F 66 _ hl_66) (Nat.le_of_ble_eq_true rfl) (hJ _ _ _ _ (by decide)) (xm_le ml_92 rfl) rfl ?_
                refine xi_aload_n (pc' := 1) (x := 66) kc_92_0 rfl rfl ?_
                refine xi_lconst (pc' := 2) (v := 0) kc_92_1 rfl rfl ?_
                refine xi_putfield (pc' := 5) (fs' := [.ref 1, .ref 67, .ref 70, .ref 71, .ref 72, .ref 73, .ref 74, .long 0, .int 0]) kc_92_2 rfl rfl rfl (F 66 _ hl_66) rfl rfl rfl (Nat.le_of_ble_eq_true rfl) rfl (fun hh1 eh1 => ?_)
                refine xi_return kc_92_5 mr_92 ?_
                show xw J ov 99 89 (97, [(0, .ref 0), (1, .int a1), (2, .int 2), (3, .int a3)], [], hh1) _
                refine xi_aload_n (pc' := 98) (x := 0) kc_89_97 rfl rfl ?_
                refine xi_getfield (pc' := 101) (v := .ref 1) kc_89_98 rfl rfl rfl ((eh1.2.1 0 (by decide)).trans (F 0 _ hl_0)) rfl ?_
                refine xi_iload_n (pc' := 102) (x := a1) kc_89_101 rfl rfl ?_
                refine xi_iload_n (pc' := 103) (x := 2) kc_89_102 rfl rfl ?_
                refine xi_iload_n (pc' := 104) (x := a3) kc_89_103 rfl rfl ?_
                refine xi_virtual (mj := 93) (as := [.int a1, .int 2, .int a3]) (st1 := []) (lv0 := [(0, .ref 1), (1, .int a1), (2, .int 2), (3, .int a3)]) kc_89_104 rfl rfl rfl rfl rfl ((eh1.2.1 1 (by decide)).trans (F 1 _ hl_1)) (Nat.le_of_ble_eq_true rfl) (hJ _ _ _ _ (by decide)) (xm_le ml_93 rfl) rfl ?_
                refine xi_iload_n (pc' := 1) (x := a1) kc_93_0 rfl rfl ?_
                refine xi_static (mj := 90) (as := [.int a1]) (st1 := []) (lv0 := [(0, .int a1)]) kc_93_1 rfl rfl (Nat.le_of_ble_eq_true rfl) rfl rfl (Nat.le_of_ble_eq_true rfl) (hJ _ _ _ _ (by decide)) (xm_le ml_90 rfl) rfl ?_
                refine xi_iload_n (pc' := 1) (x := a1) kc_90_0 rfl rfl ?_
                refine xi_iff (pc' := 4) kc_90_1 rfl (xc_lt_f (X := a1.toInt) (Y := 0) rfl (by decide) (by omega)) ?_
                refine xi_iload_n (pc' := 5) (x := a1) kc_90_4 rfl rfl ?_
                refine xi_bipush (pc' := 7) (v := 6) kc_90_5 rfl rfl ?_
                refine xi_cmf (pc' := 10) kc_90_7 rfl (xc_ge_f (X := a1.toInt) (Y := 6) rfl (by decide) (by omega)) ?_
                refine xi_iconst (pc' := 11) (v := 1) kc_90_10 rfl rfl ?_
                refine xi_goto (pc' := 15) kc_90_11 rfl ?_
                refine xi_ireturn kc_90_15 mr_90 rfl ?_
                show xw J ov 98 93 (4, [(0, .ref 1), (1, .int a1), (2, .int 2), (3, .int a3)], [.int 1], hh1) _
                refine xi_iff (pc' := 7) kc_93_4 rfl rfl ?_
                refine xi_aload_n (pc' := 8) (x := 1) kc_93_7 rfl rfl ?_
                refine xi_getfield (pc' := 11) (v := .ref 2) kc_93_8 rfl rfl rfl ((eh1.2.1 1 (by decide)).trans (F 1 _ hl_1)) rfl ?_
                refine xi_iload_n (pc' := 12) (x := a1) kc_93_11 rfl rfl ?_
                by_cases c24 : a1.toInt = 0
                · have qa1 : a1 = 0 := xc_of (Eq.trans (by omega) (show (0 : Int) = (0 : Int32).toInt by decide))
                  subst qa1
                  refine xi_aaload (pc' := 13) (b := 11) kc_93_12 rfl ((eh1.2.1 2 (by decide)).trans (F 2 _ hl_2)) rfl (xi_in (n := 6) (by decide) (by decide)) rfl ?_
                  refine xi_iload_n (pc' := 14) (x := 2) kc_93_13 rfl rfl ?_
                  refine xi_iload_n (pc' := 15) (x := a3) kc_93_14 rfl rfl ?_
                  refine xi_virtual (mj := 94) (as := [.int 2, .int a3]) (st1 := []) (lv0 := [(0, .ref 11), (1, .int 2), (2, .int a3)]) kc_93_15 rfl rfl rfl rfl rfl ((eh1.2.1 11 (by decide)).trans (F 11 _ hl_11)) (Nat.le_of_ble_eq_true rfl) (hJ _ _ _ _ (by decide)) (xm_le ml_94 rfl) rfl ?_
                  refine xi_iload_n (pc' := 1) (x := 2) kc_94_0 rfl rfl ?_
                  refine xi_iff (pc' := 4) kc_94_1 rfl rfl ?_
                  refine xi_iload_n (pc' := 5) (x := 2) kc_94_4 rfl rfl ?_
                  refine xi_iconst (pc' := 6) (v := 5) kc_94_5 rfl rfl ?_
                  refine xi_cmt (pc' := 11) kc_94_6 rfl rfl ?_
                  refine xi_aload_n (pc' := 12) (x := 11) kc_94_11 rfl rfl ?_
                  refine xi_getfield (pc' := 15) (v := .ref 12) kc_94_12 rfl rfl rfl ((eh1.2.1 11 (by decide)).trans (F 11 _ hl_11)) rfl ?_
                  refine xi_iload_n (pc' := 16) (x := 2) kc_94_15 rfl rfl ?_
                  refine xi_iaload (pc' := 17) (v := 10) kc_94_16 rfl ((eh1.2.1 12 (by decide)).trans (F 12 _ hl_12)) (by decide) rfl (xi_in (n := 5) (by decide) (by decide)) rfl ?_
                  refine xi_istore_n (pc' := 18) (lv' := [(3, .int 10), (0, .ref 11), (1, .int 2), (2, .int a3)]) kc_94_17 rfl rfl (xm_lt ml_94 rfl) ?_
                  refine xi_aload_n (pc' := 19) (x := 11) kc_94_18 rfl rfl ?_
                  refine xi_getfield (pc' := 22) (v := .ref 12) kc_94_19 rfl rfl rfl ((eh1.2.1 11 (by decide)).trans (F 11 _ hl_11)) rfl ?_
                  refine xi_iload_n (pc' := 23) (x := 2) kc_94_22 rfl rfl ?_
                  refine xi_iload_n (pc' := 24) (x := a3) kc_94_23 rfl rfl ?_
                  refine xi_iastore (pc' := 25) (x' := [40, 18, a3, 0, 0]) kc_94_24 rfl ((eh1.2.1 12 (by decide)).trans (F 12 _ hl_12)) rfl (xi_in (n := 5) (by decide) (by decide)) rfl (fun hh2 eh2 => ?_)
                  refine xi_iload_n (pc' := 26) (x := 10) kc_94_25 rfl rfl ?_
                  refine xi_ireturn kc_94_26 mr_94 rfl ?_
                  show xw J ov 98 93 (18, [(0, .ref 1), (1, .int 0), (2, .int 2), (3, .int a3)], [.int 10], hh2) _
                  refine xi_goto (pc' := 22) kc_93_18 rfl ?_
                  refine xi_ireturn kc_93_22 mr_93 rfl ?_
                  show xw J ov 99 89 (107, [(0, .ref 0), (1, .int 0), (2, .int 2), (3, .int a3)], [.int 10], hh2) _
                  refine xi_ireturn kc_89_107 mr_89 rfl ?_
                  show xw J ov 100 196 (214, [(4, .int 0), (3, .ref 167), (2, .ref 115), (1, .ref 0), (0, .ref 1000000)], [.int 10], hh2) _
                  refine xi_aload_n (pc' := 215) (x := 115) kc_196_214 rfl rfl ?_
                  refine xi_aload_n (pc' := 216) (x := 1000000) kc_196_215 rfl rfl ?_
                  refine xi_iload (pc' := 218) (x := 0) kc_196_216 rfl rfl ?_
                  refine xi_iconst (pc' := 219) (v := 1) kc_196_218 rfl rfl ?_
                  refine xi_iadd (pc' := 220) (v := 1) kc_196_219 rfl rfl ?_
                  refine xi_ialoadO (pc' := 221) (v := 0) kc_196_220 rfl (by decide) hov0 (xi_in (n := 6) (by decide) (by decide)) rfl ?_
                  refine xi_aload_n (pc' := 222) (x := 1000000) kc_196_221 rfl rfl ?_
                  refine xi_iload (pc' := 224) (x := 0) kc_196_222 rfl rfl ?_
                  refine xi_iconst (pc' := 225) (v := 2) kc_196_224 rfl rfl ?_
                  refine xi_iadd (pc' := 226) (v := 2) kc_196_225 rfl rfl ?_
                  refine xi_ialoadO (pc' := 227) (v := 2) kc_196_226 rfl (by decide) hov0 (xi_in (n := 6) (by decide) (by decide)) rfl ?_
                  refine xi_aload_n (pc' := 228) (x := 1000000) kc_196_227 rfl rfl ?_
                  refine xi_iload (pc' := 230) (x := 0) kc_196_228 rfl rfl ?_
                  refine xi_iconst (pc' := 231) (v := 3) kc_196_230 rfl rfl ?_
                  refine xi_iadd (pc' := 232) (v := 3) kc_196_231 rfl rfl ?_
                  refine xi_ialoadO (pc' := 233) (v := a3) kc_196_232 rfl (by decide) hov0 (xi_in (n := 6) (by decide) (by decide)) rfl ?_
                  refine xi_virtual (mj := 10) (as := [.int 0, .int 2, .int a3]) (st1 := [.int 10]) (lv0 := [(0, .ref 115), (1, .int 0), (2, .int 2), (3, .int a3)]) kc_196_233 rfl rfl rfl rfl rfl ((eh2.2.1 115 (by decide)).trans ((eh1.2.1 115 (by decide)).trans (F 115 _ hl_115))) (Nat.le_of_ble_eq_true rfl) (hJ _ _ _ _ (by decide)) (xm_le ml_10 rfl) rfl ?_
                  refine xi_aload_n (pc' := 1) (x := 115) kc_10_0 rfl rfl ?_
                  refine xi_iconst (pc' := 2) (v := 0) kc_10_1 rfl rfl ?_
                  refine xi_putfield (pc' := 5) (fs' := [.int 0, .int 0, .ref 116, .ref 117, .ref 118, .ref 119, .ref 120, .ref 121, .ref 122, .ref 123, .ref 124, .ref 125, .ref 126, .ref 127, .ref 128, .ref 129, .int 4, .ref 130, .int 0, .ref 131, .ref 132, .ref 133, .ref 134, .int 0, .ref 135, .ref 136, .ref 137, .ref 138, .ref 139, .ref 140, .ref 141, .ref 142, .int 0, .int 0, .int 0, .ref 143, .ref 144, .ref 145, .ref 146, .ref 147, .ref 148, .int 0, .ref 149, .ref 150, .ref 151, .int 0, .ref 152, .ref 153, .ref 154, .ref 155, .ref 156, .ref 157, .ref 158, .ref 159, .int 0, .ref 160, .int 0, .ref 161, .ref 162, .ref 163, .ref 164, .int 0, .ref 165, .ref 166]) kc_10_2 rfl rfl rfl ((eh2.2.1 115 (by decide)).trans ((eh1.2.1 115 (by decide)).trans (F 115 _ hl_115))) rfl rfl rfl (Nat.le_of_ble_eq_true rfl) rfl (fun hh3 eh3 => ?_)
                  refine xi_iload_n (pc' := 6) (x := 0) kc_10_5 rfl rfl ?_
                  refine xi_static (mj := 11) (as := [.int 0]) (st1 := []) (lv0 := [(0, .int 0)]) kc_10_6 rfl rfl (Nat.le_of_ble_eq_true rfl) rfl rfl (Nat.le_of_ble_eq_true rfl) (hJ _ _ _ _ (by decide)) (xm_le ml_11 rfl) rfl ?_
                  refine xi_iload_n (pc' := 1) (x := 0) kc_11_0 rfl rfl ?_
                  refine xi_iconst (pc' := 2) (v := 0) kc_11_1 rfl rfl ?_
                  refine xi_iconst (pc' := 3) (v := 5) kc_11_2 rfl rfl ?_
                  refine xi_static (mj := 12) (as := [.int 0, .int 0, .int 5]) (st1 := []) (lv0 := [(0, .int 0), (1, .int 0), (2, .int 5)]) kc_11_3 rfl rfl (Nat.le_of_ble_eq_true rfl) rfl rfl (Nat.le_of_ble_eq_true rfl) (hJ _ _ _ _ (by decide)) (xm_le ml_12 rfl) rfl ?_
                  refine xi_iload_n (pc' := 1) (x := 0) kc_12_0 rfl rfl ?_
                  refine xi_iload_n (pc' := 2) (x := 0) kc_12_1 rfl rfl ?_
                  refine xi_cmf (pc' := 5) kc_12_2 rfl rfl ?_
                  refine xi_iload_n (pc' := 6) (x := 0) kc_12_5 rfl rfl ?_
                  refine xi_iload_n (pc' := 7) (x := 5) kc_12_6 rfl rfl ?_
                  refine xi_cmf (pc' := 10) kc_12_7 rfl rfl ?_
                  refine xi_iconst (pc' := 11) (v := 1) kc_12_10 rfl rfl ?_
                  refine xi_goto (pc' := 15) kc_12_11 rfl ?_
                  refine xi_ireturn kc_12_15 mr_12 rfl ?_
                  show xw J ov 98 11 (6, [(0, .int 0)], [.int 1], hh3) _
                  refine xi_ireturn kc_11_6 mr_11 rfl ?_
                  show xw J ov 99 10 (9, [(0, .ref 115), (1, .int 0), (2, .int 2), (3, .int a3)], [.int 1], hh3) _
                  refine xi_ift (pc' := 18) kc_10_9 rfl rfl ?_
                  refine xi_iload_n (pc' := 19) (x := 2) kc_10_18 rfl rfl ?_
                  refine xi_iconst (pc' := 20) (v := 0) kc_10_19 rfl rfl ?_
                  refine xi_iconst (pc' := 21) (v := 5) kc_10_20 rfl rfl ?_
                  refine xi_static (mj := 12) (as := [.int 2, .int 0, .int 5]) (st1 := []) (lv0 := [(0, .int 2), (1, .int 0), (2, .int 5)]) kc_10_21 rfl rfl (Nat.le_of_ble_eq_true rfl) rfl rfl (Nat.le_of_ble_eq_true rfl) (hJ _ _ _ _ (by decide)) (xm_le ml_12 rfl) rfl ?_
                  refine xi_iload_n (pc' := 1) (x := 2) kc_12_0 rfl rfl ?_
                  refine xi_iload_n (pc' := 2) (x := 0) kc_12_1 rfl rfl ?_
                  refine xi_cmf (pc' := 5) kc_12_2 rfl rfl ?_
                  refine xi_iload_n (pc' := 6) (x := 2) kc_12_5 rfl rfl ?_
                  refine xi_iload_n (pc' := 7) (x := 5) kc_12_6 rfl rfl ?_
                  refine xi_cmf (pc' := 10) kc_12_7 rfl rfl ?_
                  refine xi_iconst (pc' := 11) (v := 1) kc_12_10 rfl rfl ?_
                  refine xi_goto (pc' := 15) kc_12_11 rfl ?_
                  refine xi_ireturn kc_12_15 mr_12 rfl ?_
                  show xw J ov 99 10 (24, [(0, .ref 115), (1, .int 0), (2, .int 2), (3, .int a3)], [.int 1], hh3) _
                  refine xi_ift (pc' := 34) kc_10_24 rfl rfl ?_
                  refine xi_iload_n (pc' := 35) (x := a3) kc_10_34 rfl rfl ?_
                  refine xi_iload_n (pc' := 36) (x := 2) kc_10_35 rfl rfl ?_
                  refine xi_ift (pc' := 44) kc_10_36 rfl rfl ?_
                  refine xi_iconst (pc' := 45) (v := 0) kc_10_44 rfl rfl ?_
                  refine xi_cmt (pc' := 55) kc_10_45 rfl (xc_ge_t (X := a3.toInt) (Y := 0) rfl (by decide) (by omega)) ?_
                  refine xi_iload_n (pc' := 56) (x := a3) kc_10_55 rfl rfl ?_
                  refine xi_iload_n (pc' := 57) (x := 2) kc_10_56 rfl rfl ?_
                  refine xi_ift (pc' := 65) kc_10_57 rfl rfl ?_
                  refine xi_iload_n (pc' := 66) (x := 2) kc_10_65 rfl rfl ?_
                  refine xi_iconst (pc' := 67) (v := 1) kc_10_66 rfl rfl ?_
                  refine xi_cmt (pc' := 75) kc_10_67 rfl rfl ?_
                  refine xi_iload_n (pc' := 76) (x := 2) kc_10_75 rfl rfl ?_
                  refine xi_iconst (pc' := 77) (v := 4) kc_10_76 rfl rfl ?_
                  refine xi_cmf (pc' := 80) kc_10_77 rfl rfl ?_
                  refine xi_bipush (pc' := 82) (v := 50) kc_10_80 rfl rfl ?_
                  refine xi_goto (pc' := 96) kc_10_82 rfl ?_
                  refine xi_cmt (pc' := 106) kc_10_96 rfl (xc_le_t (X := a3.toInt) (Y := 50) rfl (by decide) (by omega)) ?_
                  refine xi_aload_n (pc' := 107) (x := 115) kc_10_106 rfl rfl ?_
                  refine xi_iload_n (pc' := 108) (x := 0) kc_10_107 rfl rfl ?_
                  refine xi_iload_n (pc' := 109) (x := 2) kc_10_108 rfl rfl ?_
                  refine xi_virtual (mj := 14) (as := [.int 0, .int 2]) (st1 := []) (lv0 := [(0, .ref 115), (1, .int 0), (2, .int 2)]) kc_10_109 rfl rfl rfl rfl rfl eh3.1 (Nat.le_of_ble_eq_true rfl) (hJ _ _ _ _ (by decide)) (xm_le ml_14 rfl) rfl ?_
                  refine xi_iload_n (pc' := 1) (x := 2) kc_14_0 rfl rfl ?_
                  refine xi_tsi (pc' := 50) (z := 2) kc_14_1 (rfl) rfl (by decide) ?_
                  refine xi_aload_n (pc' := 51) (x := 115) kc_14_50 rfl rfl ?_
                  refine xi_getfield (pc' := 54) (v := .ref 118) kc_14_51 rfl rfl rfl eh3.1 rfl ?_
                  refine xi_iload_n (pc' := 55) (x := 0) kc_14_54 rfl rfl ?_
                  refine xi_iaload (pc' := 56) (v := 10) kc_14_55 rfl ((eh3.2.1 118 (by decide)).trans ((eh2.2.1 118 (by decide)).trans ((eh1.2.1 118 (by decide)).trans (F 118 _ hl_118)))) (by decide) rfl (xi_in (n := 6) (by decide) (by decide)) rfl ?_
                  refine xi_ireturn kc_14_56 mr_14 rfl ?_
                  show xw J ov 99 10 (112, [(0, .ref 115), (1, .int 0), (2, .int 2), (3, .int a3)], [.int 10], hh3) _
                  refine xi_istore (pc' := 114) (lv' := [(4, .int 10), (0, .ref 115), (1, .int 0), (2, .int 2), (3, .int a3)]) kc_10_112 rfl rfl (xm_lt ml_10 rfl) ?_
                  refine xi_aload_n (pc' := 115) (x := 115) kc_10_114 rfl rfl ?_
                  refine xi_iload_n (pc' := 116) (x := 0) kc_10_115 rfl rfl ?_
                  refine xi_iload_n (pc' := 117) (x := 2) kc_10_116 rfl rfl ?_
                  refine xi_iload_n (pc' := 118) (x := a3) kc_10_117 rfl rfl ?_
                  refine xi_virtual (mj := 15) (as := [.int 0, .int 2, .int a3]) (st1 := []) (lv0 := [(0, .ref 115), (1, .int 0), (2, .int 2), (3, .int a3)]) kc_10_118 rfl rfl rfl rfl rfl eh3.1 (Nat.le_of_ble_eq_true rfl) (hJ _ _ _ _ (by decide)) (xm_le ml_15 rfl) rfl ?_
                  refine xi_aload_n (pc' := 1) (x := 115) kc_15_0 rfl rfl ?_
                  refine xi_getfield (pc' := 4) (v := .ref 116) kc_15_1 rfl rfl rfl eh3.1 rfl ?_
                  refine xi_iload_n (pc' := 5) (x := 0) kc_15_4 rfl rfl ?_
                  refine xi_iload_n (pc' := 6) (x := 2) kc_15_5 rfl rfl ?_
                  refine xi_ift (pc' := 13) kc_15_6 rfl rfl ?_
                  refine xi_aload_n (pc' := 14) (x := 115) kc_15_13 rfl rfl ?_
                  refine xi_getfield (pc' := 17) (v := .ref 116) kc_15_14 rfl rfl rfl eh3.1 rfl ?_
                  refine xi_iload_n (pc' := 18) (x := 0) kc_15_17 rfl rfl ?_
                  refine xi_iaload (pc' := 19) (v := 40) kc_15_18 rfl ((eh3.2.1 116 (by decide)).trans ((eh2.2.1 116 (by decide)).trans ((eh1.2.1 116 (by decide)).trans (F 116 _ hl_116)))) (by decide) rfl (xi_in (n := 6) (by decide) (by decide)) rfl ?_
                  refine xi_iastore (pc' := 20) (x' := [40, 40, 40, 40, 40, 40]) kc_15_19 rfl ((eh3.2.1 116 (by decide)).trans ((eh2.2.1 116 (by decide)).trans ((eh1.2.1 116 (by decide)).trans (F 116 _ hl_116)))) rfl (xi_in (n := 6) (by decide) (by decide)) rfl (fun hh4 eh4 => ?_)
                  refine xi_aload_n (pc' := 21) (x := 115) kc_15_20 rfl rfl ?_
                  refine xi_getfield (pc' := 24) (v := .ref 117) kc_15_21 rfl rfl rfl ((eh4.2.1 115 (by decide)).trans eh3.1) rfl ?_
                  refine xi_iload_n (pc' := 25) (x := 0) kc_15_24 rfl rfl ?_
                  refine xi_iload_n (pc' := 26) (x := 2) kc_15_25 rfl rfl ?_
                  refine xi_iconst (pc' := 27) (v := 1) kc_15_26 rfl rfl ?_
                  refine xi_cmt (pc' := 34) kc_15_27 rfl rfl ?_
                  refine xi_aload_n (pc' := 35) (x := 115) kc_15_34 rfl rfl ?_
                  refine xi_getfield (pc' := 38) (v := .ref 117) kc_15_35 rfl rfl rfl ((eh4.2.1 115 (by decide)).trans eh3.1) rfl ?_
                  refine xi_iload_n (pc' := 39) (x := 0) kc_15_38 rfl rfl ?_
                  refine xi_iaload (pc' := 40) (v := 18) kc_15_39 rfl ((eh4.2.1 117 (by decide)).trans ((eh3.2.1 117 (by decide)).trans ((eh2.2.1 117 (by decide)).trans ((eh1.2.1 117 (by decide)).trans (F 117 _ hl_117))))) (by decide) rfl (xi_in (n := 6) (by decide) (by decide)) rfl ?_
                  refine xi_iastore (pc' := 41) (x' := [18, 18, 18, 18, 18, 18]) kc_15_40 rfl ((eh4.2.1 117 (by decide)).trans ((eh3.2.1 117 (by decide)).trans ((eh2.2.1 117 (by decide)).trans ((eh1.2.1 117 (by decide)).trans (F 117 _ hl_117))))) rfl (xi_in (n := 6) (by decide) (by decide)) rfl (fun hh5 eh5 => ?_)
                  refine xi_aload_n (pc' := 42) (x := 115) kc_15_41 rfl rfl ?_
                  refine xi_getfield (pc' := 45) (v := .ref 118) kc_15_42 rfl rfl rfl ((eh5.2.1 115 (by decide)).trans ((eh4.2.1 115 (by decide)).trans eh3.1)) rfl ?_
                  refine xi_iload_n (pc' := 46) (x := 0) kc_15_45 rfl rfl ?_
                  refine xi_iload_n (pc' := 47) (x := 2) kc_15_46 rfl rfl ?_
                  refine xi_iconst (pc' := 48) (v := 2) kc_15_47 rfl rfl ?_
                  refine xi_cmf (pc' := 51) kc_15_48 rfl rfl ?_
                  refine xi_iload_n (pc' := 52) (x := a3) kc_15_51 rfl rfl ?_
                  refine xi_goto (pc' := 61) kc_15_52 rfl ?_
                  refine xi_iastore (pc' := 62) (x' := [a3, 10, 10, 10, 10, 10]) kc_15_61 rfl ((eh5.2.1 118 (by decide)).trans ((eh4.2.1 118 (by decide)).trans ((eh3.2.1 118 (by decide)).trans ((eh2.2.1 118 (by decide)).trans ((eh1.2.1 118 (by decide)).trans (F 118 _ hl_118)))))) rfl (xi_in (n := 6) (by decide) (by decide)) rfl (fun hh6 eh6 => ?_)
                  refine xi_aload_n (pc' := 63) (x := 115) kc_15_62 rfl rfl ?_
                  refine xi_getfield (pc' := 66) (v := .ref 119) kc_15_63 rfl rfl rfl ((eh6.2.1 115 (by decide)).trans ((eh5.2.1 115 (by decide)).trans ((eh4.2.1 115 (by decide)).trans eh3.1))) rfl ?_
                  refine xi_iload_n (pc' := 67) (x := 0) kc_15_66 rfl rfl ?_
                  refine xi_iload_n (pc' := 68) (x := 2) kc_15_67 rfl rfl ?_
                  refine xi_iconst (pc' := 69) (v := 3) kc_15_68 rfl rfl ?_
                  refine xi_cmt (pc' := 76) kc_15_69 rfl rfl ?_
                  refine xi_aload_n (pc' := 77) (x := 115) kc_15_76 rfl rfl ?_
                  refine xi_getfield (pc' := 80) (v := .ref 119) kc_15_77 rfl rfl rfl ((eh6.2.1 115 (by decide)).trans ((eh5.2.1 115 (by decide)).trans ((eh4.2.1 115 (by decide)).trans eh3.1))) rfl ?_
                  refine xi_iload_n (pc' := 81) (x := 0) kc_15_80 rfl rfl ?_
                  refine xi_iaload (pc' := 82) (v := 0) kc_15_81 rfl ((eh6.2.1 119 (by decide)).trans ((eh5.2.1 119 (by decide)).trans ((eh4.2.1 119 (by decide)).trans ((eh3.2.1 119 (by decide)).trans ((eh2.2.1 119 (by decide)).trans ((eh1.2.1 119 (by decide)).trans (F 119 _ hl_119))))))) (by decide) rfl (xi_in (n := 6) (by decide) (by decide)) rfl ?_
                  refine xi_iastore (pc' := 83) (x' := [0, 0, 0, 0, 0, 0]) kc_15_82 rfl ((eh6.2.1 119 (by decide)).trans ((eh5.2.1 119 (by decide)).trans ((eh4.2.1 119 (by decide)).trans ((eh3.2.1 119 (by decide)).trans ((eh2.2.1 119 (by decide)).trans ((eh1.2.1 119 (by decide)).trans (F 119 _ hl_119))))))) rfl (xi_in (n := 6) (by decide) (by decide)) rfl (fun hh7 eh7 => ?_)
                  refine xi_aload_n (pc' := 84) (x := 115) kc_15_83 rfl rfl ?_
                  refine xi_getfield (pc' := 87) (v := .ref 120) kc_15_84 rfl rfl rfl ((eh7.2.1 115 (by decide)).trans ((eh6.2.1 115 (by decide)).trans ((eh5.2.1 115 (by decide)).trans ((eh4.2.1 115 (by decide)).trans eh3.1)))) rfl ?_
                  refine xi_iload_n (pc' := 88) (x := 0) kc_15_87 rfl rfl ?_
                  refine xi_iload_n (pc' := 89) (x := 2) kc_15_88 rfl rfl ?_
                  refine xi_iconst (pc' := 90) (v := 4) kc_15_89 rfl rfl ?_
                  refine xi_cmt (pc' := 97) kc_15_90 rfl rfl ?_
                  refine xi_aload_n (pc' := 98) (x := 115) kc_15_97 rfl rfl ?_
                  refine xi_getfield (pc' := 101) (v := .ref 120) kc_15_98 rfl rfl rfl ((eh7.2.1 115 (by decide)).trans ((eh6.2.1 115 (by decide)).trans ((eh5.2.1 115 (by decide)).trans ((eh4.2.1 115 (by decide)).trans eh3.1)))) rfl ?_
                  refine xi_iload_n (pc' := 102) (x := 0) kc_15_101 rfl rfl ?_
                  refine xi_iaload (pc' := 103) (v := 0) kc_15_102 rfl ((eh7.2.1 120 (by decide)).trans ((eh6.2.1 120 (by decide)).trans ((eh5.2.1 120 (by decide)).trans ((eh4.2.1 120 (by decide)).trans ((eh3.2.1 120 (by decide)).trans ((eh2.2.1 120 (by decide)).trans ((eh1.2.1 120 (by decide)).trans (F 120 _ hl_120)))))))) (by decide) rfl (xi_in (n := 6) (by decide) (by decide)) rfl ?_
                  refine xi_iastore (pc' := 104) (x' := [0, 0, 0, 0, 0, 0]) kc_15_103 rfl ((eh7.2.1 120 (by decide)).trans ((eh6.2.1 120 (by decide)).trans ((eh5.2.1 120 (by decide)).trans ((eh4.2.1 120 (by decide)).trans ((eh3.2.1 120 (by decide)).trans ((eh2.2.1 120 (by decide)).trans ((eh1.2.1 120 (by decide)).trans (F 120 _ hl_120)))))))) rfl (xi_in (n := 6) (by decide) (by decide)) rfl (fun hh8 eh8 => ?_)
                  refine xi_aload_n (pc' := 105) (x := 115) kc_15_104 rfl rfl ?_
                  refine xi_getfield (pc' := 108) (v := .ref 121) kc_15_105 rfl rfl rfl ((eh8.2.1 115 (by decide)).trans ((eh7.2.1 115 (by decide)).trans ((eh6.2.1 115 (by decide)).trans ((eh5.2.1 115 (by decide)).trans ((eh4.2.1 115 (by decide)).trans eh3.1))))) rfl ?_
                  refine xi_iload_n (pc' := 109) (x := 0) kc_15_108 rfl rfl ?_
                  refine xi_iload_n (pc' := 110) (x := 2) kc_15_109 rfl rfl ?_
                  refine xi_iconst (pc' := 111) (v := 5) kc_15_110 rfl rfl ?_
                  refine xi_cmt (pc' := 118) kc_15_111 rfl rfl ?_
                  refine xi_aload_n (pc' := 119) (x := 115) kc_15_118 rfl rfl ?_
                  refine xi_getfield (pc' := 122) (v := .ref 121) kc_15_119 rfl rfl rfl ((eh8.2.1 115 (by decide)).trans ((eh7.2.1 115 (by decide)).trans ((eh6.2.1 115 (by decide)).trans ((eh5.2.1 115 (by decide)).trans ((eh4.2.1 115 (by decide)).trans eh3.1))))) rfl ?_
                  refine xi_iload_n (pc' := 123) (x := 0) kc_15_122 rfl rfl ?_
                  refine xi_iaload (pc' := 124) (v := 0) kc_15_123 rfl ((eh8.2.1 121 (by decide)).trans ((eh7.2.1 121 (by decide)).trans ((eh6.2.1 121 (by decide)).trans ((eh5.2.1 121 (by decide)).trans ((eh4.2.1 121 (by decide)).trans ((eh3.2.1 121 (by decide)).trans ((eh2.2.1 121 (by decide)).trans ((eh1.2.1 121 (by decide)).trans (F 121 _ hl_121))))))))) (by decide) rfl (xi_in (n := 6) (by decide) (by decide)) rfl ?_
                  refine xi_iastore (pc' := 125) (x' := [0, 0, 0, 0, 0, 0]) kc_15_124 rfl ((eh8.2.1 121 (by decide)).trans ((eh7.2.1 121 (by decide)).trans ((eh6.2.1 121 (by decide)).trans ((eh5.2.1 121 (by decide)).trans ((eh4.2.1 121 (by decide)).trans ((eh3.2.1 121 (by decide)).trans ((eh2.2.1 121 (by decide)).trans ((eh1.2.1 121 (by decide)).trans (F 121 _ hl_121))))))))) rfl (xi_in (n := 6) (by decide) (by decide)) rfl (fun hh9 eh9 => ?_)
                  refine xi_aload_n (pc' := 126) (x := 115) kc_15_125 rfl rfl ?_
                  refine xi_iconst (pc' := 127) (v := 0) kc_15_126 rfl rfl ?_
                  refine xi_putfield (pc' := 130) (fs' := [.int 0, .int 0, .ref 116, .ref 117, .ref 118, .ref 119, .ref 120, .ref 121, .ref 122, .ref 123, .ref 124, .ref 125, .ref 126, .ref 127, .ref 128, .ref 129, .int 4, .ref 130, .int 0, .ref 131, .ref 132, .ref 133, .ref 134, .int 0, .ref 135, .ref 136, .ref 137, .ref 138, .ref 139, .ref 140, .ref 141, .ref 142, .int 0, .int 0, .int 0, .ref 143, .ref 144, .ref 145, .ref 146, .ref 147, .ref 148, .int 0, .ref 149, .ref 150, .ref 151, .int 0, .ref 152, .ref 153, .ref 154, .ref 155, .ref 156, .ref 157, .ref 158, .ref 159, .int 0, .ref 160, .int 0, .ref 161, .ref 162, .ref 163, .ref 164, .int 0, .ref 165, .ref 166]) kc_15_127 rfl rfl rfl ((eh9.2.1 115 (by decide)).trans ((eh8.2.1 115 (by decide)).trans ((eh7.2.1 115 (by decide)).trans ((eh6.2.1 115 (by decide)).trans ((eh5.2.1 115 (by decide)).trans ((eh4.2.1 115 (by decide)).trans eh3.1)))))) rfl rfl rfl (Nat.le_of_ble_eq_true rfl) rfl (fun hh10 eh10 => ?_)
                  refine xi_return kc_15_130 mr_15 ?_
                  show xw J ov 99 10 (121, [(4, .int 10), (0, .ref 115), (1, .int 0), (2, .int 2), (3, .int a3)], [], hh10) _
                  refine xi_iload (pc' := 123) (x := 10) kc_10_121 rfl rfl ?_
                  refine xi_ireturn kc_10_123 mr_10 rfl ?_
                  show xw J ov 100 196 (236, [(4, .int 0), (3, .ref 167), (2, .ref 115), (1, .ref 0), (0, .ref 1000000)], [.int 10, .int 10], hh10) _
                  refine xi_cmt (pc' := 1528) kc_196_236 rfl rfl ?_
                  refine xi_iinc (pc' := 1531) (x := 0) (v := 6) (lv' := [(4, .int 6), (3, .ref 167), (2, .ref 115), (1, .ref 0), (0, .ref 1000000)]) kc_196_1528 rfl rfl rfl rfl (xm_lt ml_196 rfl) ?_
                  refine xi_goto (pc' := 23) kc_196_1531 rfl ?_
                  refine xi_iload (pc' := 25) (x := 6) kc_196_23 rfl rfl ?_
                  refine xi_aload_n (pc' := 26) (x := 1000000) kc_196_25 rfl rfl ?_
                  refine xi_arraylength (pc' := 27) (n := 6) (v := 6) kc_196_26 rfl (xl_lenO (by decide) hov0 rfl) rfl ?_
                  refine xi_bipush (pc' := 29) (v := 6) kc_196_27 rfl rfl ?_
                  refine xi_isub (pc' := 30) (v := 0) kc_196_29 rfl rfl ?_
                  refine xi_cmt (pc' := 1534) kc_196_30 rfl rfl ?_
                  refine xi_iconst (pc' := 1535) (v := 1) kc_196_1534 rfl rfl ?_
                  refine xi_ireturn kc_196_1535 mr_196 rfl ?_
                  refine ⟨rfl, ?_, ?_⟩
                  · rw [eh10.2.2.1, eh9.2.2.1, eh8.2.2.1, eh7.2.2.1, eh6.2.2.1, eh5.2.2.1, eh4.2.2.1, eh3.2.2.1, eh2.2.2.1, eh1.2.2.1]; exact hn0
                  · rw [eh10.2.2.2, eh9.2.2.2, eh8.2.2.2, eh7.2.2.2, eh6.2.2.2, eh5.2.2.2, eh4.2.2.2, eh3.2.2.2, eh2.2.2.2, eh1.2.2.2]; exact hz0
                by_cases c25 : a1.toInt = 1
                · have qa1 : a1 = 1 := xc_of (Eq.trans (by omega) (show (1 : Int) = (1 : Int32).toInt by decide))
                  subst qa1
                  refine xi_aaload (pc' := 13) (b := 14) kc_93_12 rfl ((eh1.2.1 2 (by decide)).trans (F 2 _ hl_2)) rfl (xi_in (n := 6) (by decide) (by decide)) rfl ?_
                  refine xi_iload_n (pc' := 14) (x := 2) kc_93_13 rfl rfl ?_
                  refine xi_iload_n (pc' := 15) (x := a3) kc_93_14 rfl rfl ?_
                  refine xi_virtual (mj := 94) (as := [.int 2, .int a3]) (st1 := []) (lv0 := [(0, .ref 14), (1, .int 2), (2, .int a3)]) kc_93_15 rfl rfl rfl rfl rfl ((eh1.2.1 14 (by decide)).trans (F 14 _ hl_14)) (Nat.le_of_ble_eq_true rfl) (hJ _ _ _ _ (by decide)) (xm_le ml_94 rfl) rfl ?_
                  refine xi_iload_n (pc' := 1) (x := 2) kc_94_0 rfl rfl ?_
                  refine xi_iff (pc' := 4) kc_94_1 rfl rfl ?_
                  refine xi_iload_n (pc' := 5) (x := 2) kc_94_4 rfl rfl ?_
                  refine xi_iconst (pc' := 6) (v := 5) kc_94_5 rfl rfl ?_
                  refine xi_cmt (pc' := 11) kc_94_6 rfl rfl ?_
                  refine xi_aload_n (pc' := 12) (x := 14) kc_94_11 rfl rfl ?_
                  refine xi_getfield (pc' := 15) (v := .ref 15) kc_94_12 rfl rfl rfl ((eh1.2.1 14 (by decide)).trans (F 14 _ hl_14)) rfl ?_
                  refine xi_iload_n (pc' := 16) (x := 2) kc_94_15 rfl rfl ?_
                  refine xi_iaload (pc' := 17) (v := 10) kc_94_16 rfl ((eh1.2.1 15 (by decide)).trans (F 15 _ hl_15)) (by decide) rfl (xi_in (n := 5) (by decide) (by decide)) rfl ?_
                  refine xi_istore_n (pc' := 18) (lv' := [(3, .int 10), (0, .ref 14), (1, .int 2), (2, .int a3)]) kc_94_17 rfl rfl (xm_lt ml_94 rfl) ?_
                  refine xi_aload_n (pc' := 19) (x := 14) kc_94_18 rfl rfl ?_
                  refine xi_getfield (pc' := 22) (v := .ref 15) kc_94_19 rfl rfl rfl ((eh1.2.1 14 (by decide)).trans (F 14 _ hl_14)) rfl ?_
                  refine xi_iload_n (pc' := 23) (x := 2) kc_94_22 rfl rfl ?_
                  refine xi_iload_n (pc' := 24) (x := a3) kc_94_23 rfl rfl ?_
                  refine xi_iastore (pc' := 25) (x' := [40, 18, a3, 0, 0]) kc_94_24 rfl ((eh1.2.1 15 (by decide)).trans (F 15 _ hl_15)) rfl (xi_in (n := 5) (by decide) (by decide)) rfl (fun hh2 eh2 => ?_)
                  refine xi_iload_n (pc' := 26) (x := 10) kc_94_25 rfl rfl ?_
                  refine xi_ireturn kc_94_26 mr_94 rfl ?_
                  show xw J ov 98 93 (18, [(0, .ref 1), (1, .int 1), (2, .int 2), (3, .int a3)], [.int 10], hh2) _
                  refine xi_goto (pc' := 22) kc_93_18 rfl ?_
                  refine xi_ireturn kc_93_22 mr_93 rfl ?_
                  show xw J ov 99 89 (107, [(0, .ref 0), (1, .int 1), (2, .int 2), (3, .int a3)], [.int 10], hh2) _
                  refine xi_ireturn kc_89_107 mr_89 rfl ?_
                  show xw J ov 100 196 (214, [(4, .int 0), (3, .ref 167), (2, .ref 115), (1, .ref 0), (0, .ref 1000000)], [.int 10], hh2) _
                  refine xi_aload_n (pc' := 215) (x := 115) kc_196_214 rfl rfl ?_
                  refine xi_aload_n (pc' := 216) (x := 1000000) kc_196_215 rfl rfl ?_
                  refine xi_iload (pc' := 218) (x := 0) kc_196_216 rfl rfl ?_
                  refine xi_iconst (pc' := 219) (v := 1) kc_196_218 rfl rfl ?_
                  refine xi_iadd (pc' := 220) (v := 1) kc_196_219 rfl rfl ?_
                  refine xi_ialoadO (pc' := 221) (v := 1) kc_196_220 rfl (by decide) hov0 (xi_in (n := 6) (by decide) (by decide)) rfl ?_
                  refine xi_aload_n (pc' := 222) (x := 1000000) kc_196_221 rfl rfl ?_
                  refine xi_iload (pc' := 224) (x := 0) kc_196_222 rfl rfl ?_
                  refine xi_iconst (pc' := 225) (v := 2) kc_196_224 rfl rfl ?_
                  refine xi_iadd (pc' := 226) (v := 2) kc_196_225 rfl rfl ?_
                  refine xi_ialoadO (pc' := 227) (v := 2) kc_196_226 rfl (by decide) hov0 (xi_in (n := 6) (by decide) (by decide)) rfl ?_
                  refine xi_aload_n (pc' := 228) (x := 1000000) kc_196_227 rfl rfl ?_
                  refine xi_iload (pc' := 230) (x := 0) kc_196_228 rfl rfl ?_
                  refine xi_iconst (pc' := 231) (v := 3) kc_196_230 rfl rfl ?_
                  refine xi_iadd (pc' := 232) (v := 3) kc_196_231 rfl rfl ?_
                  refine xi_ialoadO (pc' := 233) (v := a3) kc_196_232 rfl (by decide) hov0 (xi_in (n := 6) (by decide) (by decide)) rfl ?_
                  refine xi_virtual (mj := 10) (as := [.int 1, .int 2, .int a3]) (st1 := [.int 10]) (lv0 := [(0, .ref 115), (1, .int 1), (2, .int 2), (3, .int a3)]) kc_196_233 rfl rfl rfl rfl rfl ((eh2.2.1 115 (by decide)).trans ((eh1.2.1 115 (by decide)).trans (F 115 _ hl_115))) (Nat.le_of_ble_eq_true rfl) (hJ _ _ _ _ (by decide)) (xm_le ml_10 rfl) rfl ?_
                  refine xi_aload_n (pc' := 1) (x := 115) kc_10_0 rfl rfl ?_
                  refine xi_iconst (pc' := 2) (v := 0) kc_10_1 rfl rfl ?_
                  refine xi_putfield (pc' := 5) (fs' := [.int 0, .int 0, .ref 116, .ref 117, .ref 118, .ref 119, .ref 120, .ref 121, .ref 122, .ref 123, .ref 124, .ref 125, .ref 126, .ref 127, .ref 128, .ref 129, .int 4, .ref 130, .int 0, .ref 131, .ref 132, .ref 133, .ref 134, .int 0, .ref 135, .ref 136, .ref 137, .ref 138, .ref 139, .ref 140, .ref 141, .ref 142, .int 0, .int 0, .int 0, .ref 143, .ref 144, .ref 145, .ref 146, .ref 147, .ref 148, .int 0, .ref 149, .ref 150, .ref 151, .int 0, .ref 152, .ref 153, .ref 154, .ref 155, .ref 156, .ref 157, .ref 158, .ref 159, .int 0, .ref 160, .int 0, .ref 161, .ref 162, .ref 163, .ref 164, .int 0, .ref 165, .ref 166]) kc_10_2 rfl rfl rfl ((eh2.2.1 115 (by decide)).trans ((eh1.2.1 115 (by decide)).trans (F 115 _ hl_115))) rfl rfl rfl (Nat.le_of_ble_eq_true rfl) rfl (fun hh3 eh3 => ?_)
                  refine xi_iload_n (pc' := 6) (x := 1) kc_10_5 rfl rfl ?_
                  refine xi_static (mj := 11) (as := [.int 1]) (st1 := []) (lv0 := [(0, .int 1)]) kc_10_6 rfl rfl (Nat.le_of_ble_eq_true rfl) rfl rfl (Nat.le_of_ble_eq_true rfl) (hJ _ _ _ _ (by decide)) (xm_le ml_11 rfl) rfl ?_
                  refine xi_iload_n (pc' := 1) (x := 1) kc_11_0 rfl rfl ?_
                  refine xi_iconst (pc' := 2) (v := 0) kc_11_1 rfl rfl ?_
                  refine xi_iconst (pc' := 3) (v := 5) kc_11_2 rfl rfl ?_
                  refine xi_static (mj := 12) (as := [.int 1, .int 0, .int 5]) (st1 := []) (lv0 := [(0, .int 1), (1, .int 0), (2, .int 5)]) kc_11_3 rfl rfl (Nat.le_of_ble_eq_true rfl) rfl rfl (Nat.le_of_ble_eq_true rfl) (hJ _ _ _ _ (by decide)) (xm_le ml_12 rfl) rfl ?_
                  refine xi_iload_n (pc' := 1) (x := 1) kc_12_0 rfl rfl ?_
                  refine xi_iload_n (pc' := 2) (x := 0) kc_12_1 rfl rfl ?_
                  refine xi_cmf (pc' := 5) kc_12_2 rfl rfl ?_
                  refine xi_iload_n (pc' := 6) (x := 1) kc_12_5 rfl rfl ?_
                  refine xi_iload_n (pc' := 7) (x := 5) kc_12_6 rfl rfl ?_
                  refine xi_cmf (pc' := 10) kc_12_7 rfl rfl ?_
                  refine xi_iconst (pc' := 11) (v := 1) kc_12_10 rfl rfl ?_
                  refine xi_goto (pc' := 15) kc_12_11 rfl ?_
                  refine xi_ireturn kc_12_15 mr_12 rfl ?_
                  show xw J ov 98 11 (6, [(0, .int 1)], [.int 1], hh3) _
                  refine xi_ireturn kc_11_6 mr_11 rfl ?_
                  show xw J ov 99 10 (9, [(0, .ref 115), (1, .int 1), (2, .int 2), (3, .int a3)], [.int 1], hh3) _
                  refine xi_ift (pc' := 18) kc_10_9 rfl rfl ?_
                  refine xi_iload_n (pc' := 19) (x := 2) kc_10_18 rfl rfl ?_
                  refine xi_iconst (pc' := 20) (v := 0) kc_10_19 rfl rfl ?_
                  refine xi_iconst (pc' := 21) (v := 5) kc_10_20 rfl rfl ?_
                  refine xi_static (mj := 12) (as := [.int 2, .int 0, .int 5]) (st1 := []) (lv0 := [(0, .int 2), (1, .int 0), (2, .int 5)]) kc_10_21 rfl rfl (Nat.le_of_ble_eq_true rfl) rfl rfl (Nat.le_of_ble_eq_true rfl) (hJ _ _ _ _ (by decide)) (xm_le ml_12 rfl) rfl ?_
                  refine xi_iload_n (pc' := 1) (x := 2) kc_12_0 rfl rfl ?_
                  refine xi_iload_n (pc' := 2) (x := 0) kc_12_1 rfl rfl ?_
                  refine xi_cmf (pc' := 5) kc_12_2 rfl rfl ?_
                  refine xi_iload_n (pc' := 6) (x := 2) kc_12_5 rfl rfl ?_
                  refine xi_iload_n (pc' := 7) (x := 5) kc_12_6 rfl rfl ?_
                  refine xi_cmf (pc' := 10) kc_12_7 rfl rfl ?_
                  refine xi_iconst (pc' := 11) (v := 1) kc_12_10 rfl rfl ?_
                  refine xi_goto (pc' := 15) kc_12_11 rfl ?_
                  refine xi_ireturn kc_12_15 mr_12 rfl ?_
                  show xw J ov 99 10 (24, [(0, .ref 115), (1, .int 1), (2, .int 2), (3, .int a3)], [.int 1], hh3) _
                  refine xi_ift (pc' := 34) kc_10_24 rfl rfl ?_
                  refine xi_iload_n (pc' := 35) (x := a3) kc_10_34 rfl rfl ?_
                  refine xi_iload_n (pc' := 36) (x := 2) kc_10_35 rfl rfl ?_
                  refine xi_ift (pc' := 44) kc_10_36 rfl rfl ?_
                  refine xi_iconst (pc' := 45) (v := 0) kc_10_44 rfl rfl ?_
                  refine xi_cmt (pc' := 55) kc_10_45 rfl (xc_ge_t (X := a3.toInt) (Y := 0) rfl (by decide) (by omega)) ?_
                  refine xi_iload_n (pc' := 56) (x := a3) kc_10_55 rfl rfl ?_
                  refine xi_iload_n (pc' := 57) (x := 2) kc_10_56 rfl rfl ?_
                  refine xi_ift (pc' := 65) kc_10_57 rfl rfl ?_
                  refine xi_iload_n (pc' := 66) (x := 2) kc_10_65 rfl rfl ?_
                  refine xi_iconst (pc' := 67) (v := 1) kc_10_66 rfl rfl ?_
                  refine xi_cmt (pc' := 75) kc_10_67 rfl rfl ?_
                  refine xi_iload_n (pc' := 76) (x := 2) kc_10_75 rfl rfl ?_
                  refine xi_iconst (pc' := 77) (v := 4) kc_10_76 rfl rfl ?_
                  refine xi_cmf (pc' := 80) kc_10_77 rfl rfl ?_
                  refine xi_bipush (pc' := 82) (v := 50) kc_10_80 rfl rfl ?_
                  refine xi_goto (pc' := 96) kc_10_82 rfl ?_
                  refine xi_cmt (pc' := 106) kc_10_96 rfl (xc_le_t (X := a3.toInt) (Y := 50) rfl (by decide) (by omega)) ?_
                  refine xi_aload_n (pc' := 107) (x := 115) kc_10_106 rfl rfl ?_
                  refine xi_iload_n (pc' := 108) (x := 1) kc_10_107 rfl rfl ?_
                  refine xi_iload_n (pc' := 109) (x := 2) kc_10_108 rfl rfl ?_
                  refine xi_virtual (mj := 14) (as := [.int 1, .int 2]) (st1 := []) (lv0 := [(0, .ref 115), (1, .int 1), (2, .int 2)]) kc_10_109 rfl rfl rfl rfl rfl eh3.1 (Nat.le_of_ble_eq_true rfl) (hJ _ _ _ _ (by decide)) (xm_le ml_14 rfl) rfl ?_
                  refine xi_iload_n (pc' := 1) (x := 2) kc_14_0 rfl rfl ?_
                  refine xi_tsi (pc' := 50) (z := 2) kc_14_1 (rfl) rfl (by decide) ?_
                  refine xi_aload_n (pc' := 51) (x := 115) kc_14_50 rfl rfl ?_
                  refine xi_getfield (pc' := 54) (v := .ref 118) kc_14_51 rfl rfl rfl eh3.1 rfl ?_
                  refine xi_iload_n (pc' := 55) (x := 1) kc_14_54 rfl rfl ?_
                  refine xi_iaload (pc' := 56) (v := 10) kc_14_55 rfl ((eh3.2.1 118 (by decide)).trans ((eh2.2.1 118 (by decide)).trans ((eh1.2.1 118 (by decide)).trans (F 118 _ hl_118)))) (by decide) rfl (xi_in (n := 6) (by decide) (by decide)) rfl ?_
                  refine xi_ireturn kc_14_56 mr_14 rfl ?_
                  show xw J ov 99 10 (112, [(0, .ref 115), (1, .int 1), (2, .int 2), (3, .int a3)], [.int 10], hh3) _
                  refine xi_istore (pc' := 114) (lv' := [(4, .int 10), (0, .ref 115), (1, .int 1), (2, .int 2), (3, .int a3)]) kc_10_112 rfl rfl (xm_lt ml_10 rfl) ?_
                  refine xi_aload_n (pc' := 115) (x := 115) kc_10_114 rfl rfl ?_
                  refine xi_iload_n (pc' := 116) (x := 1) kc_10_115 rfl rfl ?_
                  refine xi_iload_n (pc' := 117) (x := 2) kc_10_116 rfl rfl ?_
                  refine xi_iload_n (pc' := 118) (x := a3) kc_10_117 rfl rfl ?_
                  refine xi_virtual (mj := 15) (as := [.int 1, .int 2, .int a3]) (st1 := []) (lv0 := [(0, .ref 115), (1, .int 1), (2, .int 2), (3, .int a3)]) kc_10_118 rfl rfl rfl rfl rfl eh3.1 (Nat.le_of_ble_eq_true rfl) (hJ _ _ _ _ (by decide)) (xm_le ml_15 rfl) rfl ?_
                  refine xi_aload_n (pc' := 1) (x := 115) kc_15_0 rfl rfl ?_
                  refine xi_getfield (pc' := 4) (v := .ref 116) kc_15_1 rfl rfl rfl eh3.1 rfl ?_
                  refine xi_iload_n (pc' := 5) (x := 1) kc_15_4 rfl rfl ?_
                  refine xi_iload_n (pc' := 6) (x := 2) kc_15_5 rfl rfl ?_
                  refine xi_ift (pc' := 13) kc_15_6 rfl rfl ?_
                  refine xi_aload_n (pc' := 14) (x := 115) kc_15_13 rfl rfl ?_
                  refine xi_getfield (pc' := 17) (v := .ref 116) kc_15_14 rfl rfl rfl eh3.1 rfl ?_
                  refine xi_iload_n (pc' := 18) (x := 1) kc_15_17 rfl rfl ?_
                  refine xi_iaload (pc' := 19) (v := 40) kc_15_18 rfl ((eh3.2.1 116 (by decide)).trans ((eh2.2.1 116 (by decide)).trans ((eh1.2.1 116 (by decide)).trans (F 116 _ hl_116)))) (by decide) rfl (xi_in (n := 6) (by decide) (by decide)) rfl ?_
                  refine xi_iastore (pc' := 20) (x' := [40, 40, 40, 40, 40, 40]) kc_15_19 rfl ((eh3.2.1 116 (by decide)).trans ((eh2.2.1 116 (by decide)).trans ((eh1.2.1 116 (by decide)).trans (F 116 _ hl_116)))) rfl (xi_in (n := 6) (by decide) (by decide)) rfl (fun hh4 eh4 => ?_)
                  refine xi_aload_n (pc' := 21) (x := 115) kc_15_20 rfl rfl ?_
                  refine xi_getfield (pc' := 24) (v := .ref 117) kc_15_21 rfl rfl rfl ((eh4.2.1 115 (by decide)).trans eh3.1) rfl ?_
                  refine xi_iload_n (pc' := 25) (x := 1) kc_15_24 rfl rfl ?_
                  refine xi_iload_n (pc' := 26) (x := 2) kc_15_25 rfl rfl ?_
                  refine xi_iconst (pc' := 27) (v := 1) kc_15_26 rfl rfl ?_
                  refine xi_cmt (pc' := 34) kc_15_27 rfl rfl ?_
                  refine xi_aload_n (pc' := 35) (x := 115) kc_15_34 rfl rfl ?_
                  refine xi_getfield (pc' := 38) (v := .ref 117) kc_15_35 rfl rfl rfl ((eh4.2.1 115 (by decide)).trans eh3.1) rfl ?_
                  refine xi_iload_n (pc' := 39) (x := 1) kc_15_38 rfl rfl ?_
                  refine xi_iaload (pc' := 40) (v := 18) kc_15_39 rfl ((eh4.2.1 117 (by decide)).trans ((eh3.2.1 117 (by decide)).trans ((eh2.2.1 117 (by decide)).trans ((eh1.2.1 117 (by decide)).trans (F 117 _ hl_117))))) (by decide) rfl (xi_in (n := 6) (by decide) (by decide)) rfl ?_
                  refine xi_iastore (pc' := 41) (x' := [18, 18, 18, 18, 18, 18]) kc_15_40 rfl ((eh4.2.1 117 (by decide)).trans ((eh3.2.1 117 (by decide)).trans ((eh2.2.1 117 (by decide)).trans ((eh1.2.1 117 (by decide)).trans (F 117 _ hl_117))))) rfl (xi_in (n := 6) (by decide) (by decide)) rfl (fun hh5 eh5 => ?_)
                  refine xi_aload_n (pc' := 42) (x := 115) kc_15_41 rfl rfl ?_
                  refine xi_getfield (pc' := 45) (v := .ref 118) kc_15_42 rfl rfl rfl ((eh5.2.1 115 (by decide)).trans ((eh4.2.1 115 (by decide)).trans eh3.1)) rfl ?_
                  refine xi_iload_n (pc' := 46) (x := 1) kc_15_45 rfl rfl ?_
                  refine xi_iload_n (pc' := 47) (x := 2) kc_15_46 rfl rfl ?_
                  refine xi_iconst (pc' := 48) (v := 2) kc_15_47 rfl rfl ?_
                  refine xi_cmf (pc' := 51) kc_15_48 rfl rfl ?_
                  refine xi_iload_n (pc' := 52) (x := a3) kc_15_51 rfl rfl ?_
                  refine xi_goto (pc' := 61) kc_15_52 rfl ?_
                  refine xi_iastore (pc' := 62) (x' := [10, a3, 10, 10, 10, 10]) kc_15_61 rfl ((eh5.2.1 118 (by decide)).trans ((eh4.2.1 118 (by decide)).trans ((eh3.2.1 118 (by decide)).trans ((eh2.2.1 118 (by decide)).trans ((eh1.2.1 118 (by decide)).trans (F 118 _ hl_118)))))) rfl (xi_in (n := 6) (by decide) (by decide)) rfl (fun hh6 eh6 => ?_)
                  refine xi_aload_n (pc' := 63) (x := 115) kc_15_62 rfl rfl ?_
                  refine xi_getfield (pc' := 66) (v := .ref 119) kc_15_63 rfl rfl rfl ((eh6.2.1 115 (by decide)).trans ((eh5.2.1 115 (by decide)).trans ((eh4.2.1 115 (by decide)).trans eh3.1))) rfl ?_
                  refine xi_iload_n (pc' := 67) (x := 1) kc_15_66 rfl rfl ?_
                  refine xi_iload_n (pc' := 68) (x := 2) kc_15_67 rfl rfl ?_
                  refine xi_iconst (pc' := 69) (v := 3) kc_15_68 rfl rfl ?_
                  refine xi_cmt (pc' := 76) kc_15_69 rfl rfl ?_
                  refine xi_aload_n (pc' := 77) (x := 115) kc_15_76 rfl rfl ?_
                  refine xi_getfield (pc' := 80) (v := .ref 119) kc_15_77 rfl rfl rfl ((eh6.2.1 115 (by decide)).trans ((eh5.2.1 115 (by decide)).trans ((eh4.2.1 115 (by decide)).trans eh3.1))) rfl ?_
                  refine xi_iload_n (pc' := 81) (x := 1) kc_15_80 rfl rfl ?_
                  refine xi_iaload (pc' := 82) (v := 0) kc_15_81 rfl ((eh6.2.1 119 (by decide)).trans ((eh5.2.1 119 (by decide)).trans ((eh4.2.1 119 (by decide)).trans ((eh3.2.1 119 (by decide)).trans ((eh2.2.1 119 (by decide)).trans ((eh1.2.1 119 (by decide)).trans (F 119 _ hl_119))))))) (by decide) rfl (xi_in (n := 6) (by decide) (by decide)) rfl ?_
                  refine xi_iastore (pc' := 83) (x' := [0, 0, 0, 0, 0, 0]) kc_15_82 rfl ((eh6.2.1 119 (by decide)).trans ((eh5.2.1 119 (by decide)).trans ((eh4.2.1 119 (by decide)).trans ((eh3.2.1 119 (by decide)).trans ((eh2.2.1 119 (by decide)).trans ((eh1.2.1 119 (by decide)).trans (F 119 _ hl_119))))))) rfl (xi_in (n := 6) (by decide) (by decide)) rfl (fun hh7 eh7 => ?_)
                  refine xi_aload_n (pc' := 84) (x := 115) kc_15_83 rfl rfl ?_
                  refine xi_getfield (pc' := 87) (v := .ref 120) kc_15_84 rfl rfl rfl ((eh7.2.1 115 (by decide)).trans ((eh6.2.1 115 (by decide)).trans ((eh5.2.1 115 (by decide)).trans ((eh4.2.1 115 (by decide)).trans eh3.1)))) rfl ?_
                  refine xi_iload_n (pc' := 88) (x := 1) kc_15_87 rfl rfl ?_
                  refine xi_iload_n (pc' := 89) (x := 2) kc_15_88 rfl rfl ?_
                  refine xi_iconst (pc' := 90) (v := 4) kc_15_89 rfl rfl ?_
                  refine xi_cmt (pc' := 97) kc_15_90 rfl rfl ?_
                  refine xi_aload_n (pc' := 98) (x := 115) kc_15_97 rfl rfl ?_
                  refine xi_getfield (pc' := 101) (v := .ref 120) kc_15_98 rfl rfl rfl ((eh7.2.1 115 (by decide)).trans ((eh6.2.1 115 (by decide)).trans ((eh5.2.1 115 (by decide)).trans ((eh4.2.1 115 (by decide)).trans eh3.1)))) rfl ?_
                  refine xi_iload_n (pc' := 102) (x := 1) kc_15_101 rfl rfl ?_
                  refine xi_iaload (pc' := 103) (v := 0) kc_15_102 rfl ((eh7.2.1 120 (by decide)).trans ((eh6.2.1 120 (by decide)).trans ((eh5.2.1 120 (by decide)).trans ((eh4.2.1 120 (by decide)).trans ((eh3.2.1 120 (by decide)).trans ((eh2.2.1 120 (by decide)).trans ((eh1.2.1 120 (by decide)).trans (F 120 _ hl_120)))))))) (by decide) rfl (xi_in (n := 6) (by decide) (by decide)) rfl ?_
                  refine xi_iastore (pc' := 104) (x' := [0, 0, 0, 0, 0, 0]) kc_15_103 rfl ((eh7.2.1 120 (by decide)).trans ((eh6.2.1 120 (by decide)).trans ((eh5.2.1 120 (by decide)).trans ((eh4.2.1 120 (by decide)).trans ((eh3.2.1 120 (by decide)).trans ((eh2.2.1 120 (by decide)).trans ((eh1.2.1 120 (by decide)).trans (F 120 _ hl_120)))))))) rfl (xi_in (n := 6) (by decide) (by decide)) rfl (fun hh8 eh8 => ?_)
                  refine xi_aload_n (pc' := 105) (x := 115) kc_15_104 rfl rfl ?_
                  refine xi_getfield (pc' := 108) (v := .ref 121) kc_15_105 rfl rfl rfl ((eh8.2.1 115 (by decide)).trans ((eh7.2.1 115 (by decide)).trans ((eh6.2.1 115 (by decide)).trans ((eh5.2.1 115 (by decide)).trans ((eh4.2.1 115 (by decide)).trans eh3.1))))) rfl ?_
                  refine xi_iload_n (pc' := 109) (x := 1) kc_15_108 rfl rfl ?_
                  refine xi_iload_n (pc' := 110) (x := 2) kc_15_109 rfl rfl ?_
                  refine xi_iconst (pc' := 111) (v := 5) kc_15_110 rfl rfl ?_
                  refine xi_cmt (pc' := 118) kc_15_111 rfl rfl ?_
                  refine xi_aload_n (pc' := 119) (x := 115) kc_15_118 rfl rfl ?_
                  refine xi_getfield (pc' := 122) (v := .ref 121) kc_15_119 rfl rfl rfl ((eh8.2.1 115 (by decide)).trans ((eh7.2.1 115 (by decide)).trans ((eh6.2.1 115 (by decide)).trans ((eh5.2.1 115 (by decide)).trans ((eh4.2.1 115 (by decide)).trans eh3.1))))) rfl ?_
                  refine xi_iload_n (pc' := 123) (x := 1) kc_15_122 rfl rfl ?_
                  refine xi_iaload (pc' := 124) (v := 0) kc_15_123 rfl ((eh8.2.1 121 (by decide)).trans ((eh7.2.1 121 (by decide)).trans ((eh6.2.1 121 (by decide)).trans ((eh5.2.1 121 (by decide)).trans ((eh4.2.1 121 (by decide)).trans ((eh3.2.1 121 (by decide)).trans ((eh2.2.1 121 (by decide)).trans ((eh1.2.1 121 (by decide)).trans (F 121 _ hl_121))))))))) (by decide) rfl (xi_in (n := 6) (by decide) (by decide)) rfl ?_
                  refine xi_iastore (pc' := 125) (x' := [0, 0, 0, 0, 0, 0]) kc_15_124 rfl ((eh8.2.1 121 (by decide)).trans ((eh7.2.1 121 (by decide)).trans ((eh6.2.1 121 (by decide)).trans ((eh5.2.1 121 (by decide)).trans ((eh4.2.1 121 (by decide)).trans ((eh3.2.1 121 (by decide)).trans ((eh2.2.1 121 (by decide)).trans ((eh1.2.1 121 (by decide)).trans (F 121 _ hl_121))))))))) rfl (xi_in (n := 6) (by decide) (by decide)) rfl (fun hh9 eh9 => ?_)
                  refine xi_aload_n (pc' := 126) (x := 115) kc_15_125 rfl rfl ?_
                  refine xi_iconst (pc' := 127) (v := 0) kc_15_126 rfl rfl ?_
                  refine xi_putfield (pc' := 130) (fs' := [.int 0, .int 0, .ref 116, .ref 117, .ref 118, .ref 119, .ref 120, .ref 121, .ref 122, .ref 123, .ref 124, .ref 125, .ref 126, .ref 127, .ref 128, .ref 129, .int 4, .ref 130, .int 0, .ref 131, .ref 132, .ref 133, .ref 134, .int 0, .ref 135, .ref 136, .ref 137, .ref 138, .ref 139, .ref 140, .ref 141, .ref 142, .int 0, .int 0, .int 0, .ref 143, .ref 144, .ref 145, .ref 146, .ref 147, .ref 148, .int 0, .ref 149, .ref 150, .ref 151, .int 0, .ref 152, .ref 153, .ref 154, .ref 155, .ref 156, .ref 157, .ref 158, .ref 159, .int 0, .ref 160, .int 0, .ref 161, .ref 162, .ref 163, .ref 164, .int 0, .ref 165, .ref 166]) kc_15_127 rfl rfl rfl ((eh9.2.1 115 (by decide)).trans ((eh8.2.1 115 (by decide)).trans ((eh7.2.1 115 (by decide)).trans ((eh6.2.1 115 (by decide)).trans ((eh5.2.1 115 (by decide)).trans ((eh4.2.1 115 (by decide)).trans eh3.1)))))) rfl rfl rfl (Nat.le_of_ble_eq_true rfl) rfl (fun hh10 eh10 => ?_)
                  refine xi_return kc_15_130 mr_15 ?_
                  show xw J ov 99 10 (121, [(4, .int 10), (0, .ref 115), (1, .int 1), (2, .int 2), (3, .int a3)], [], hh10) _
                  refine xi_iload (pc' := 123) (x := 10) kc_10_121 rfl rfl ?_
                  refine xi_ireturn kc_10_123 mr_10 rfl ?_
                  show xw J ov 100 196 (236, [(4, .int 0), (3, .ref 167), (2, .ref 115), (1, .ref 0), (0, .ref 1000000)], [.int 10, .int 10], hh10) _
                  refine xi_cmt (pc' := 1528) kc_196_236 rfl rfl ?_
                  refine xi_iinc (pc' := 1531) (x := 0) (v := 6) (lv' := [(4, .int 6), (3, .ref 167), (2, .ref 115), (1, .ref 0), (0, .ref 1000000)]) kc_196_1528 rfl rfl rfl rfl (xm_lt ml_196 rfl) ?_
                  refine xi_goto (pc' := 23) kc_196_1531 rfl ?_
                  refine xi_iload (pc' := 25) (x := 6) kc_196_23 rfl rfl ?_
                  refine xi_aload_n (pc' := 26) (x := 1000000) kc_196_25 rfl rfl ?_
                  refine xi_arraylength (pc' := 27) (n := 6) (v := 6) kc_196_26 rfl (xl_lenO (by decide) hov0 rfl) rfl ?_
                  refine xi_bipush (pc' := 29) (v := 6) kc_196_27 rfl rfl ?_
                  refine xi_isub (pc' := 30) (v := 0) kc_196_29 rfl rfl ?_
                  refine xi_cmt (pc' := 1534) kc_196_30 rfl rfl ?_
                  refine xi_iconst (pc' := 1535) (v := 1) kc_196_1534 rfl rfl ?_
                  refine xi_ireturn kc_196_1535 mr_196 rfl ?_
                  refine ⟨rfl, ?_, ?_⟩
                  · rw [eh10.2.2.1, eh9.2.2.1, eh8.2.2.1, eh7.2.2.1, eh6.2.2.1, eh5.2.2.1, eh4.2.2.1, eh3.2.2.1, eh2.2.2.1, eh1.2.2.1]; exact hn0
                  · rw [eh10.2.2.2, eh9.2.2.2, eh8.2.2.2, eh7.2.2.2, eh6.2.2.2, eh5.2.2.2, eh4.2.2.2, eh3.2.2.2, eh2.2.2.2, eh1.2.2.2]; exact hz0
                by_cases c26 : a1.toInt = 2
                · have qa1 : a1 = 2 := xc_of (Eq.trans (by omega) (show (2 : Int) = (2 : Int32).toInt by decide))
                  subst qa1
                  refine xi_aaload (pc' := 13) (b := 17) kc_93_12 rfl ((eh1.2.1 2 (by decide)).trans (F 2 _ hl_2)) rfl (xi_in (n := 6) (by decide) (by decide)) rfl ?_
                  refine xi_iload_n (pc' := 14) (x := 2) kc_93_13 rfl rfl ?_
                  refine xi_iload_n (pc' := 15) (x := a3) kc_93_14 rfl rfl ?_
                  refine xi_virtual (mj := 94) (as := [.int 2, .int a3]) (st1 := []) (lv0 := [(0, .ref 17), (1, .int 2), (2, .int a3)]) kc_93_15 rfl rfl rfl rfl rfl ((eh1.2.1 17 (by decide)).trans (F 17 _ hl_17)) (Nat.le_of_ble_eq_true rfl) (hJ _ _ _ _ (by decide)) (xm_le ml_94 rfl) rfl ?_
                  refine xi_iload_n (pc' := 1) (x := 2) kc_94_0 rfl rfl ?_
                  refine xi_iff (pc' := 4) kc_94_1 rfl rfl ?_
                  refine xi_iload_n (pc' := 5) (x := 2) kc_94_4 rfl rfl ?_
                  refine xi_iconst (pc' := 6) (v := 5) kc_94_5 rfl rfl ?_
                  refine xi_cmt (pc' := 11) kc_94_6 rfl rfl ?_
                  refine xi_aload_n (pc' := 12) (x := 17) kc_94_11 rfl rfl ?_
                  refine xi_getfield (pc' := 15) (v := .ref 18) kc_94_12 rfl rfl rfl ((eh1.2.1 17 (by decide)).trans (F 17 _ hl_17)) rfl ?_
                  refine xi_iload_n (pc' := 16) (x := 2) kc_94_15 rfl rfl ?_
                  refine xi_iaload (pc' := 17) (v := 10) kc_94_16 rfl ((eh1.2.1 18 (by decide)).trans (F 18 _ hl_18)) (by decide) rfl (xi_in (n := 5) (by decide) (by decide)) rfl ?_
                  refine xi_istore_n (pc' := 18) (lv' := [(3, .int 10), (0, .ref 17), (1, .int 2), (2, .int a3)]) kc_94_17 rfl rfl (xm_lt ml_94 rfl) ?_
                  refine xi_aload_n (pc' := 19) (x := 17) kc_94_18 rfl rfl ?_
                  refine xi_getfield (pc' := 22) (v := .ref 18) kc_94_19 rfl rfl rfl ((eh1.2.1 17 (by decide)).trans (F 17 _ hl_17)) rfl ?_
                  refine xi_iload_n (pc' := 23) (x := 2) kc_94_22 rfl rfl ?_
                  refine xi_iload_n (pc' := 24) (x := a3) kc_94_23 rfl rfl ?_
                  refine xi_iastore (pc' := 25) (x' := [40, 18, a3, 0, 0]) kc_94_24 rfl ((eh1.2.1 18 (by decide)).trans (F 18 _ hl_18)) rfl (xi_in (n := 5) (by decide) (by decide)) rfl (fun hh2 eh2 => ?_)
                  refine xi_iload_n (pc' := 26) (x := 10) kc_94_25 rfl rfl ?_
                  refine xi_ireturn kc_94_26 mr_94 rfl ?_
                  show xw J ov 98 93 (18, [(0, .ref 1), (1, .int 2), (2, .int 2), (3, .int a3)], [.int 10], hh2) _
                  refine xi_goto (pc' := 22) kc_93_18 rfl ?_
                  refine xi_ireturn kc_93_22 mr_93 rfl ?_
                  show xw J ov 99 89 (107, [(0, .ref 0), (1, .int 2), (2, .int 2), (3, .int a3)], [.int 10], hh2) _
                  refine xi_ireturn kc_89_107 mr_89 rfl ?_
                  show xw J ov 100 196 (214, [(4, .int 0), (3, .ref 167), (2, .ref 115), (1, .ref 0), (0, .ref 1000000)], [.int 10], hh2) _
                  refine xi_aload_n (pc' := 215) (x := 115) kc_196_214 rfl rfl ?_
                  refine xi_aload_n (pc' := 216) (x := 1000000) kc_196_215 rfl rfl ?_
                  refine xi_iload (pc' := 218) (x := 0) kc_196_216 rfl rfl ?_
                  refine xi_iconst (pc' := 219) (v := 1) kc_196_218 rfl rfl ?_
                  refine xi_iadd (pc' := 220) (v := 1) kc_196_219 rfl rfl ?_
                  refine xi_ialoadO (pc' := 221) (v := 2) kc_196_220 rfl (by decide) hov0 (xi_in (n := 6) (by decide) (by decide)) rfl ?_
                  refine xi_aload_n (pc' := 222) (x := 1000000) kc_196_221 rfl rfl ?_
                  refine xi_iload (pc' := 224) (x := 0) kc_196_222 rfl rfl ?_
                  refine xi_iconst (pc' := 225) (v := 2) kc_196_224 rfl rfl ?_
                  refine xi_iadd (pc' := 226) (v := 2) kc_196_225 rfl rfl ?_
                  refine xi_ialoadO (pc' := 227) (v := 2) kc_196_226 rfl (by decide) hov0 (xi_in (n := 6) (by decide) (by decide)) rfl ?_
                  refine xi_aload_n (pc' := 228) (x := 1000000) kc_196_227 rfl rfl ?_
                  refine xi_iload (pc' := 230) (x := 0) kc_196_228 rfl rfl ?_
                  refine xi_iconst (pc' := 231) (v := 3) kc_196_230 rfl rfl ?_
                  refine xi_iadd (pc' := 232) (v := 3) kc_196_231 rfl rfl ?_
                  refine xi_ialoadO (pc' := 233) (v := a3) kc_196_232 rfl (by decide) hov0 (xi_in (n := 6) (by decide) (by decide)) rfl ?_
                  refine xi_virtual (mj := 10) (as := [.int 2, .int 2, .int a3]) (st1 := [.int 10]) (lv0 := [(0, .ref 115), (1, .int 2), (2, .int 2), (3, .int a3)]) kc_196_233 rfl rfl rfl rfl rfl ((eh2.2.1 115 (by decide)).trans ((eh1.2.1 115 (by decide)).trans (F 115 _ hl_115))) (Nat.le_of_ble_eq_true rfl) (hJ _ _ _ _ (by decide)) (xm_le ml_10 rfl) rfl ?_
                  refine xi_aload_n (pc' := 1) (x := 115) kc_10_0 rfl rfl ?_
                  refine xi_iconst (pc' := 2) (v := 0) kc_10_1 rfl rfl ?_
                  refine xi_putfield (pc' := 5) (fs' := [.int 0, .int 0, .ref 116, .ref 117, .ref 118, .ref 119, .ref 120, .ref 121, .ref 122, .ref 123, .ref 124, .ref 125, .ref 126, .ref 127, .ref 128, .ref 129, .int 4, .ref 130, .int 0, .ref 131, .ref 132, .ref 133, .ref 134, .int 0, .ref 135, .ref 136, .ref 137, .ref 138, .ref 139, .ref 140, .ref 141, .ref 142, .int 0, .int 0, .int 0, .ref 143, .ref 144, .ref 145, .ref 146, .ref 147, .ref 148, .int 0, .ref 149, .ref 150, .ref 151, .int 0, .ref 152, .ref 153, .ref 154, .ref 155, .ref 156, .ref 157, .ref 158, .ref 159, .int 0, .ref 160, .int 0, .ref 161, .ref 162, .ref 163, .ref 164, .int 0, .ref 165, .ref 166]) kc_10_2 rfl rfl rfl ((eh2.2.1 115 (by decide)).trans ((eh1.2.1 115 (by decide)).trans (F 115 _ hl_115))) rfl rfl rfl (Nat.le_of_ble_eq_true rfl) rfl (fun hh3 eh3 => ?_)
                  refine xi_iload_n (pc' := 6) (x := 2) kc_10_5 rfl rfl ?_
                  refine xi_static (mj := 11) (as := [.int 2]) (st1 := []) (lv0 := [(0, .int 2)]) kc_10_6 rfl rfl (Nat.le_of_ble_eq_true rfl) rfl rfl (Nat.le_of_ble_eq_true rfl) (hJ _ _ _ _ (by decide)) (xm_le ml_11 rfl) rfl ?_
                  refine xi_iload_n (pc' := 1) (x := 2) kc_11_0 rfl rfl ?_
                  refine xi_iconst (pc' := 2) (v := 0) kc_11_1 rfl rfl ?_
                  refine xi_iconst (pc' := 3) (v := 5) kc_11_2 rfl rfl ?_
                  refine xi_static (mj := 12) (as := [.int 2, .int 0, .int 5]) (st1 := []) (lv0 := [(0, .int 2), (1, .int 0), (2, .int 5)]) kc_11_3 rfl rfl (Nat.le_of_ble_eq_true rfl) rfl rfl (Nat.le_of_ble_eq_true rfl) (hJ _ _ _ _ (by decide)) (xm_le ml_12 rfl) rfl ?_
                  refine xi_iload_n (pc' := 1) (x := 2) kc_12_0 rfl rfl ?_
                  refine xi_iload_n (pc' := 2) (x := 0) kc_12_1 rfl rfl ?_
                  refine xi_cmf (pc' := 5) kc_12_2 rfl rfl ?_
                  refine xi_iload_n (pc' := 6) (x := 2) kc_12_5 rfl rfl ?_
                  refine xi_iload_n (pc' := 7) (x := 5) kc_12_6 rfl rfl ?_
                  refine xi_cmf (pc' := 10) kc_12_7 rfl rfl ?_
                  refine xi_iconst (pc' := 11) (v := 1) kc_12_10 rfl rfl ?_
                  refine xi_goto (pc' := 15) kc_12_11 rfl ?_
                  refine xi_ireturn kc_12_15 mr_12 rfl ?_
                  show xw J ov 98 11 (6, [(0, .int 2)], [.int 1], hh3) _
                  refine xi_ireturn kc_11_6 mr_11 rfl ?_
                  show xw J ov 99 10 (9, [(0, .ref 115), (1, .int 2), (2, .int 2), (3, .int a3)], [.int 1], hh3) _
                  refine xi_ift (pc' := 18) kc_10_9 rfl rfl ?_
                  refine xi_iload_n (pc' := 19) (x := 2) kc_10_18 rfl rfl ?_
                  refine xi_iconst (pc' := 20) (v := 0) kc_10_19 rfl rfl ?_
                  refine xi_iconst (pc' := 21) (v := 5) kc_10_20 rfl rfl ?_
                  refine xi_static (mj := 12) (as := [.int 2, .int 0, .int 5]) (st1 := []) (lv0 := [(0, .int 2), (1, .int 0), (2, .int 5)]) kc_10_21 rfl rfl (Nat.le_of_ble_eq_true rfl) rfl rfl (Nat.le_of_ble_eq_true rfl) (hJ _ _ _ _ (by decide)) (xm_le ml_12 rfl) rfl ?_
                  refine xi_iload_n (pc' := 1) (x := 2) kc_12_0 rfl rfl ?_
                  refine xi_iload_n (pc' := 2) (x := 0) kc_12_1 rfl rfl ?_
                  refine xi_cmf (pc' := 5) kc_12_2 rfl rfl ?_
                  refine xi_iload_n (pc' := 6) (x := 2) kc_12_5 rfl rfl ?_
                  refine xi_iload_n (pc' := 7) (x := 5) kc_12_6 rfl rfl ?_
                  refine xi_cmf (pc' := 10) kc_12_7 rfl rfl ?_
                  refine xi_iconst (pc' := 11) (v := 1) kc_12_10 rfl rfl ?_
                  refine xi_goto (pc' := 15) kc_12_11 rfl ?_
                  refine xi_ireturn kc_12_15 mr_12 rfl ?_
                  show xw J ov 99 10 (24, [(0, .ref 115), (1, .int 2), (2, .int 2), (3, .int a3)], [.int 1], hh3) _
                  refine xi_ift (pc' := 34) kc_10_24 rfl rfl ?_
                  refine xi_iload_n (pc' := 35) (x := a3) kc_10_34 rfl rfl ?_
                  refine xi_iload_n (pc' := 36) (x := 2) kc_10_35 rfl rfl ?_
                  refine xi_ift (pc' := 44) kc_10_36 rfl rfl ?_
                  refine xi_iconst (pc' := 45) (v := 0) kc_10_44 rfl rfl ?_
                  refine xi_cmt (pc' := 55) kc_10_45 rfl (xc_ge_t (X := a3.toInt) (Y := 0) rfl (by decide) (by omega)) ?_
                  refine xi_iload_n (pc' := 56) (x := a3) kc_10_55 rfl rfl ?_
                  refine xi_iload_n (pc' := 57) (x := 2) kc_10_56 rfl rfl ?_
                  refine xi_ift (pc' := 65) kc_10_57 rfl rfl ?_
                  refine xi_iload_n (pc' := 66) (x := 2) kc_10_65 rfl rfl ?_
                  refine xi_iconst (pc' := 67) (v := 1) kc_10_66 rfl rfl ?_
                  refine xi_cmt (pc' := 75) kc_10_67 rfl rfl ?_
                  refine xi_iload_n (pc' := 76) (x := 2) kc_10_75 rfl rfl ?_
                  refine xi_iconst (pc' := 77) (v := 4) kc_10_76 rfl rfl ?_
                  refine xi_cmf (pc' := 80) kc_10_77 rfl rfl ?_
                  refine xi_bipush (pc' := 82) (v := 50) kc_10_80 rfl rfl ?_
                  refine xi_goto (pc' := 96) kc_10_82 rfl ?_
                  refine xi_cmt (pc' := 106) kc_10_96 rfl (xc_le_t (X := a3.toInt) (Y := 50) rfl (by decide) (by omega)) ?_
                  refine xi_aload_n (pc' := 107) (x := 115) kc_10_106 rfl rfl ?_
                  refine xi_iload_n (pc' := 108) (x := 2) kc_10_107 rfl rfl ?_
                  refine xi_iload_n (pc' := 109) (x := 2) kc_10_108 rfl rfl ?_
                  refine xi_virtual (mj := 14) (as := [.int 2, .int 2]) (st1 := []) (lv0 := [(0, .ref 115), (1, .int 2), (2, .int 2)]) kc_10_109 rfl rfl rfl rfl rfl eh3.1 (Nat.le_of_ble_eq_true rfl) (hJ _ _ _ _ (by decide)) (xm_le ml_14 rfl) rfl ?_
                  refine xi_iload_n (pc' := 1) (x := 2) kc_14_0 rfl rfl ?_
                  refine xi_tsi (pc' := 50) (z := 2) kc_14_1 (rfl) rfl (by decide) ?_
                  refine xi_aload_n (pc' := 51) (x := 115) kc_14_50 rfl rfl ?_
                  refine xi_getfield (pc' := 54) (v := .ref 118) kc_14_51 rfl rfl rfl eh3.1 rfl ?_
                  refine xi_iload_n (pc' := 55) (x := 2) kc_14_54 rfl rfl ?_
                  refine xi_iaload (pc' := 56) (v := 10) kc_14_55 rfl ((eh3.2.1 118 (by decide)).trans ((eh2.2.1 118 (by decide)).trans ((eh1.2.1 118 (by decide)).trans (F 118 _ hl_118)))) (by decide) rfl (xi_in (n := 6) (by decide) (by decide)) rfl ?_
                  refine xi_ireturn kc_14_56 mr_14 rfl ?_
                  show xw J ov 99 10 (112, [(0, .ref 115), (1, .int 2), (2, .int 2), (3, .int a3)], [.int 10], hh3) _
                  refine xi_istore (pc' := 114) (lv' := [(4, .int 10), (0, .ref 115), (1, .int 2), (2, .int 2), (3, .int a3)]) kc_10_112 rfl rfl (xm_lt ml_10 rfl) ?_
                  refine xi_aload_n (pc' := 115) (x := 115) kc_10_114 rfl rfl ?_
                  refine xi_iload_n (pc' := 116) (x := 2) kc_10_115 rfl rfl ?_
                  refine xi_iload_n (pc' := 117) (x := 2) kc_10_116 rfl rfl ?_
                  refine xi_iload_n (pc' := 118) (x := a3) kc_10_117 rfl rfl ?_
                  refine xi_virtual (mj := 15) (as := [.int 2, .int 2, .int a3]) (st1 := []) (lv0 := [(0, .ref 115), (1, .int 2), (2, .int 2), (3, .int a3)]) kc_10_118 rfl rfl rfl rfl rfl eh3.1 (Nat.le_of_ble_eq_true rfl) (hJ _ _ _ _ (by decide)) (xm_le ml_15 rfl) rfl ?_
                  refine xi_aload_n (pc' := 1) (x := 115) kc_15_0 rfl rfl ?_
                  refine xi_getfield (pc' := 4) (v := .ref 116) kc_15_1 rfl rfl rfl eh3.1 rfl ?_
                  refine xi_iload_n (pc' := 5) (x := 2) kc_15_4 rfl rfl ?_
                  refine xi_iload_n (pc' := 6) (x := 2) kc_15_5 rfl rfl ?_
                  refine xi_ift (pc' := 13) kc_15_6 rfl rfl ?_
                  refine xi_aload_n (pc' := 14) (x := 115) kc_15_13 rfl rfl ?_
                  refine xi_getfield (pc' := 17) (v := .ref 116) kc_15_14 rfl rfl rfl eh3.1 rfl ?_
                  refine xi_iload_n (pc' := 18) (x := 2) kc_15_17 rfl rfl ?_
                  refine xi_iaload (pc' := 19) (v := 40) kc_15_18 rfl ((eh3.2.1 116 (by decide)).trans ((eh2.2.1 116 (by decide)).trans ((eh1.2.1 116 (by decide)).trans (F 116 _ hl_116)))) (by decide) rfl (xi_in (n := 6) (by decide) (by decide)) rfl ?_
                  refine xi_iastore (pc' := 20) (x' := [40, 40, 40, 40, 40, 40]) kc_15_19 rfl ((eh3.2.1 116 (by decide)).trans ((eh2.2.1 116 (by decide)).trans ((eh1.2.1 116 (by decide)).trans (F 116 _ hl_116)))) rfl (xi_in (n := 6) (by decide) (by decide)) rfl (fun hh4 eh4 => ?_)
                  refine xi_aload_n (pc' := 21) (x := 115) kc_15_20 rfl rfl ?_
                  refine xi_getfield (pc' := 24) (v := .ref 117) kc_15_21 rfl rfl rfl ((eh4.2.1 115 (by decide)).trans eh3.1) rfl ?_
                  refine xi_iload_n (pc' := 25) (x := 2) kc_15_24 rfl rfl ?_
                  refine xi_iload_n (pc' := 26) (x := 2) kc_15_25 rfl rfl ?_
                  refine xi_iconst (pc' := 27) (v := 1) kc_15_26 rfl rfl ?_
                  refine xi_cmt (pc' := 34) kc_15_27 rfl rfl ?_
                  refine xi_aload_n (pc' := 35) (x := 115) kc_15_34 rfl rfl ?_
                  refine xi_getfield (pc' := 38) (v := .ref 117) kc_15_35 rfl rfl rfl ((eh4.2.1 115 (by decide)).trans eh3.1) rfl ?_
                  refine xi_iload_n (pc' := 39) (x := 2) kc_15_38 rfl rfl ?_
                  refine xi_iaload (pc' := 40) (v := 18) kc_15_39 rfl ((eh4.2.1 117 (by decide)).trans ((eh3.2.1 117 (by decide)).trans ((eh2.2.1 117 (by decide)).trans ((eh1.2.1 117 (by decide)).trans (F 117 _ hl_117))))) (by decide) rfl (xi_in (n := 6) (by decide) (by decide)) rfl ?_
                  refine xi_iastore (pc' := 41) (x' := [18, 18, 18, 18, 18, 18]) kc_15_40 rfl ((eh4.2.1 117 (by decide)).trans ((eh3.2.1 117 (by decide)).trans ((eh2.2.1 117 (by decide)).trans ((eh1.2.1 117 (by decide)).trans (F 117 _ hl_117))))) rfl (xi_in (n := 6) (by decide) (by decide)) rfl (fun hh5 eh5 => ?_)
                  refine xi_aload_n (pc' := 42) (x := 115) kc_15_41 rfl rfl ?_
                  refine xi_getfield (pc' := 45) (v := .ref 118) kc_15_42 rfl rfl rfl ((eh5.2.1 115 (by decide)).trans ((eh4.2.1 115 (by decide)).trans eh3.1)) rfl ?_
                  refine xi_iload_n (pc' := 46) (x := 2) kc_15_45 rfl rfl ?_
                  refine xi_iload_n (pc' := 47) (x := 2) kc_15_46 rfl rfl ?_
                  refine xi_iconst (pc' := 48) (v := 2) kc_15_47 rfl rfl ?_
                  refine xi_cmf (pc' := 51) kc_15_48 rfl rfl ?_
                  refine xi_iload_n (pc' := 52) (x := a3) kc_15_51 rfl rfl ?_
                  refine xi_goto (pc' := 61) kc_15_52 rfl ?_
                  refine xi_iastore (pc' := 62) (x' := [10, 10, a3, 10, 10, 10]) kc_15_61 rfl ((eh5.2.1 118 (by decide)).trans ((eh4.2.1 118 (by decide)).trans ((eh3.2.1 118 (by decide)).trans ((eh2.2.1 118 (by decide)).trans ((eh1.2.1 118 (by decide)).trans (F 118 _ hl_118)))))) rfl (xi_in (n := 6) (by decide) (by decide)) rfl (fun hh6 eh6 => ?_)
                  refine xi_aload_n (pc' := 63) (x := 115) kc_15_62 rfl rfl ?_
                  refine xi_getfield (pc' := 66) (v := .ref 119) kc_15_63 rfl rfl rfl ((eh6.2.1 115 (by decide)).trans ((eh5.2.1 115 (by decide)).trans ((eh4.2.1 115 (by decide)).trans eh3.1))) rfl ?_
                  refine xi_iload_n (pc' := 67) (x := 2) kc_15_66 rfl rfl ?_
                  refine xi_iload_n (pc' := 68) (x := 2) kc_15_67 rfl rfl ?_
                  refine xi_iconst (pc' := 69) (v := 3) kc_15_68 rfl rfl ?_
                  refine xi_cmt (pc' := 76) kc_15_69 rfl rfl ?_
                  refine xi_aload_n (pc' := 77) (x := 115) kc_15_76 rfl rfl ?_
                  refine xi_getfield (pc' := 80) (v := .ref 119) kc_15_77 rfl rfl rfl ((eh6.2.1 115 (by decide)).trans ((eh5.2.1 115 (by decide)).trans ((eh4.2.1 115 (by decide)).trans eh3.1))) rfl ?_
                  refine xi_iload_n (pc' := 81) (x := 2) kc_15_80 rfl rfl ?_
                  refine xi_iaload (pc' := 82) (v := 0) kc_15_81 rfl ((eh6.2.1 119 (by decide)).trans ((eh5.2.1 119 (by decide)).trans ((eh4.2.1 119 (by decide)).trans ((eh3.2.1 119 (by decide)).trans ((eh2.2.1 119 (by decide)).trans ((eh1.2.1 119 (by decide)).trans (F 119 _ hl_119))))))) (by decide) rfl (xi_in (n := 6) (by decide) (by decide)) rfl ?_
                  refine xi_iastore (pc' := 83) (x' := [0, 0, 0, 0, 0, 0]) kc_15_82 rfl ((eh6.2.1 119 (by decide)).trans ((eh5.2.1 119 (by decide)).trans ((eh4.2.1 119 (by decide)).trans ((eh3.2.1 119 (by decide)).trans ((eh2.2.1 119 (by decide)).trans ((eh1.2.1 119 (by decide)).trans (F 119 _ hl_119))))))) rfl (xi_in (n := 6) (by decide) (by decide)) rfl (fun hh7 eh7 => ?_)
                  refine xi_aload_n (pc' := 84) (x := 115) kc_15_83 rfl rfl ?_
                  refine xi_getfield (pc' := 87) (v := .ref 120) kc_15_84 rfl rfl rfl ((eh7.2.1 115 (by decide)).trans ((eh6.2.1 115 (by decide)).trans ((eh5.2.1 115 (by decide)).trans ((eh4.2.1 115 (by decide)).trans eh3.1)))) rfl ?_
                  refine xi_iload_n (pc' := 88) (x := 2) kc_15_87 rfl rfl ?_
                  refine xi_iload_n (pc' := 89) (x := 2) kc_15_88 rfl rfl ?_
                  refine xi_iconst (pc' := 90) (v := 4) kc_15_89 rfl rfl ?_
                  refine xi_cmt (pc' := 97) kc_15_90 rfl rfl ?_
                  refine xi_aload_n (pc' := 98) (x := 115) kc_15_97 rfl rfl ?_
                  refine xi_getfield (pc' := 101) (v := .ref 120) kc_15_98 rfl rfl rfl ((eh7.2.1 115 (by decide)).trans ((eh6.2.1 115 (by decide)).trans ((eh5.2.1 115 (by decide)).trans ((eh4.2.1 115 (by decide)).trans eh3.1)))) rfl ?_
                  refine xi_iload_n (pc' := 102) (x := 2) kc_15_101 rfl rfl ?_
                  refine xi_iaload (pc' := 103) (v := 0) kc_15_102 rfl ((eh7.2.1 120 (by decide)).trans ((eh6.2.1 120 (by decide)).trans ((eh5.2.1 120 (by decide)).trans ((eh4.2.1 120 (by decide)).trans ((eh3.2.1 120 (by decide)).trans ((eh2.2.1 120 (by decide)).trans ((eh1.2.1 120 (by decide)).trans (F 120 _ hl_120)))))))) (by decide) rfl (xi_in (n := 6) (by decide) (by decide)) rfl ?_
                  refine xi_iastore (pc' := 104) (x' := [0, 0, 0, 0, 0, 0]) kc_15_103 rfl ((eh7.2.1 120 (by decide)).trans ((eh6.2.1 120 (by decide)).trans ((eh5.2.1 120 (by decide)).trans ((eh4.2.1 120 (by decide)).trans ((eh3.2.1 120 (by decide)).trans ((eh2.2.1 120 (by decide)).trans ((eh1.2.1 120 (by decide)).trans (F 120 _ hl_120)))))))) rfl (xi_in (n := 6) (by decide) (by decide)) rfl (fun hh8 eh8 => ?_)
                  refine xi_aload_n (pc' := 105) (x := 115) kc_15_104 rfl rfl ?_
                  refine xi_getfield (pc' := 108) (v := .ref 121) kc_15_105 rfl rfl rfl ((eh8.2.1 115 (by decide)).trans ((eh7.2.1 115 (by decide)).trans ((eh6.2.1 115 (by decide)).trans ((eh5.2.1 115 (by decide)).trans ((eh4.2.1 115 (by decide)).trans eh3.1))))) rfl ?_
                  refine xi_iload_n (pc' := 109) (x := 2) kc_15_108 rfl rfl ?_
                  refine xi_iload_n (pc' := 110) (x := 2) kc_15_109 rfl rfl ?_
                  refine xi_iconst (pc' := 111) (v := 5) kc_15_110 rfl rfl ?_
                  refine xi_cmt (pc' := 118) kc_15_111 rfl rfl ?_
                  refine xi_aload_n (pc' := 119) (x := 115) kc_15_118 rfl rfl ?_
                  refine xi_getfield (pc' := 122) (v := .ref 121) kc_15_119 rfl rfl rfl ((eh8.2.1 115 (by decide)).trans ((eh7.2.1 115 (by decide)).trans ((eh6.2.1 115 (by decide)).trans ((eh5.2.1 115 (by decide)).trans ((eh4.2.1 115 (by decide)).trans eh3.1))))) rfl ?_
                  refine xi_iload_n (pc' := 123) (x := 2) kc_15_122 rfl rfl ?_
                  refine xi_iaload (pc' := 124) (v := 0) kc_15_123 rfl ((eh8.2.1 121 (by decide)).trans ((eh7.2.1 121 (by decide)).trans ((eh6.2.1 121 (by decide)).trans ((eh5.2.1 121 (by decide)).trans ((eh4.2.1 121 (by decide)).trans ((eh3.2.1 121 (by decide)).trans ((eh2.2.1 121 (by decide)).trans ((eh1.2.1 121 (by decide)).trans (F 121 _ hl_121))))))))) (by decide) rfl (xi_in (n := 6) (by decide) (by decide)) rfl ?_
                  refine xi_iastore (pc' := 125) (x' := [0, 0, 0, 0, 0, 0]) kc_15_124 rfl ((eh8.2.1 121 (by decide)).trans ((eh7.2.1 121 (by decide)).trans ((eh6.2.1 121 (by decide)).trans ((eh5.2.1 121 (by decide)).trans ((eh4.2.1 121 (by decide)).trans ((eh3.2.1 121 (by decide)).trans ((eh2.2.1 121 (by decide)).trans ((eh1.2.1 121 (by decide)).trans (F 121 _ hl_121))))))))) rfl (xi_in (n := 6) (by decide) (by decide)) rfl (fun hh9 eh9 => ?_)
                  refine xi_aload_n (pc' := 126) (x := 115) kc_15_125 rfl rfl ?_
                  refine xi_iconst (pc' := 127) (v := 0) kc_15_126 rfl rfl ?_
                  refine xi_putfield (pc' := 130) (fs' := [.int 0, .int 0, .ref 116, .ref 117, .ref 118, .ref 119, .ref 120, .ref 121, .ref 122, .ref 123, .ref 124, .ref 125, .ref 126, .ref 127, .ref 128, .ref 129, .int 4, .ref 130, .int 0, .ref 131, .ref 132, .ref 133, .ref 134, .int 0, .ref 135, .ref 136, .ref 137, .ref 138, .ref 139, .ref 140, .ref 141, .ref 142, .int 0, .int 0, .int 0, .ref 143, .ref 144, .ref 145, .ref 146, .ref 147, .ref 148, .int 0, .ref 149, .ref 150, .ref 151, .int 0, .ref 152, .ref 153, .ref 154, .ref 155, .ref 156, .ref 157, .ref 158, .ref 159, .int 0, .ref 160, .int 0, .ref 161, .ref 162, .ref 163, .ref 164, .int 0, .ref 165, .ref 166]) kc_15_127 rfl rfl rfl ((eh9.2.1 115 (by decide)).trans ((eh8.2.1 115 (by decide)).trans ((eh7.2.1 115 (by decide)).trans ((eh6.2.1 115 (by decide)).trans ((eh5.2.1 115 (by decide)).trans ((eh4.2.1 115 (by decide)).trans eh3.1)))))) rfl rfl rfl (Nat.le_of_ble_eq_true rfl) rfl (fun hh10 eh10 => ?_)
                  refine xi_return kc_15_130 mr_15 ?_
                  show xw J ov 99 10 (121, [(4, .int 10), (0, .ref 115), (1, .int 2), (2, .int 2), (3, .int a3)], [], hh10) _
                  refine xi_iload (pc' := 123) (x := 10) kc_10_121 rfl rfl ?_
                  refine xi_ireturn kc_10_123 mr_10 rfl ?_
                  show xw J ov 100 196 (236, [(4, .int 0), (3, .ref 167), (2, .ref 115), (1, .ref 0), (0, .ref 1000000)], [.int 10, .int 10], hh10) _
                  refine xi_cmt (pc' := 1528) kc_196_236 rfl rfl ?_
                  refine xi_iinc (pc' := 1531) (x := 0) (v := 6) (lv' := [(4, .int 6), (3, .ref 167), (2, .ref 115), (1, .ref 0), (0, .ref 1000000)]) kc_196_1528 rfl rfl rfl rfl (xm_lt ml_196 rfl) ?_
                  refine xi_goto (pc' := 23) kc_196_1531 rfl ?_
                  refine xi_iload (pc' := 25) (x := 6) kc_196_23 rfl rfl ?_
                  refine xi_aload_n (pc' := 26) (x := 1000000) kc_196_25 rfl rfl ?_
                  refine xi_arraylength (pc' := 27) (n := 6) (v := 6) kc_196_26 rfl (xl_lenO (by decide) hov0 rfl) rfl ?_
                  refine xi_bipush (pc' := 29) (v := 6) kc_196_27 rfl rfl ?_
                  refine xi_isub (pc' := 30) (v := 0) kc_196_29 rfl rfl ?_
                  refine xi_cmt (pc' := 1534) kc_196_30 rfl rfl ?_
                  refine xi_iconst (pc' := 1535) (v := 1) kc_196_1534 rfl rfl ?_
                  refine xi_ireturn kc_196_1535 mr_196 rfl ?_
                  refine ⟨rfl, ?_, ?_⟩
                  · rw [eh10.2.2.1, eh9.2.2.1, eh8.2.2.1, eh7.2.2.1, eh6.2.2.1, eh5.2.2.1, eh4.2.2.1, eh3.2.2.1, eh2.2.2.1, eh1.2.2.1]; exact hn0
                  · rw [eh10.2.2.2, eh9.2.2.2, eh8.2.2.2, eh7.2.2.2, eh6.2.2.2, eh5.2.2.2, eh4.2.2.2, eh3.2.2.2, eh2.2.2.2, eh1.2.2.2]; exact hz0
                by_cases c27 : a1.toInt = 3
                · have qa1 : a1 = 3 := xc_of (Eq.trans (by omega) (show (3 : Int) = (3 : Int32).toInt by decide))
                  subst qa1
                  refine xi_aaload (pc' := 13) (b := 20) kc_93_12 rfl ((eh1.2.1 2 (by decide)).trans (F 2 _ hl_2)) rfl (xi_in (n := 6) (by decide) (by decide)) rfl ?_
                  refine xi_iload_n (pc' := 14) (x := 2) kc_93_13 rfl rfl ?_
                  refine xi_iload_n (pc' := 15) (x := a3) kc_93_14 rfl rfl ?_
                  refine xi_virtual (mj := 94) (as := [.int 2, .int a3]) (st1 := []) (lv0 := [(0, .ref 20), (1, .int 2), (2, .int a3)]) kc_93_15 rfl rfl rfl rfl rfl ((eh1.2.1 20 (by decide)).trans (F 20 _ hl_20)) (Nat.le_of_ble_eq_true rfl) (hJ _ _ _ _ (by decide)) (xm_le ml_94 rfl) rfl ?_
                  refine xi_iload_n (pc' := 1) (x := 2) kc_94_0 rfl rfl ?_
                  refine xi_iff (pc' := 4) kc_94_1 rfl rfl ?_
                  refine xi_iload_n (pc' := 5) (x := 2) kc_94_4 rfl rfl ?_
                  refine xi_iconst (pc' := 6) (v := 5) kc_94_5 rfl rfl ?_
                  refine xi_cmt (pc' := 11) kc_94_6 rfl rfl ?_
                  refine xi_aload_n (pc' := 12) (x := 20) kc_94_11 rfl rfl ?_
                  refine xi_getfield (pc' := 15) (v := .ref 21) kc_94_12 rfl rfl rfl ((eh1.2.1 20 (by decide)).trans (F 20 _ hl_20)) rfl ?_
                  refine xi_iload_n (pc' := 16) (x := 2) kc_94_15 rfl rfl ?_
                  refine xi_iaload (pc' := 17) (v := 10) kc_94_16 rfl ((eh1.2.1 21 (by decide)).trans (F 21 _ hl_21)) (by decide) rfl (xi_in (n := 5) (by decide) (by decide)) rfl ?_
                  refine xi_istore_n (pc' := 18) (lv' := [(3, .int 10), (0, .ref 20), (1, .int 2), (2, .int a3)]) kc_94_17 rfl rfl (xm_lt ml_94 rfl) ?_
                  refine xi_aload_n (pc' := 19) (x := 20) kc_94_18 rfl rfl ?_
                  refine xi_getfield (pc' := 22) (v := .ref 21) kc_94_19 rfl rfl rfl ((eh1.2.1 20 (by decide)).trans (F 20 _ hl_20)) rfl ?_
                  refine xi_iload_n (pc' := 23) (x := 2) kc_94_22 rfl rfl ?_
                  refine xi_iload_n (pc' := 24) (x := a3) kc_94_23 rfl rfl ?_
                  refine xi_iastore (pc' := 25) (x' := [40, 18, a3, 0, 0]) kc_94_24 rfl ((eh1.2.1 21 (by decide)).trans (F 21 _ hl_21)) rfl (xi_in (n := 5) (by decide) (by decide)) rfl (fun hh2 eh2 => ?_)
                  refine xi_iload_n (pc' := 26) (x := 10) kc_94_25 rfl rfl ?_
                  refine xi_ireturn kc_94_26 mr_94 rfl ?_
                  show xw J ov 98 93 (18, [(0, .ref 1), (1, .int 3), (2, .int 2), (3, .int a3)], [.int 10], hh2) _
                  refine xi_goto (pc' := 22) kc_93_18 rfl ?_
                  refine xi_ireturn kc_93_22 mr_93 rfl ?_
                  show xw J ov 99 89 (107, [(0, .ref 0), (1, .int 3), (2, .int 2), (3, .int a3)], [.int 10], hh2) _
                  refine xi_ireturn kc_89_107 mr_89 rfl ?_
                  show xw J ov 100 196 (214, [(4, .int 0), (3, .ref 167), (2, .ref 115), (1, .ref 0), (0, .ref 1000000)], [.int 10], hh2) _
                  refine xi_aload_n (pc' := 215) (x := 115) kc_196_214 rfl rfl ?_
                  refine xi_aload_n (pc' := 216) (x := 1000000) kc_196_215 rfl rfl ?_
                  refine xi_iload (pc' := 218) (x := 0) kc_196_216 rfl rfl ?_
                  refine xi_iconst (pc' := 219) (v := 1) kc_196_218 rfl rfl ?_
                  refine xi_iadd (pc' := 220) (v := 1) kc_196_219 rfl rfl ?_
                  refine xi_ialoadO (pc' := 221) (v := 3) kc_196_220 rfl (by decide) hov0 (xi_in (n := 6) (by decide) (by decide)) rfl ?_
                  refine xi_aload_n (pc' := 222) (x := 1000000) kc_196_221 rfl rfl ?_
                  refine xi_iload (pc' := 224) (x := 0) kc_196_222 rfl rfl ?_
                  refine xi_iconst (pc' := 225) (v := 2) kc_196_224 rfl rfl ?_
                  refine xi_iadd (pc' := 226) (v := 2) kc_196_225 rfl rfl ?_
                  refine xi_ialoadO (pc' := 227) (v := 2) kc_196_226 rfl (by decide) hov0 (xi_in (n := 6) (by decide) (by decide)) rfl ?_
                  refine xi_aload_n (pc' := 228) (x := 1000000) kc_196_227 rfl rfl ?_
                  refine xi_iload (pc' := 230) (x := 0) kc_196_228 rfl rfl ?_
                  refine xi_iconst (pc' := 231) (v := 3) kc_196_230 rfl rfl ?_
                  refine xi_iadd (pc' := 232) (v := 3) kc_196_231 rfl rfl ?_
                  refine xi_ialoadO (pc' := 233) (v := a3) kc_196_232 rfl (by decide) hov0 (xi_in (n := 6) (by decide) (by decide)) rfl ?_
                  refine xi_virtual (mj := 10) (as := [.int 3, .int 2, .int a3]) (st1 := [.int 10]) (lv0 := [(0, .ref 115), (1, .int 3), (2, .int 2), (3, .int a3)]) kc_196_233 rfl rfl rfl rfl rfl ((eh2.2.1 115 (by decide)).trans ((eh1.2.1 115 (by decide)).trans (F 115 _ hl_115))) (Nat.le_of_ble_eq_true rfl) (hJ _ _ _ _ (by decide)) (xm_le ml_10 rfl) rfl ?_
                  refine xi_aload_n (pc' := 1) (x := 115) kc_10_0 rfl rfl ?_
                  refine xi_iconst (pc' := 2) (v := 0) kc_10_1 rfl rfl ?_
                  refine xi_putfield (pc' := 5) (fs' := [.int 0, .int 0, .ref 116, .ref 117, .ref 118, .ref 119, .ref 120, .ref 121, .ref 122, .ref 123, .ref 124, .ref 125, .ref 126, .ref 127, .ref 128, .ref 129, .int 4, .ref 130, .int 0, .ref 131, .ref 132, .ref 133, .ref 134, .int 0, .ref 135, .ref 136, .ref 137, .ref 138, .ref 139, .ref 140, .ref 141, .ref 142, .int 0, .int 0, .int 0, .ref 143, .ref 144, .ref 145, .ref 146, .ref 147, .ref 148, .int 0, .ref 149, .ref 150, .ref 151, .int 0, .ref 152, .ref 153, .ref 154, .ref 155, .ref 156, .ref 157, .ref 158, .ref 159, .int 0, .ref 160, .int 0, .ref 161, .ref 162, .ref 163, .ref 164, .int 0, .ref 165, .ref 166]) kc_10_2 rfl rfl rfl ((eh2.2.1 115 (by decide)).trans ((eh1.2.1 115 (by decide)).trans (F 115 _ hl_115))) rfl rfl rfl (Nat.le_of_ble_eq_true rfl) rfl (fun hh3 eh3 => ?_)
                  refine xi_iload_n (pc' := 6) (x := 3) kc_10_5 rfl rfl ?_
                  refine xi_static (mj := 11) (as := [.int 3]) (st1 := []) (lv0 := [(0, .int 3)]) kc_10_6 rfl rfl (Nat.le_of_ble_eq_true rfl) rfl rfl (Nat.le_of_ble_eq_true rfl) (hJ _ _ _ _ (by decide)) (xm_le ml_11 rfl) rfl ?_
                  refine xi_iload_n (pc' := 1) (x := 3) kc_11_0 rfl rfl ?_
                  refine xi_iconst (pc' := 2) (v := 0) kc_11_1 rfl rfl ?_
                  refine xi_iconst (pc' := 3) (v := 5) kc_11_2 rfl rfl ?_
                  refine xi_static (mj := 12) (as := [.int 3, .int 0, .int 5]) (st1 := []) (lv0 := [(0, .int 3), (1, .int 0), (2, .int 5)]) kc_11_3 rfl rfl (Nat.le_of_ble_eq_true rfl) rfl rfl (Nat.le_of_ble_eq_true rfl) (hJ _ _ _ _ (by decide)) (xm_le ml_12 rfl) rfl ?_
                  refine xi_iload_n (pc' := 1) (x := 3) kc_12_0 rfl rfl ?_
                  refine xi_iload_n (pc' := 2) (x := 0) kc_12_1 rfl rfl ?_
                  refine xi_cmf (pc' := 5) kc_12_2 rfl rfl ?_
                  refine xi_iload_n (pc' := 6) (x := 3) kc_12_5 rfl rfl ?_
                  refine xi_iload_n (pc' := 7) (x := 5) kc_12_6 rfl rfl ?_
                  refine xi_cmf (pc' := 10) kc_12_7 rfl rfl ?_
                  refine xi_iconst (pc' := 11) (v := 1) kc_12_10 rfl rfl ?_
                  refine xi_goto (pc' := 15) kc_12_11 rfl ?_
                  refine xi_ireturn kc_12_15 mr_12 rfl ?_
                  show xw J ov 98 11 (6, [(0, .int 3)], [.int 1], hh3) _
                  refine xi_ireturn kc_11_6 mr_11 rfl ?_
                  show xw J ov 99 10 (9, [(0, .ref 115), (1, .int 3), (2, .int 2), (3, .int a3)], [.int 1], hh3) _
                  refine xi_ift (pc' := 18) kc_10_9 rfl rfl ?_
                  refine xi_iload_n (pc' := 19) (x := 2) kc_10_18 rfl rfl ?_
                  refine xi_iconst (pc' := 20) (v := 0) kc_10_19 rfl rfl ?_
                  refine xi_iconst (pc' := 21) (v := 5) kc_10_20 rfl rfl ?_
                  refine xi_static (mj := 12) (as := [.int 2, .int 0, .int 5]) (st1 := []) (lv0 := [(0, .int 2), (1, .int 0), (2, .int 5)]) kc_10_21 rfl rfl (Nat.le_of_ble_eq_true rfl) rfl rfl (Nat.le_of_ble_eq_true rfl) (hJ _ _ _ _ (by decide)) (xm_le ml_12 rfl) rfl ?_
                  refine xi_iload_n (pc' := 1) (x := 2) kc_12_0 rfl rfl ?_
                  refine xi_iload_n (pc' := 2) (x := 0) kc_12_1 rfl rfl ?_
                  refine xi_cmf (pc' := 5) kc_12_2 rfl rfl ?_
                  refine xi_iload_n (pc' := 6) (x := 2) kc_12_5 rfl rfl ?_
                  refine xi_iload_n (pc' := 7) (x := 5) kc_12_6 rfl rfl ?_
                  refine xi_cmf (pc' := 10) kc_12_7 rfl rfl ?_
                  refine xi_iconst (pc' := 11) (v := 1) kc_12_10 rfl rfl ?_
                  refine xi_goto (pc' := 15) kc_12_11 rfl ?_
                  refine xi_ireturn kc_12_15 mr_12 rfl ?_
                  show xw J ov 99 10 (24, [(0, .ref 115), (1, .int 3), (2, .int 2), (3, .int a3)], [.int 1], hh3) _
                  refine xi_ift (pc' := 34) kc_10_24 rfl rfl ?_
                  refine xi_iload_n (pc' := 35) (x := a3) kc_10_34 rfl rfl ?_
                  refine xi_iload_n (pc' := 36) (x := 2) kc_10_35 rfl rfl ?_
                  refine xi_ift (pc' := 44) kc_10_36 rfl rfl ?_
                  refine xi_iconst (pc' := 45) (v := 0) kc_10_44 rfl rfl ?_
                  refine xi_cmt (pc' := 55) kc_10_45 rfl (xc_ge_t (X := a3.toInt) (Y := 0) rfl (by decide) (by omega)) ?_
                  refine xi_iload_n (pc' := 56) (x := a3) kc_10_55 rfl rfl ?_
                  refine xi_iload_n (pc' := 57) (x := 2) kc_10_56 rfl rfl ?_
                  refine xi_ift (pc' := 65) kc_10_57 rfl rfl ?_
                  refine xi_iload_n (pc' := 66) (x := 2) kc_10_65 rfl rfl ?_
                  refine xi_iconst (pc' := 67) (v := 1) kc_10_66 rfl rfl ?_
                  refine xi_cmt (pc' := 75) kc_10_67 rfl rfl ?_
                  refine xi_iload_n (pc' := 76) (x := 2) kc_10_75 rfl rfl ?_
                  refine xi_iconst (pc' := 77) (v := 4) kc_10_76 rfl rfl ?_
                  refine xi_cmf (pc' := 80) kc_10_77 rfl rfl ?_
                  refine xi_bipush (pc' := 82) (v := 50) kc_10_80 rfl rfl ?_
                  refine xi_goto (pc' := 96) kc_10_82 rfl ?_
                  refine xi_cmt (pc' := 106) kc_10_96 rfl (xc_le_t (X := a3.toInt) (Y := 50) rfl (by decide) (by omega)) ?_
                  refine xi_aload_n (pc' := 107) (x := 115) kc_10_106 rfl rfl ?_
                  refine xi_iload_n (pc' := 108) (x := 3) kc_10_107 rfl rfl ?_
                  refine xi_iload_n (pc' := 109) (x := 2) kc_10_108 rfl rfl ?_
                  refine xi_virtual (mj := 14) (as := [.int 3, .int 2]) (st1 := []) (lv0 := [(0, .ref 115), (1, .int 3), (2, .int 2)]) kc_10_109 rfl rfl rfl rfl rfl eh3.1 (Nat.le_of_ble_eq_true rfl) (hJ _ _ _ _ (by decide)) (xm_le ml_14 rfl) rfl ?_
                  refine xi_iload_n (pc' := 1) (x := 2) kc_14_0 rfl rfl ?_
                  refine xi_tsi (pc' := 50) (z := 2) kc_14_1 (rfl) rfl (by decide) ?_
                  refine xi_aload_n (pc' := 51) (x := 115) kc_14_50 rfl rfl ?_
                  refine xi_getfield (pc' := 54) (v := .ref 118) kc_14_51 rfl rfl rfl eh3.1 rfl ?_
                  refine xi_iload_n (pc' := 55) (x := 3) kc_14_54 rfl rfl ?_
                  refine xi_iaload (pc' := 56) (v := 10) kc_14_55 rfl ((eh3.2.1 118 (by decide)).trans ((eh2.2.1 118 (by decide)).trans ((eh1.2.1 118 (by decide)).trans (F 118 _ hl_118)))) (by decide) rfl (xi_in (n := 6) (by decide) (by decide)) rfl ?_
                  refine xi_ireturn kc_14_56 mr_14 rfl ?_
                  show xw J ov 99 10 (112, [(0, .ref 115), (1, .int 3), (2, .int 2), (3, .int a3)], [.int 10], hh3) _
                  refine xi_istore (pc' := 114) (lv' := [(4, .int 10), (0, .ref 115), (1, .int 3), (2, .int 2), (3, .int a3)]) kc_10_112 rfl rfl (xm_lt ml_10 rfl) ?_
                  refine xi_aload_n (pc' := 115) (x := 115) kc_10_114 rfl rfl ?_
                  refine xi_iload_n (pc' := 116) (x := 3) kc_10_115 rfl rfl ?_
                  refine xi_iload_n (pc' := 117) (x := 2) kc_10_116 rfl rfl ?_
                  refine xi_iload_n (pc' := 118) (x := a3) kc_10_117 rfl rfl ?_
                  refine xi_virtual (mj := 15) (as := [.int 3, .int 2, .int a3]) (st1 := []) (lv0 := [(0, .ref 115), (1, .int 3), (2, .int 2), (3, .int a3)]) kc_10_118 rfl rfl rfl rfl rfl eh3.1 (Nat.le_of_ble_eq_true rfl) (hJ _ _ _ _ (by decide)) (xm_le ml_15 rfl) rfl ?_
                  refine xi_aload_n (pc' := 1) (x := 115) kc_15_0 rfl rfl ?_
                  refine xi_getfield (pc' := 4) (v := .ref 116) kc_15_1 rfl rfl rfl eh3.1 rfl ?_
                  refine xi_iload_n (pc' := 5) (x := 3) kc_15_4 rfl rfl ?_
                  refine xi_iload_n (pc' := 6) (x := 2) kc_15_5 rfl rfl ?_
                  refine xi_ift (pc' := 13) kc_15_6 rfl rfl ?_
                  refine xi_aload_n (pc' := 14) (x := 115) kc_15_13 rfl rfl ?_
                  refine xi_getfield (pc' := 17) (v := .ref 116) kc_15_14 rfl rfl rfl eh3.1 rfl ?_
                  refine xi_iload_n (pc' := 18) (x := 3) kc_15_17 rfl rfl ?_
                  refine xi_iaload (pc' := 19) (v := 40) kc_15_18 rfl ((eh3.2.1 116 (by decide)).trans ((eh2.2.1 116 (by decide)).trans ((eh1.2.1 116 (by decide)).trans (F 116 _ hl_116)))) (by decide) rfl (xi_in (n := 6) (by decide) (by decide)) rfl ?_
                  refine xi_iastore (pc' := 20) (x' := [40, 40, 40, 40, 40, 40]) kc_15_19 rfl ((eh3.2.1 116 (by decide)).trans ((eh2.2.1 116 (by decide)).trans ((eh1.2.1 116 (by decide)).trans (F 116 _ hl_116)))) rfl (xi_in (n := 6) (by decide) (by decide)) rfl (fun hh4 eh4 => ?_)
                  refine xi_aload_n (pc' := 21) (x := 115) kc_15_20 rfl rfl ?_
                  refine xi_getfield (pc' := 24) (v := .ref 117) kc_15_21 rfl rfl rfl ((eh4.2.1 115 (by decide)).trans eh3.1) rfl ?_
                  refine xi_iload_n (pc' := 25) (x := 3) kc_15_24 rfl rfl ?_
                  refine xi_iload_n (pc' := 26) (x := 2) kc_15_25 rfl rfl ?_
                  refine xi_iconst (pc' := 27) (v := 1) kc_15_26 rfl rfl ?_
                  refine xi_cmt (pc' := 34) kc_15_27 rfl rfl ?_
                  refine xi_aload_n (pc' := 35) (x := 115) kc_15_34 rfl rfl ?_
                  refine xi_getfield (pc' := 38) (v := .ref 117) kc_15_35 rfl rfl rfl ((eh4.2.1 115 (by decide)).trans eh3.1) rfl ?_
                  refine xi_iload_n (pc' := 39) (x := 3) kc_15_38 rfl rfl ?_
                  refine xi_iaload (pc' := 40) (v := 18) kc_15_39 rfl ((eh4.2.1 117 (by decide)).trans ((eh3.2.1 117 (by decide)).trans ((eh2.2.1 117 (by decide)).trans ((eh1.2.1 117 (by decide)).trans (F 117 _ hl_117))))) (by decide) rfl (xi_in (n := 6) (by decide) (by decide)) rfl ?_
                  refine xi_iastore (pc' := 41) (x' := [18, 18, 18, 18, 18, 18]) kc_15_40 rfl ((eh4.2.1 117 (by decide)).trans ((eh3.2.1 117 (by decide)).trans ((eh2.2.1 117 (by decide)).trans ((eh1.2.1 117 (by decide)).trans (F 117 _ hl_117))))) rfl (xi_in (n := 6) (by decide) (by decide)) rfl (fun hh5 eh5 => ?_)
                  refine xi_aload_n (pc' := 42) (x := 115) kc_15_41 rfl rfl ?_
                  refine xi_getfield (pc' := 45) (v := .ref 118) kc_15_42 rfl rfl rfl ((eh5.2.1 115 (by decide)).trans ((eh4.2.1 115 (by decide)).trans eh3.1)) rfl ?_
                  refine xi_iload_n (pc' := 46) (x := 3) kc_15_45 rfl rfl ?_
                  refine xi_iload_n (pc' := 47) (x := 2) kc_15_46 rfl rfl ?_
                  refine xi_iconst (pc' := 48) (v := 2) kc_15_47 rfl rfl ?_
                  refine xi_cmf (pc' := 51) kc_15_48 rfl rfl ?_
                  refine xi_iload_n (pc' := 52) (x := a3) kc_15_51 rfl rfl ?_
                  refine xi_goto (pc' := 61) kc_15_52 rfl ?_
                  refine xi_iastore (pc' := 62) (x' := [10, 10, 10, a3, 10, 10]) kc_15_61 rfl ((eh5.2.1 118 (by decide)).trans ((eh4.2.1 118 (by decide)).trans ((eh3.2.1 118 (by decide)).trans ((eh2.2.1 118 (by decide)).trans ((eh1.2.1 118 (by decide)).trans (F 118 _ hl_118)))))) rfl (xi_in (n := 6) (by decide) (by decide)) rfl (fun hh6 eh6 => ?_)
                  refine xi_aload_n (pc' := 63) (x := 115) kc_15_62 rfl rfl ?_
                  refine xi_getfield (pc' := 66) (v := .ref 119) kc_15_63 rfl rfl rfl ((eh6.2.1 115 (by decide)).trans ((eh5.2.1 115 (by decide)).trans ((eh4.2.1 115 (by decide)).trans eh3.1))) rfl ?_
                  refine xi_iload_n (pc' := 67) (x := 3) kc_15_66 rfl rfl ?_
                  refine xi_iload_n (pc' := 68) (x := 2) kc_15_67 rfl rfl ?_
                  refine xi_iconst (pc' := 69) (v := 3) kc_15_68 rfl rfl ?_
                  refine xi_cmt (pc' := 76) kc_15_69 rfl rfl ?_
                  refine xi_aload_n (pc' := 77) (x := 115) kc_15_76 rfl rfl ?_
                  refine xi_getfield (pc' := 80) (v := .ref 119) kc_15_77 rfl rfl rfl ((eh6.2.1 115 (by decide)).trans ((eh5.2.1 115 (by decide)).trans ((eh4.2.1 115 (by decide)).trans eh3.1))) rfl ?_
                  refine xi_iload_n (pc' := 81) (x := 3) kc_15_80 rfl rfl ?_
                  refine xi_iaload (pc' := 82) (v := 0) kc_15_81 rfl ((eh6.2.1 119 (by decide)).trans ((eh5.2.1 119 (by decide)).trans ((eh4.2.1 119 (by decide)).trans ((eh3.2.1 119 (by decide)).trans ((eh2.2.1 119 (by decide)).trans ((eh1.2.1 119 (by decide)).trans (F 119 _ hl_119))))))) (by decide) rfl (xi_in (n := 6) (by decide) (by decide)) rfl ?_
                  refine xi_iastore (pc' := 83) (x' := [0, 0, 0, 0, 0, 0]) kc_15_82 rfl ((eh6.2.1 119 (by decide)).trans ((eh5.2.1 119 (by decide)).trans ((eh4.2.1 119 (by decide)).trans ((eh3.2.1 119 (by decide)).trans ((eh2.2.1 119 (by decide)).trans ((eh1.2.1 119 (by decide)).trans (F 119 _ hl_119))))))) rfl (xi_in (n := 6) (by decide) (by decide)) rfl (fun hh7 eh7 => ?_)
                  refine xi_aload_n (pc' := 84) (x := 115) kc_15_83 rfl rfl ?_
                  refine xi_getfield (pc' := 87) (v := .ref 120) kc_15_84 rfl rfl rfl ((eh7.2.1 115 (by decide)).trans ((eh6.2.1 115 (by decide)).trans ((eh5.2.1 115 (by decide)).trans ((eh4.2.1 115 (by decide)).trans eh3.1)))) rfl ?_
                  refine xi_iload_n (pc' := 88) (x := 3) kc_15_87 rfl rfl ?_
                  refine xi_iload_n (pc' := 89) (x := 2) kc_15_88 rfl rfl ?_
                  refine xi_iconst (pc' := 90) (v := 4) kc_15_89 rfl rfl ?_
                  refine xi_cmt (pc' := 97) kc_15_90 rfl rfl ?_
                  refine xi_aload_n (pc' := 98) (x := 115) kc_15_97 rfl rfl ?_
                  refine xi_getfield (pc' := 101) (v := .ref 120) kc_15_98 rfl rfl rfl ((eh7.2.1 115 (by decide)).trans ((eh6.2.1 115 (by decide)).trans ((eh5.2.1 115 (by decide)).trans ((eh4.2.1 115 (by decide)).trans eh3.1)))) rfl ?_
                  refine xi_iload_n (pc' := 102) (x := 3) kc_15_101 rfl rfl ?_
                  refine xi_iaload (pc' := 103) (v := 0) kc_15_102 rfl ((eh7.2.1 120 (by decide)).trans ((eh6.2.1 120 (by decide)).trans ((eh5.2.1 120 (by decide)).trans ((eh4.2.1 120 (by decide)).trans ((eh3.2.1 120 (by decide)).trans ((eh2.2.1 120 (by decide)).trans ((eh1.2.1 120 (by decide)).trans (F 120 _ hl_120)))))))) (by decide) rfl (xi_in (n := 6) (by decide) (by decide)) rfl ?_
                  refine xi_iastore (pc' := 104) (x' := [0, 0, 0, 0, 0, 0]) kc_15_103 rfl ((eh7.2.1 120 (by decide)).trans ((eh6.2.1 120 (by decide)).trans ((eh5.2.1 120 (by decide)).trans ((eh4.2.1 120 (by decide)).trans ((eh3.2.1 120 (by decide)).trans ((eh2.2.1 120 (by decide)).trans ((eh1.2.1 120 (by decide)).trans (F 120 _ hl_120)))))))) rfl (xi_in (n := 6) (by decide) (by decide)) rfl (fun hh8 eh8 => ?_)
                  refine xi_aload_n (pc' := 105) (x := 115) kc_15_104 rfl rfl ?_
                  refine xi_getfield (pc' := 108) (v := .ref 121) kc_15_105 rfl rfl rfl ((eh8.2.1 115 (by decide)).trans ((eh7.2.1 115 (by decide)).trans ((eh6.2.1 115 (by decide)).trans ((eh5.2.1 115 (by decide)).trans ((eh4.2.1 115 (by decide)).trans eh3.1))))) rfl ?_
                  refine xi_iload_n (pc' := 109) (x := 3) kc_15_108 rfl rfl ?_
                  refine xi_iload_n (pc' := 110) (x := 2) kc_15_109 rfl rfl ?_
                  refine xi_iconst (pc' := 111) (v := 5) kc_15_110 rfl rfl ?_
                  refine xi_cmt (pc' := 118) kc_15_111 rfl rfl ?_
                  refine xi_aload_n (pc' := 119) (x := 115) kc_15_118 rfl rfl ?_
                  refine xi_getfield (pc' := 122) (v := .ref 121) kc_15_119 rfl rfl rfl ((eh8.2.1 115 (by decide)).trans ((eh7.2.1 115 (by decide)).trans ((eh6.2.1 115 (by decide)).trans ((eh5.2.1 115 (by decide)).trans ((eh4.2.1 115 (by decide)).trans eh3.1))))) rfl ?_
                  refine xi_iload_n (pc' := 123) (x := 3) kc_15_122 rfl rfl ?_
                  refine xi_iaload (pc' := 124) (v := 0) kc_15_123 rfl ((eh8.2.1 121 (by decide)).trans ((eh7.2.1 121 (by decide)).trans ((eh6.2.1 121 (by decide)).trans ((eh5.2.1 121 (by decide)).trans ((eh4.2.1 121 (by decide)).trans ((eh3.2.1 121 (by decide)).trans ((eh2.2.1 121 (by decide)).trans ((eh1.2.1 121 (by decide)).trans (F 121 _ hl_121))))))))) (by decide) rfl (xi_in (n := 6) (by decide) (by decide)) rfl ?_
                  refine xi_iastore (pc' := 125) (x' := [0, 0, 0, 0, 0, 0]) kc_15_124 rfl ((eh8.2.1 121 (by decide)).trans ((eh7.2.1 121 (by decide)).trans ((eh6.2.1 121 (by decide)).trans ((eh5.2.1 121 (by decide)).trans ((eh4.2.1 121 (by decide)).trans ((eh3.2.1 121 (by decide)).trans ((eh2.2.1 121 (by decide)).trans ((eh1.2.1 121 (by decide)).trans (F 121 _ hl_121))))))))) rfl (xi_in (n := 6) (by decide) (by decide)) rfl (fun hh9 eh9 => ?_)
                  refine xi_aload_n (pc' := 126) (x := 115) kc_15_125 rfl rfl ?_
                  refine xi_iconst (pc' := 127) (v := 0) kc_15_126 rfl rfl ?_
                  refine xi_putfield (pc' := 130) (fs' := [.int 0, .int 0, .ref 116, .ref 117, .ref 118, .ref 119, .ref 120, .ref 121, .ref 122, .ref 123, .ref 124, .ref 125, .ref 126, .ref 127, .ref 128, .ref 129, .int 4, .ref 130, .int 0, .ref 131, .ref 132, .ref 133, .ref 134, .int 0, .ref 135, .ref 136, .ref 137, .ref 138, .ref 139, .ref 140, .ref 141, .ref 142, .int 0, .int 0, .int 0, .ref 143, .ref 144, .ref 145, .ref 146, .ref 147, .ref 148, .int 0, .ref 149, .ref 150, .ref 151, .int 0, .ref 152, .ref 153, .ref 154, .ref 155, .ref 156, .ref 157, .ref 158, .ref 159, .int 0, .ref 160, .int 0, .ref 161, .ref 162, .ref 163, .ref 164, .int 0, .ref 165, .ref 166]) kc_15_127 rfl rfl rfl ((eh9.2.1 115 (by decide)).trans ((eh8.2.1 115 (by decide)).trans ((eh7.2.1 115 (by decide)).trans ((eh6.2.1 115 (by decide)).trans ((eh5.2.1 115 (by decide)).trans ((eh4.2.1 115 (by decide)).trans eh3.1)))))) rfl rfl rfl (Nat.le_of_ble_eq_true rfl) rfl (fun hh10 eh10 => ?_)
                  refine xi_return kc_15_130 mr_15 ?_
                  show xw J ov 99 10 (121, [(4, .int 10), (0, .ref 115), (1, .int 3), (2, .int 2), (3, .int a3)], [], hh10) _
                  refine xi_iload (pc' := 123) (x := 10) kc_10_121 rfl rfl ?_
                  refine xi_ireturn kc_10_123 mr_10 rfl ?_
                  show xw J ov 100 196 (236, [(4, .int 0), (3, .ref 167), (2, .ref 115), (1, .ref 0), (0, .ref 1000000)], [.int 10, .int 10], hh10) _
                  refine xi_cmt (pc' := 1528) kc_196_236 rfl rfl ?_
                  refine xi_iinc (pc' := 1531) (x := 0) (v := 6) (lv' := [(4, .int 6), (3, .ref 167), (2, .ref 115), (1, .ref 0), (0, .ref 1000000)]) kc_196_1528 rfl rfl rfl rfl (xm_lt ml_196 rfl) ?_
                  refine xi_goto (pc' := 23) kc_196_1531 rfl ?_
                  refine xi_iload (pc' := 25) (x := 6) kc_196_23 rfl rfl ?_
                  refine xi_aload_n (pc' := 26) (x := 1000000) kc_196_25 rfl rfl ?_
                  refine xi_arraylength (pc' := 27) (n := 6) (v := 6) kc_196_26 rfl (xl_lenO (by decide) hov0 rfl) rfl ?_
                  refine xi_bipush (pc' := 29) (v := 6) kc_196_27 rfl rfl ?_
                  refine xi_isub (pc' := 30) (v := 0) kc_196_29 rfl rfl ?_
                  refine xi_cmt (pc' := 1534) kc_196_30 rfl rfl ?_
                  refine xi_iconst (pc' := 1535) (v := 1) kc_196_1534 rfl rfl ?_
                  refine xi_ireturn kc_196_1535 mr_196 rfl ?_
                  refine ⟨rfl, ?_, ?_⟩
                  · rw [eh10.2.2.1, eh9.2.2.1, eh8.2.2.1, eh7.2.2.1, eh6.2.2.1, eh5.2.2.1, eh4.2.2.1, eh3.2.2.1, eh2.2.2.1, eh1.2.2.1]; exact hn0
                  · rw [eh10.2.2.2, eh9.2.2.2, eh8.2.2.2, eh7.2.2.2, eh6.2.2.2, eh5.2.2.2, eh4.2.2.2, eh3.2.2.2, eh2.2.2.2, eh1.2.2.2]; exact hz0
                by_cases c28 : a1.toInt = 4
                · have qa1 : a1 = 4 := xc_of (Eq.trans (by omega) (show (4 : Int) = (4 : Int32).toInt by decide))
                  subst qa1
                  refine xi_aaload (pc' := 13) (b := 23) kc_93_12 rfl ((eh1.2.1 2 (by decide)).trans (F 2 _ hl_2)) rfl (xi_in (n := 6) (by decide) (by decide)) rfl ?_
                  refine xi_iload_n (pc' := 14) (x := 2) kc_93_13 rfl rfl ?_
                  refine xi_iload_n (pc' := 15) (x := a3) kc_93_14 rfl rfl ?_
                  refine xi_virtual (mj := 94) (as := [.int 2, .int a3]) (st1 := []) (lv0 := [(0, .ref 23), (1, .int 2), (2, .int a3)]) kc_93_15 rfl rfl rfl rfl rfl ((eh1.2.1 23 (by decide)).trans (F 23 _ hl_23)) (Nat.le_of_ble_eq_true rfl) (hJ _ _ _ _ (by decide)) (xm_le ml_94 rfl) rfl ?_
                  refine xi_iload_n (pc' := 1) (x := 2) kc_94_0 rfl rfl ?_
                  refine xi_iff (pc' := 4) kc_94_1 rfl rfl ?_
                  refine xi_iload_n (pc' := 5) (x := 2) kc_94_4 rfl rfl ?_
                  refine xi_iconst (pc' := 6) (v := 5) kc_94_5 rfl rfl ?_
                  refine xi_cmt (pc' := 11) kc_94_6 rfl rfl ?_
                  refine xi_aload_n (pc' := 12) (x := 23) kc_94_11 rfl rfl ?_
                  refine xi_getfield (pc' := 15) (v := .ref 24) kc_94_12 rfl rfl rfl ((eh1.2.1 23 (by decide)).trans (F 23 _ hl_23)) rfl ?_
                  refine xi_iload_n (pc' := 16) (x := 2) kc_94_15 rfl rfl ?_
                  refine xi_iaload (pc' := 17) (v := 10) kc_94_16 rfl ((eh1.2.1 24 (by decide)).trans (F 24 _ hl_24)) (by decide) rfl (xi_in (n := 5) (by decide) (by decide)) rfl ?_
                  refine xi_istore_n (pc' := 18) (lv' := [(3, .int 10), (0, .ref 23), (1, .int 2), (2, .int a3)]) kc_94_17 rfl rfl (xm_lt ml_94 rfl) ?_
                  refine xi_aload_n (pc' := 19) (x := 23) kc_94_18 rfl rfl ?_
                  refine xi_getfield (pc' := 22) (v := .ref 24) kc_94_19 rfl rfl rfl ((eh1.2.1 23 (by decide)).trans (F 23 _ hl_23)) rfl ?_
                  refine xi_iload_n (pc' := 23) (x := 2) kc_94_22 rfl rfl ?_
                  refine xi_iload_n (pc' := 24) (x := a3) kc_94_23 rfl rfl ?_
                  refine xi_iastore (pc' := 25) (x' := [40, 18, a3, 0, 0]) kc_94_24 rfl ((eh1.2.1 24 (by decide)).trans (F 24 _ hl_24)) rfl (xi_in (n := 5) (by decide) (by decide)) rfl (fun hh2 eh2 => ?_)
                  refine xi_iload_n (pc' := 26) (x := 10) kc_94_25 rfl rfl ?_
                  refine xi_ireturn kc_94_26 mr_94 rfl ?_
                  show xw J ov 98 93 (18, [(0, .ref 1), (1, .int 4), (2, .int 2), (3, .int a3)], [.int 10], hh2) _
                  refine xi_goto (pc' := 22) kc_93_18 rfl ?_
                  refine xi_ireturn kc_93_22 mr_93 rfl ?_
                  show xw J ov 99 89 (107, [(0, .ref 0), (1, .int 4), (2, .int 2), (3, .int a3)], [.int 10], hh2) _
                  refine xi_ireturn kc_89_107 mr_89 rfl ?_
                  show xw J ov 100 196 (214, [(4, .int 0), (3, .ref 167), (2, .ref 115), (1, .ref 0), (0, .ref 1000000)], [.int 10], hh2) _
                  refine xi_aload_n (pc' := 215) (x := 115) kc_196_214 rfl rfl ?_
                  refine xi_aload_n (pc' := 216) (x := 1000000) kc_196_215 rfl rfl ?_
                  refine xi_iload (pc' := 218) (x := 0) kc_196_216 rfl rfl ?_
                  refine xi_iconst (pc' := 219) (v := 1) kc_196_218 rfl rfl ?_
                  refine xi_iadd (pc' := 220) (v := 1) kc_196_219 rfl rfl ?_
                  refine xi_ialoadO (pc' := 221) (v := 4) kc_196_220 rfl (by decide) hov0 (xi_in (n := 6) (by decide) (by decide)) rfl ?_
                  refine xi_aload_n (pc' := 222) (x := 1000000) kc_196_221 rfl rfl ?_
                  refine xi_iload (pc' := 224) (x := 0) kc_196_222 rfl rfl ?_
                  refine xi_iconst (pc' := 225) (v := 2) kc_196_224 rfl rfl ?_
                  refine xi_iadd (pc' := 226) (v := 2) kc_196_225 rfl rfl ?_
                  refine xi_ialoadO (pc' := 227) (v := 2) kc_196_226 rfl (by decide) hov0 (xi_in (n := 6) (by decide) (by decide)) rfl ?_
                  refine xi_aload_n (pc' := 228) (x := 1000000) kc_196_227 rfl rfl ?_
                  refine xi_iload (pc' := 230) (x := 0) kc_196_228 rfl rfl ?_
                  refine xi_iconst (pc' := 231) (v := 3) kc_196_230 rfl rfl ?_
                  refine xi_iadd (pc' := 232) (v := 3) kc_196_231 rfl rfl ?_
                  refine xi_ialoadO (pc' := 233) (v := a3) kc_196_232 rfl (by decide) hov0 (xi_in (n := 6) (by decide) (by decide)) rfl ?_
                  refine xi_virtual (mj := 10) (as := [.int 4, .int 2, .int a3]) (st1 := [.int 10]) (lv0 := [(0, .ref 115), (1, .int 4), (2, .int 2), (3, .int a3)]) kc_196_233 rfl rfl rfl rfl rfl ((eh2.2.1 115 (by decide)).trans ((eh1.2.1 115 (by decide)).trans (F 115 _ hl_115))) (Nat.le_of_ble_eq_true rfl) (hJ _ _ _ _ (by decide)) (xm_le ml_10 rfl) rfl ?_
                  refine xi_aload_n (pc' := 1) (x := 115) kc_10_0 rfl rfl ?_
                  refine xi_iconst (pc' := 2) (v := 0) kc_10_1 rfl rfl ?_
                  refine xi_putfield (pc' := 5) (fs' := [.int 0, .int 0, .ref 116, .ref 117, .ref 118, .ref 119, .ref 120, .ref 121, .ref 122, .ref 123, .ref 124, .ref 125, .ref 126, .ref 127, .ref 128, .ref 129, .int 4, .ref 130, .int 0, .ref 131, .ref 132, .ref 133, .ref 134, .int 0, .ref 135, .ref 136, .ref 137, .ref 138, .ref 139, .ref 140, .ref 141, .ref 142, .int 0, .int 0, .int 0, .ref 143, .ref 144, .ref 145, .ref 146, .ref 147, .ref 148, .int 0, .ref 149, .ref 150, .ref 151, .int 0, .ref 152, .ref 153, .ref 154, .ref 155, .ref 156, .ref 157, .ref 158, .ref 159, .int 0, .ref 160, .int 0, .ref 161, .ref 162, .ref 163, .ref 164, .int 0, .ref 165, .ref 166]) kc_10_2 rfl rfl rfl ((eh2.2.1 115 (by decide)).trans ((eh1.2.1 115 (by decide)).trans (F 115 _ hl_115))) rfl rfl rfl (Nat.le_of_ble_eq_true rfl) rfl (fun hh3 eh3 => ?_)
                  refine xi_iload_n (pc' := 6) (x := 4) kc_10_5 rfl rfl ?_
                  refine xi_static (mj := 11) (as := [.int 4]) (st1 := []) (lv0 := [(0, .int 4)]) kc_10_6 rfl rfl (Nat.le_of_ble_eq_true rfl) rfl rfl (Nat.le_of_ble_eq_true rfl) (hJ _ _ _ _ (by decide)) (xm_le ml_11 rfl) rfl ?_
                  refine xi_iload_n (pc' := 1) (x := 4) kc_11_0 rfl rfl ?_
                  refine xi_iconst (pc' := 2) (v := 0) kc_11_1 rfl rfl ?_
                  refine xi_iconst (pc' := 3) (v := 5) kc_11_2 rfl rfl ?_
                  refine xi_static (mj := 12) (as := [.int 4, .int 0, .int 5]) (st1 := []) (lv0 := [(0, .int 4), (1, .int 0), (2, .int 5)]) kc_11_3 rfl rfl (Nat.le_of_ble_eq_true rfl) rfl rfl (Nat.le_of_ble_eq_true rfl) (hJ _ _ _ _ (by decide)) (xm_le ml_12 rfl) rfl ?_
                  refine xi_iload_n (pc' := 1) (x := 4) kc_12_0 rfl rfl ?_
                  refine xi_iload_n (pc' := 2) (x := 0) kc_12_1 rfl rfl ?_
                  refine xi_cmf (pc' := 5) kc_12_2 rfl rfl ?_
                  refine xi_iload_n (pc' := 6) (x := 4) kc_12_5 rfl rfl ?_
                  refine xi_iload_n (pc' := 7) (x := 5) kc_12_6 rfl rfl ?_
                  refine xi_cmf (pc' := 10) kc_12_7 rfl rfl ?_
                  refine xi_iconst (pc' := 11) (v := 1) kc_12_10 rfl rfl ?_
                  refine xi_goto (pc' := 15) kc_12_11 rfl ?_
                  refine xi_ireturn kc_12_15 mr_12 rfl ?_
                  show xw J ov 98 11 (6, [(0, .int 4)], [.int 1], hh3) _
                  refine xi_ireturn kc_11_6 mr_11 rfl ?_
                  show xw J ov 99 10 (9, [(0, .ref 115), (1, .int 4), (2, .int 2), (3, .int a3)], [.int 1], hh3) _
                  refine xi_ift (pc' := 18) kc_10_9 rfl rfl ?_
                  refine xi_iload_n (pc' := 19) (x := 2) kc_10_18 rfl rfl ?_
                  refine xi_iconst (pc' := 20) (v := 0) kc_10_19 rfl rfl ?_
                  refine xi_iconst (pc' := 21) (v := 5) kc_10_20 rfl rfl ?_
                  refine xi_static (mj := 12) (as := [.int 2, .int 0, .int 5]) (st1 := []) (lv0 := [(0, .int 2), (1, .int 0), (2, .int 5)]) kc_10_21 rfl rfl (Nat.le_of_ble_eq_true rfl) rfl rfl (Nat.le_of_ble_eq_true rfl) (hJ _ _ _ _ (by decide)) (xm_le ml_12 rfl) rfl ?_
                  refine xi_iload_n (pc' := 1) (x := 2) kc_12_0 rfl rfl ?_
                  refine xi_iload_n (pc' := 2) (x := 0) kc_12_1 rfl rfl ?_
                  refine xi_cmf (pc' := 5) kc_12_2 rfl rfl ?_
                  refine xi_iload_n (pc' := 6) (x := 2) kc_12_5 rfl rfl ?_
                  refine xi_iload_n (pc' := 7) (x := 5) kc_12_6 rfl rfl ?_
                  refine xi_cmf (pc' := 10) kc_12_7 rfl rfl ?_
                  refine xi_iconst (pc' := 11) (v := 1) kc_12_10 rfl rfl ?_
                  refine xi_goto (pc' := 15) kc_12_11 rfl ?_
                  refine xi_ireturn kc_12_15 mr_12 rfl ?_
                  show xw J ov 99 10 (24, [(0, .ref 115), (1, .int 4), (2, .int 2), (3, .int a3)], [.int 1], hh3) _
                  refine xi_ift (pc' := 34) kc_10_24 rfl rfl ?_
                  refine xi_iload_n (pc' := 35) (x := a3) kc_10_34 rfl rfl ?_
                  refine xi_iload_n (pc' := 36) (x := 2) kc_10_35 rfl rfl ?_
                  refine xi_ift (pc' := 44) kc_10_36 rfl rfl ?_
                  refine xi_iconst (pc' := 45) (v := 0) kc_10_44 rfl rfl ?_
                  refine xi_cmt (pc' := 55) kc_10_45 rfl (xc_ge_t (X := a3.toInt) (Y := 0) rfl (by decide) (by omega)) ?_
                  refine xi_iload_n (pc' := 56) (x := a3) kc_10_55 rfl rfl ?_
                  refine xi_iload_n (pc' := 57) (x := 2) kc_10_56 rfl rfl ?_
                  refine xi_ift (pc' := 65) kc_10_57 rfl rfl ?_
                  refine xi_iload_n (pc' := 66) (x := 2) kc_10_65 rfl rfl ?_
                  refine xi_iconst (pc' := 67) (v := 1) kc_10_66 rfl rfl ?_
                  refine xi_cmt (pc' := 75) kc_10_67 rfl rfl ?_
                  refine xi_iload_n (pc' := 76) (x := 2) kc_10_75 rfl rfl ?_
                  refine xi_iconst (pc' := 77) (v := 4) kc_10_76 rfl rfl ?_
                  refine xi_cmf (pc' := 80) kc_10_77 rfl rfl ?_
                  refine xi_bipush (pc' := 82) (v := 50) kc_10_80 rfl rfl ?_
                  refine xi_goto (pc' := 96) kc_10_82 rfl ?_
                  refine xi_cmt (pc' := 106) kc_10_96 rfl (xc_le_t (X := a3.toInt) (Y := 50) rfl (by decide) (by omega)) ?_
                  refine xi_aload_n (pc' := 107) (x := 115) kc_10_106 rfl rfl ?_
                  refine xi_iload_n (pc' := 108) (x := 4) kc_10_107 rfl rfl ?_
                  refine xi_iload_n (pc' := 109) (x := 2) kc_10_108 rfl rfl ?_
                  refine xi_virtual (mj := 14) (as := [.int 4, .int 2]) (st1 := []) (lv0 := [(0, .ref 115), (1, .int 4), (2, .int 2)]) kc_10_109 rfl rfl rfl rfl rfl eh3.1 (Nat.le_of_ble_eq_true rfl) (hJ _ _ _ _ (by decide)) (xm_le ml_14 rfl) rfl ?_
                  refine xi_iload_n (pc' := 1) (x := 2) kc_14_0 rfl rfl ?_
                  refine xi_tsi (pc' := 50) (z := 2) kc_14_1 (rfl) rfl (by decide) ?_
                  refine xi_aload_n (pc' := 51) (x := 115) kc_14_50 rfl rfl ?_
                  refine xi_getfield (pc' := 54) (v := .ref 118) kc_14_51 rfl rfl rfl eh3.1 rfl ?_
                  refine xi_iload_n (pc' := 55) (x := 4) kc_14_54 rfl rfl ?_
                  refine xi_iaload (pc' := 56) (v := 10) kc_14_55 rfl ((eh3.2.1 118 (by decide)).trans ((eh2.2.1 118 (by decide)).trans ((eh1.2.1 118 (by decide)).trans (F 118 _ hl_118)))) (by decide) rfl (xi_in (n := 6) (by decide) (by decide)) rfl ?_
                  refine xi_ireturn kc_14_56 mr_14 rfl ?_
                  show xw J ov 99 10 (112, [(0, .ref 115), (1, .int 4), (2, .int 2), (3, .int a3)], [.int 10], hh3) _
                  refine xi_istore (pc' := 114) (lv' := [(4, .int 10), (0, .ref 115), (1, .int 4), (2, .int 2), (3, .int a3)]) kc_10_112 rfl rfl (xm_lt ml_10 rfl) ?_
                  refine xi_aload_n (pc' := 115) (x := 115) kc_10_114 rfl rfl ?_
                  refine xi_iload_n (pc' := 116) (x := 4) kc_10_115 rfl rfl ?_
                  refine xi_iload_n (pc' := 117) (x := 2) kc_10_116 rfl rfl ?_
                  refine xi_iload_n (pc' := 118) (x := a3) kc_10_117 rfl rfl ?_
                  refine xi_virtual (mj := 15) (as := [.int 4, .int 2, .int a3]) (st1 := []) (lv0 := [(0, .ref 115), (1, .int 4), (2, .int 2), (3, .int a3)]) kc_10_118 rfl rfl rfl rfl rfl eh3.1 (Nat.le_of_ble_eq_true rfl) (hJ _ _ _ _ (by decide)) (xm_le ml_15 rfl) rfl ?_
                  refine xi_aload_n (pc' := 1) (x := 115) kc_15_0 rfl rfl ?_
                  refine xi_getfield (pc' := 4) (v := .ref 116) kc_15_1 rfl rfl rfl eh3.1 rfl ?_
                  refine xi_iload_n (pc' := 5) (x := 4) kc_15_4 rfl rfl ?_
                  refine xi_iload_n (pc' := 6) (x := 2) kc_15_5 rfl rfl ?_
                  refine xi_ift (pc' := 13) kc_15_6 rfl rfl ?_
                  refine xi_aload_n (pc' := 14) (x := 115) kc_15_13 rfl rfl ?_
                  refine xi_getfield (pc' := 17) (v := .ref 116) kc_15_14 rfl rfl rfl eh3.1 rfl ?_
                  refine xi_iload_n (pc' := 18) (x := 4) kc_15_17 rfl rfl ?_
                  refine xi_iaload (pc' := 19) (v := 40) kc_15_18 rfl ((eh3.2.1 116 (by decide)).trans ((eh2.2.1 116 (by decide)).trans ((eh1.2.1 116 (by decide)).trans (F 116 _ hl_116)))) (by decide) rfl (xi_in (n := 6) (by decide) (by decide)) rfl ?_
                  refine xi_iastore (pc' := 20) (x' := [40, 40, 40, 40, 40, 40]) kc_15_19 rfl ((eh3.2.1 116 (by decide)).trans ((eh2.2.1 116 (by decide)).trans ((eh1.2.1 116 (by decide)).trans (F 116 _ hl_116)))) rfl (xi_in (n := 6) (by decide) (by decide)) rfl (fun hh4 eh4 => ?_)
                  refine xi_aload_n (pc' := 21) (x := 115) kc_15_20 rfl rfl ?_
                  refine xi_getfield (pc' := 24) (v := .ref 117) kc_15_21 rfl rfl rfl ((eh4.2.1 115 (by decide)).trans eh3.1) rfl ?_
                  refine xi_iload_n (pc' := 25) (x := 4) kc_15_24 rfl rfl ?_
                  refine xi_iload_n (pc' := 26) (x := 2) kc_15_25 rfl rfl ?_
                  refine xi_iconst (pc' := 27) (v := 1) kc_15_26 rfl rfl ?_
                  refine xi_cmt (pc' := 34) kc_15_27 rfl rfl ?_
                  refine xi_aload_n (pc' := 35) (x := 115) kc_15_34 rfl rfl ?_
                  refine xi_getfield (pc' := 38) (v := .ref 117) kc_15_35 rfl rfl rfl ((eh4.2.1 115 (by decide)).trans eh3.1) rfl ?_
                  refine xi_iload_n (pc' := 39) (x := 4) kc_15_38 rfl rfl ?_
                  refine xi_iaload (pc' := 40) (v := 18) kc_15_39 rfl ((eh4.2.1 117 (by decide)).trans ((eh3.2.1 117 (by decide)).trans ((eh2.2.1 117 (by decide)).trans ((eh1.2.1 117 (by decide)).trans (F 117 _ hl_117))))) (by decide) rfl (xi_in (n := 6) (by decide) (by decide)) rfl ?_
                  refine xi_iastore (pc' := 41) (x' := [18, 18, 18, 18, 18, 18]) kc_15_40 rfl ((eh4.2.1 117 (by decide)).trans ((eh3.2.1 117 (by decide)).trans ((eh2.2.1 117 (by decide)).trans ((eh1.2.1 117 (by decide)).trans (F 117 _ hl_117))))) rfl (xi_in (n := 6) (by decide) (by decide)) rfl (fun hh5 eh5 => ?_)
                  refine xi_aload_n (pc' := 42) (x := 115) kc_15_41 rfl rfl ?_
                  refine xi_getfield (pc' := 45) (v := .ref 118) kc_15_42 rfl rfl rfl ((eh5.2.1 115 (by decide)).trans ((eh4.2.1 115 (by decide)).trans eh3.1)) rfl ?_
                  refine xi_iload_n (pc' := 46) (x := 4) kc_15_45 rfl rfl ?_
                  refine xi_iload_n (pc' := 47) (x := 2) kc_15_46 rfl rfl ?_
                  refine xi_iconst (pc' := 48) (v := 2) kc_15_47 rfl rfl ?_
                  refine xi_cmf (pc' := 51) kc_15_48 rfl rfl ?_
                  refine xi_iload_n (pc' := 52) (x := a3) kc_15_51 rfl rfl ?_
                  refine xi_goto (pc' := 61) kc_15_52 rfl ?_
                  refine xi_iastore (pc' := 62) (x' := [10, 10, 10, 10, a3, 10]) kc_15_61 rfl ((eh5.2.1 118 (by decide)).trans ((eh4.2.1 118 (by decide)).trans ((eh3.2.1 118 (by decide)).trans ((eh2.2.1 118 (by decide)).trans ((eh1.2.1 118 (by decide)).trans (F 118 _ hl_118)))))) rfl (xi_in (n := 6) (by decide) (by decide)) rfl (fun hh6 eh6 => ?_)
                  refine xi_aload_n (pc' := 63) (x := 115) kc_15_62 rfl rfl ?_
                  refine xi_getfield (pc' := 66) (v := .ref 119) kc_15_63 rfl rfl rfl ((eh6.2.1 115 (by decide)).trans ((eh5.2.1 115 (by decide)).trans ((eh4.2.1 115 (by decide)).trans eh3.1))) rfl ?_
                  refine xi_iload_n (pc' := 67) (x := 4) kc_15_66 rfl rfl ?_
                  refine xi_iload_n (pc' := 68) (x := 2) kc_15_67 rfl rfl ?_
                  refine xi_iconst (pc' := 69) (v := 3) kc_15_68 rfl rfl ?_
                  refine xi_cmt (pc' := 76) kc_15_69 rfl rfl ?_
                  refine xi_aload_n (pc' := 77) (x := 115) kc_15_76 rfl rfl ?_
                  refine xi_getfield (pc' := 80) (v := .ref 119) kc_15_77 rfl rfl rfl ((eh6.2.1 115 (by decide)).trans ((eh5.2.1 115 (by decide)).trans ((eh4.2.1 115 (by decide)).trans eh3.1))) rfl ?_
                  refine xi_iload_n (pc' := 81) (x := 4) kc_15_80 rfl rfl ?_
                  refine xi_iaload (pc' := 82) (v := 0) kc_15_81 rfl ((eh6.2.1 119 (by decide)).trans ((eh5.2.1 119 (by decide)).trans ((eh4.2.1 119 (by decide)).trans ((eh3.2.1 119 (by decide)).trans ((eh2.2.1 119 (by decide)).trans ((eh1.2.1 119 (by decide)).trans (F 119 _ hl_119))))))) (by decide) rfl (xi_in (n := 6) (by decide) (by decide)) rfl ?_
                  refine xi_iastore (pc' := 83) (x' := [0, 0, 0, 0, 0, 0]) kc_15_82 rfl ((eh6.2.1 119 (by decide)).trans ((eh5.2.1 119 (by decide)).trans ((eh4.2.1 119 (by decide)).trans ((eh3.2.1 119 (by decide)).trans ((eh2.2.1 119 (by decide)).trans ((eh1.2.1 119 (by decide)).trans (F 119 _ hl_119))))))) rfl (xi_in (n := 6) (by decide) (by decide)) rfl (fun hh7 eh7 => ?_)
                  refine xi_aload_n (pc' := 84) (x := 115) kc_15_83 rfl rfl ?_
                  refine xi_getfield (pc' := 87) (v := .ref 120) kc_15_84 rfl rfl rfl ((eh7.2.1 115 (by decide)).trans ((eh6.2.1 115 (by decide)).trans ((eh5.2.1 115 (by decide)).trans ((eh4.2.1 115 (by decide)).trans eh3.1)))) rfl ?_
                  refine xi_iload_n (pc' := 88) (x := 4) kc_15_87 rfl rfl ?_
                  refine xi_iload_n (pc' := 89) (x := 2) kc_15_88 rfl rfl ?_
                  refine xi_iconst (pc' := 90) (v := 4) kc_15_89 rfl rfl ?_
                  refine xi_cmt (pc' := 97) kc_15_90 rfl rfl ?_
                  refine xi_aload_n (pc' := 98) (x := 115) kc_15_97 rfl rfl ?_
                  refine xi_getfield (pc' := 101) (v := .ref 120) kc_15_98 rfl rfl rfl ((eh7.2.1 115 (by decide)).trans ((eh6.2.1 115 (by decide)).trans ((eh5.2.1 115 (by decide)).trans ((eh4.2.1 115 (by decide)).trans eh3.1)))) rfl ?_
                  refine xi_iload_n (pc' := 102) (x := 4) kc_15_101 rfl rfl ?_
                  refine xi_iaload (pc' := 103) (v := 0) kc_15_102 rfl ((eh7.2.1 120 (by decide)).trans ((eh6.2.1 120 (by decide)).trans ((eh5.2.1 120 (by decide)).trans ((eh4.2.1 120 (by decide)).trans ((eh3.2.1 120 (by decide)).trans ((eh2.2.1 120 (by decide)).trans ((eh1.2.1 120 (by decide)).trans (F 120 _ hl_120)))))))) (by decide) rfl (xi_in (n := 6) (by decide) (by decide)) rfl ?_
                  refine xi_iastore (pc' := 104) (x' := [0, 0, 0, 0, 0, 0]) kc_15_103 rfl ((eh7.2.1 120 (by decide)).trans ((eh6.2.1 120 (by decide)).trans ((eh5.2.1 120 (by decide)).trans ((eh4.2.1 120 (by decide)).trans ((eh3.2.1 120 (by decide)).trans ((eh2.2.1 120 (by decide)).trans ((eh1.2.1 120 (by decide)).trans (F 120 _ hl_120)))))))) rfl (xi_in (n := 6) (by decide) (by decide)) rfl (fun hh8 eh8 => ?_)
                  refine xi_aload_n (pc' := 105) (x := 115) kc_15_104 rfl rfl ?_
                  refine xi_getfield (pc' := 108) (v := .ref 121) kc_15_105 rfl rfl rfl ((eh8.2.1 115 (by decide)).trans ((eh7.2.1 115 (by decide)).trans ((eh6.2.1 115 (by decide)).trans ((eh5.2.1 115 (by decide)).trans ((eh4.2.1 115 (by decide)).trans eh3.1))))) rfl ?_
                  refine xi_iload_n (pc' := 109) (x := 4) kc_15_108 rfl rfl ?_
                  refine xi_iload_n (pc' := 110) (x := 2) kc_15_109 rfl rfl ?_
                  refine xi_iconst (pc' := 111) (v := 5) kc_15_110 rfl rfl ?_
                  refine xi_cmt (pc' := 118) kc_15_111 rfl rfl ?_
                  refine xi_aload_n (pc' := 119) (x := 115) kc_15_118 rfl rfl ?_
                  refine xi_getfield (pc' := 122) (v := .ref 121) kc_15_119 rfl rfl rfl ((eh8.2.1 115 (by decide)).trans ((eh7.2.1 115 (by decide)).trans ((eh6.2.1 115 (by decide)).trans ((eh5.2.1 115 (by decide)).trans ((eh4.2.1 115 (by decide)).trans eh3.1))))) rfl ?_
                  refine xi_iload_n (pc' := 123) (x := 4) kc_15_122 rfl rfl ?_
                  refine xi_iaload (pc' := 124) (v := 0) kc_15_123 rfl ((eh8.2.1 121 (by decide)).trans ((eh7.2.1 121 (by decide)).trans ((eh6.2.1 121 (by decide)).trans ((eh5.2.1 121 (by decide)).trans ((eh4.2.1 121 (by decide)).trans ((eh3.2.1 121 (by decide)).trans ((eh2.2.1 121 (by decide)).trans ((eh1.2.1 121 (by decide)).trans (F 121 _ hl_121))))))))) (by decide) rfl (xi_in (n := 6) (by decide) (by decide)) rfl ?_
                  refine xi_iastore (pc' := 125) (x' := [0, 0, 0, 0, 0, 0]) kc_15_124 rfl ((eh8.2.1 121 (by decide)).trans ((eh7.2.1 121 (by decide)).trans ((eh6.2.1 121 (by decide)).trans ((eh5.2.1 121 (by decide)).trans ((eh4.2.1 121 (by decide)).trans ((eh3.2.1 121 (by decide)).trans ((eh2.2.1 121 (by decide)).trans ((eh1.2.1 121 (by decide)).trans (F 121 _ hl_121))))))))) rfl (xi_in (n := 6) (by decide) (by decide)) rfl (fun hh9 eh9 => ?_)
                  refine xi_aload_n (pc' := 126) (x := 115) kc_15_125 rfl rfl ?_
                  refine xi_iconst (pc' := 127) (v := 0) kc_15_126 rfl rfl ?_
                  refine xi_putfield (pc' := 130) (fs' := [.int 0, .int 0, .ref 116, .ref 117, .ref 118, .ref 119, .ref 120, .ref 121, .ref 122, .ref 123, .ref 124, .ref 125, .ref 126, .ref 127, .ref 128, .ref 129, .int 4, .ref 130, .int 0, .ref 131, .ref 132, .ref 133, .ref 134, .int 0, .ref 135, .ref 136, .ref 137, .ref 138, .ref 139, .ref 140, .ref 141, .ref 142, .int 0, .int 0, .int 0, .ref 143, .ref 144, .ref 145, .ref 146, .ref 147, .ref 148, .int 0, .ref 149, .ref 150, .ref 151, .int 0, .ref 152, .ref 153, .ref 154, .ref 155, .ref 156, .ref 157, .ref 158, .ref 159, .int 0, .ref 160, .int 0, .ref 161, .ref 162, .ref 163, .ref 164, .int 0, .ref 165, .ref 166]) kc_15_127 rfl rfl rfl ((eh9.2.1 115 (by decide)).trans ((eh8.2.1 115 (by decide)).trans ((eh7.2.1 115 (by decide)).trans ((eh6.2.1 115 (by decide)).trans ((eh5.2.1 115 (by decide)).trans ((eh4.2.1 115 (by decide)).trans eh3.1)))))) rfl rfl rfl (Nat.le_of_ble_eq_true rfl) rfl (fun hh10 eh10 => ?_)
                  refine xi_return kc_15_130 mr_15 ?_
                  show xw J ov 99 10 (121, [(4, .int 10), (0, .ref 115), (1, .int 4), (2, .int 2), (3, .int a3)], [], hh10) _
                  refine xi_iload (pc' := 123) (x := 10) kc_10_121 rfl rfl ?_
                  refine xi_ireturn kc_10_123 mr_10 rfl ?_
                  show xw J ov 100 196 (236, [(4, .int 0), (3, .ref 167), (2, .ref 115), (1, .ref 0), (0, .ref 1000000)], [.int 10, .int 10], hh10) _
                  refine xi_cmt (pc' := 1528) kc_196_236 rfl rfl ?_
                  refine xi_iinc (pc' := 1531) (x := 0) (v := 6) (lv' := [(4, .int 6), (3, .ref 167), (2, .ref 115), (1, .ref 0), (0, .ref 1000000)]) kc_196_1528 rfl rfl rfl rfl (xm_lt ml_196 rfl) ?_
                  refine xi_goto (pc' := 23) kc_196_1531 rfl ?_
                  refine xi_iload (pc' := 25) (x := 6) kc_196_23 rfl rfl ?_
                  refine xi_aload_n (pc' := 26) (x := 1000000) kc_196_25 rfl rfl ?_
                  refine xi_arraylength (pc' := 27) (n := 6) (v := 6) kc_196_26 rfl (xl_lenO (by decide) hov0 rfl) rfl ?_
                  refine xi_bipush (pc' := 29) (v := 6) kc_196_27 rfl rfl ?_
                  refine xi_isub (pc' := 30) (v := 0) kc_196_29 rfl rfl ?_
                  refine xi_cmt (pc' := 1534) kc_196_30 rfl rfl ?_
                  refine xi_iconst (pc' := 1535) (v := 1) kc_196_1534 rfl rfl ?_
                  refine xi_ireturn kc_196_1535 mr_196 rfl ?_
                  refine ⟨rfl, ?_, ?_⟩
                  · rw [eh10.2.2.1, eh9.2.2.1, eh8.2.2.1, eh7.2.2.1, eh6.2.2.1, eh5.2.2.1, eh4.2.2.1, eh3.2.2.1, eh2.2.2.1, eh1.2.2.1]; exact hn0
                  · rw [eh10.2.2.2, eh9.2.2.2, eh8.2.2.2, eh7.2.2.2, eh6.2.2.2, eh5.2.2.2, eh4.2.2.2, eh3.2.2.2, eh2.2.2.2, eh1.2.2.2]; exact hz0
                have qa1 : a1 = 5 := xc_of (Eq.trans (by omega) (show (5 : Int) = (5 : Int32).toInt by decide))
                subst qa1
                refine xi_aaload (pc' := 13) (b := 26) kc_93_12 rfl ((eh1.2.1 2 (by decide)).trans (F 2 _ hl_2)) rfl (xi_in (n := 6) (by decide) (by decide)) rfl ?_
                refine xi_iload_n (pc' := 14) (x := 2) kc_93_13 rfl rfl ?_
                refine xi_iload_n (pc' := 15) (x := a3) kc_93_14 rfl rfl ?_
                refine xi_virtual (mj := 94) (as := [.int 2, .int a3]) (st1 := []) (lv0 := [(0, .ref 26), (1, .int 2), (2, .int a3)]) kc_93_15 rfl rfl rfl rfl rfl ((eh1.2.1 26 (by decide)).trans (F 26 _ hl_26)) (Nat.le_of_ble_eq_true rfl) (hJ _ _ _ _ (by decide)) (xm_le ml_94 rfl) rfl ?_
                refine xi_iload_n (pc' := 1) (x := 2) kc_94_0 rfl rfl ?_
                refine xi_iff (pc' := 4) kc_94_1 rfl rfl ?_
                refine xi_iload_n (pc' := 5) (x := 2) kc_94_4 rfl rfl ?_
                refine xi_iconst (pc' := 6) (v := 5) kc_94_5 rfl rfl ?_
                refine xi_cmt (pc' := 11) kc_94_6 rfl rfl ?_
                refine xi_aload_n (pc' := 12) (x := 26) kc_94_11 rfl rfl ?_
                refine xi_getfield (pc' := 15) (v := .ref 27) kc_94_12 rfl rfl rfl ((eh1.2.1 26 (by decide)).trans (F 26 _ hl_26)) rfl ?_
                refine xi_iload_n (pc' := 16) (x := 2) kc_94_15 rfl rfl ?_
                refine xi_iaload (pc' := 17) (v := 10) kc_94_16 rfl ((eh1.2.1 27 (by decide)).trans (F 27 _ hl_27)) (by decide) rfl (xi_in (n := 5) (by decide) (by decide)) rfl ?_
                refine xi_istore_n (pc' := 18) (lv' := [(3, .int 10), (0, .ref 26), (1, .int 2), (2, .int a3)]) kc_94_17 rfl rfl (xm_lt ml_94 rfl) ?_
                refine xi_aload_n (pc' := 19) (x := 26) kc_94_18 rfl rfl ?_
                refine xi_getfield (pc' := 22) (v := .ref 27) kc_94_19 rfl rfl rfl ((eh1.2.1 26 (by decide)).trans (F 26 _ hl_26)) rfl ?_
                refine xi_iload_n (pc' := 23) (x := 2) kc_94_22 rfl rfl ?_
                refine xi_iload_n (pc' := 24) (x := a3) kc_94_23 rfl rfl ?_
                refine xi_iastore (pc' := 25) (x' := [40, 18, a3, 0, 0]) kc_94_24 rfl ((eh1.2.1 27 (by decide)).trans (F 27 _ hl_27)) rfl (xi_in (n := 5) (by decide) (by decide)) rfl (fun hh2 eh2 => ?_)
                refine xi_iload_n (pc' := 26) (x := 10) kc_94_25 rfl rfl ?_
                refine xi_ireturn kc_94_26 mr_94 rfl ?_
                show xw J ov 98 93 (18, [(0, .ref 1), (1, .int 5), (2, .int 2), (3, .int a3)], [.int 10], hh2) _
                refine xi_goto (pc' := 22) kc_93_18 rfl ?_
                refine xi_ireturn kc_93_22 mr_93 rfl ?_
                show xw J ov 99 89 (107, [(0, .ref 0), (1, .int 5), (2, .int 2), (3, .int a3)], [.int 10], hh2) _
                refine xi_ireturn kc_89_107 mr_89 rfl ?_
                show xw J ov 100 196 (214, [(4, .int 0), (3, .ref 167), (2, .ref 115), (1, .ref 0), (0, .ref 1000000)], [.int 10], hh2) _
                refine xi_aload_n (pc' := 215) (x := 115) kc_196_214 rfl rfl ?_
                refine xi_aload_n (pc' := 216) (x := 1000000) kc_196_215 rfl rfl ?_
                refine xi_iload (pc' := 218) (x := 0) kc_196_216 rfl rfl ?_
                refine xi_iconst (pc' := 219) (v := 1) kc_196_218 rfl rfl ?_
                refine xi_iadd (pc' := 220) (v := 1) kc_196_219 rfl rfl ?_
                refine xi_ialoadO (pc' := 221) (v := 5) kc_196_220 rfl (by decide) hov0 (xi_in (n := 6) (by decide) (by decide)) rfl ?_
                refine xi_aload_n (pc' := 222) (x := 1000000) kc_196_221 rfl rfl ?_
                refine xi_iload (pc' := 224) (x := 0) kc_196_222 rfl rfl ?_
                refine xi_iconst (pc' := 225) (v := 2) kc_196_224 rfl rfl ?_
                refine xi_iadd (pc' := 226) (v := 2) kc_196_225 rfl rfl ?_
                refine xi_ialoadO (pc' := 227) (v := 2) kc_196_226 rfl (by decide) hov0 (xi_in (n := 6) (by decide) (by decide)) rfl ?_
                refine xi_aload_n (pc' := 228) (x := 1000000) kc_196_227 rfl rfl ?_
                refine xi_iload (pc' := 230) (x := 0) kc_196_228 rfl rfl ?_
                refine xi_iconst (pc' := 231) (v := 3) kc_196_230 rfl rfl ?_
                refine xi_iadd (pc' := 232) (v := 3) kc_196_231 rfl rfl ?_
                refine xi_ialoadO (pc' := 233) (v := a3) kc_196_232 rfl (by decide) hov0 (xi_in (n := 6) (by decide) (by decide)) rfl ?_
                refine xi_virtual (mj := 10) (as := [.int 5, .int 2, .int a3]) (st1 := [.int 10]) (lv0 := [(0, .ref 115), (1, .int 5), (2, .int 2), (3, .int a3)]) kc_196_233 rfl rfl rfl rfl rfl ((eh2.2.1 115 (by decide)).trans ((eh1.2.1 115 (by decide)).trans (F 115 _ hl_115))) (Nat.le_of_ble_eq_true rfl) (hJ _ _ _ _ (by decide)) (xm_le ml_10 rfl) rfl ?_
                refine xi_aload_n (pc' := 1) (x := 115) kc_10_0 rfl rfl ?_
                refine xi_iconst (pc' := 2) (v := 0) kc_10_1 rfl rfl ?_
                refine xi_putfield (pc' := 5) (fs' := [.int 0, .int 0, .ref 116, .ref 117, .ref 118, .ref 119, .ref 120, .ref 121, .ref 122, .ref 123, .ref 124, .ref 125, .ref 126, .ref 127, .ref 128, .ref 129, .int 4, .ref 130, .int 0, .ref 131, .ref 132, .ref 133, .ref 134, .int 0, .ref 135, .ref 136, .ref 137, .ref 138, .ref 139, .ref 140, .ref 141, .ref 142, .int 0, .int 0, .int 0, .ref 143, .ref 144, .ref 145, .ref 146, .ref 147, .ref 148, .int 0, .ref 149, .ref 150, .ref 151, .int 0, .ref 152, .ref 153, .ref 154, .ref 155, .ref 156, .ref 157, .ref 158, .ref 159, .int 0, .ref 160, .int 0, .ref 161, .ref 162, .ref 163, .ref 164, .int 0, .ref 165, .ref 166]) kc_10_2 rfl rfl rfl ((eh2.2.1 115 (by decide)).trans ((eh1.2.1 115 (by decide)).trans (F 115 _ hl_115))) rfl rfl rfl (Nat.le_of_ble_eq_true rfl) rfl (fun hh3 eh3 => ?_)
                refine xi_iload_n (pc' := 6) (x := 5) kc_10_5 rfl rfl ?_
                refine xi_static (mj := 11) (as := [.int 5]) (st1 := []) (lv0 := [(0, .int 5)]) kc_10_6 rfl rfl (Nat.le_of_ble_eq_true rfl) rfl rfl (Nat.le_of_ble_eq_true rfl) (hJ _ _ _ _ (by decide)) (xm_le ml_11 rfl) rfl ?_
                refine xi_iload_n (pc' := 1) (x := 5) kc_11_0 rfl rfl ?_
                refine xi_iconst (pc' := 2) (v := 0) kc_11_1 rfl rfl ?_
                refine xi_iconst (pc' := 3) (v := 5) kc_11_2 rfl rfl ?_
                refine xi_static (mj := 12) (as := [.int 5, .int 0, .int 5]) (st1 := []) (lv0 := [(0, .int 5), (1, .int 0), (2, .int 5)]) kc_11_3 rfl rfl (Nat.le_of_ble_eq_true rfl) rfl rfl (Nat.le_of_ble_eq_true rfl) (hJ _ _ _ _ (by decide)) (xm_le ml_12 rfl) rfl ?_
                refine xi_iload_n (pc' := 1) (x := 5) kc_12_0 rfl rfl ?_
                refine xi_iload_n (pc' := 2) (x := 0) kc_12_1 rfl rfl ?_
                refine xi_cmf (pc' := 5) kc_12_2 rfl rfl ?_
                refine xi_iload_n (pc' := 6) (x := 5) kc_12_5 rfl rfl ?_
                refine xi_iload_n (pc' := 7) (x := 5) kc_12_6 rfl rfl ?_
                refine xi_cmf (pc' := 10) kc_12_7 rfl rfl ?_
                refine xi_iconst (pc' := 11) (v := 1) kc_12_10 rfl rfl ?_
                refine xi_goto (pc' := 15) kc_12_11 rfl ?_
                refine xi_ireturn kc_12_15 mr_12 rfl ?_
                show xw J ov 98 11 (6, [(0, .int 5)], [.int 1], hh3) _
                refine xi_ireturn kc_11_6 mr_11 rfl ?_
                show xw J ov 99 10 (9, [(0, .ref 115), (1, .int 5), (2, .int 2), (3, .int a3)], [.int 1], hh3) _
                refine xi_ift (pc' := 18) kc_10_9 rfl rfl ?_
                refine xi_iload_n (pc' := 19) (x := 2) kc_10_18 rfl rfl ?_
                refine xi_iconst (pc' := 20) (v := 0) kc_10_19 rfl rfl ?_
                refine xi_iconst (pc' := 21) (v := 5) kc_10_20 rfl rfl ?_
                refine xi_static (mj := 12) (as := [.int 2, .int 0, .int 5]) (st1 := []) (lv0 := [(0, .int 2), (1, .int 0), (2, .int 5)]) kc_10_21 rfl rfl (Nat.le_of_ble_eq_true rfl) rfl rfl (Nat.le_of_ble_eq_true rfl) (hJ _ _ _ _ (by decide)) (xm_le ml_12 rfl) rfl ?_
                refine xi_iload_n (pc' := 1) (x := 2) kc_12_0 rfl rfl ?_
                refine xi_iload_n (pc' := 2) (x := 0) kc_12_1 rfl rfl ?_
                refine xi_cmf (pc' := 5) kc_12_2 rfl rfl ?_
                refine xi_iload_n (pc' := 6) (x := 2) kc_12_5 rfl rfl ?_
                refine xi_iload_n (pc' := 7) (x := 5) kc_12_6 rfl rfl ?_
                refine xi_cmf (pc' := 10) kc_12_7 rfl rfl ?_
                refine xi_iconst (pc' := 11) (v := 1) kc_12_10 rfl rfl ?_
                refine xi_goto (pc' := 15) kc_12_11 rfl ?_
                refine xi_ireturn kc_12_15 mr_12 rfl ?_
                show xw J ov 99 10 (24, [(0, .ref 115), (1, .int 5), (2, .int 2), (3, .int a3)], [.int 1], hh3) _
                refine xi_ift (pc' := 34) kc_10_24 rfl rfl ?_
                refine xi_iload_n (pc' := 35) (x := a3) kc_10_34 rfl rfl ?_
                refine xi_iload_n (pc' := 36) (x := 2) kc_10_35 rfl rfl ?_
                refine xi_ift (pc' := 44) kc_10_36 rfl rfl ?_
                refine xi_iconst (pc' := 45) (v := 0) kc_10_44 rfl rfl ?_
                refine xi_cmt (pc' := 55) kc_10_45 rfl (xc_ge_t (X := a3.toInt) (Y := 0) rfl (by decide) (by omega)) ?_
                refine xi_iload_n (pc' := 56) (x := a3) kc_10_55 rfl rfl ?_
                refine xi_iload_n (pc' := 57) (x := 2) kc_10_56 rfl rfl ?_
                refine xi_ift (pc' := 65) kc_10_57 rfl rfl ?_
                refine xi_iload_n (pc' := 66) (x := 2) kc_10_65 rfl rfl ?_
                refine xi_iconst (pc' := 67) (v := 1) kc_10_66 rfl rfl ?_
                refine xi_cmt (pc' := 75) kc_10_67 rfl rfl ?_
                refine xi_iload_n (pc' := 76) (x := 2) kc_10_75 rfl rfl ?_
                refine xi_iconst (pc' := 77) (v := 4) kc_10_76 rfl rfl ?_
                refine xi_cmf (pc' := 80) kc_10_77 rfl rfl ?_
                refine xi_bipush (pc' := 82) (v := 50) kc_10_80 rfl rfl ?_
                refine xi_goto (pc' := 96) kc_10_82 rfl ?_
                refine xi_cmt (pc' := 106) kc_10_96 rfl (xc_le_t (X := a3.toInt) (Y := 50) rfl (by decide) (by omega)) ?_
                refine xi_aload_n (pc' := 107) (x := 115) kc_10_106 rfl rfl ?_
                refine xi_iload_n (pc' := 108) (x := 5) kc_10_107 rfl rfl ?_
                refine xi_iload_n (pc' := 109) (x := 2) kc_10_108 rfl rfl ?_
                refine xi_virtual (mj := 14) (as := [.int 5, .int 2]) (st1 := []) (lv0 := [(0, .ref 115), (1, .int 5), (2, .int 2)]) kc_10_109 rfl rfl rfl rfl rfl eh3.1 (Nat.le_of_ble_eq_true rfl) (hJ _ _ _ _ (by decide)) (xm_le ml_14 rfl) rfl ?_
                refine xi_iload_n (pc' := 1) (x := 2) kc_14_0 rfl rfl ?_
                refine xi_tsi (pc' := 50) (z := 2) kc_14_1 (rfl) rfl (by decide) ?_
                refine xi_aload_n (pc' := 51) (x := 115) kc_14_50 rfl rfl ?_
                refine xi_getfield (pc' := 54) (v := .ref 118) kc_14_51 rfl rfl rfl eh3.1 rfl ?_
                refine xi_iload_n (pc' := 55) (x := 5) kc_14_54 rfl rfl ?_
                refine xi_iaload (pc' := 56) (v := 10) kc_14_55 rfl ((eh3.2.1 118 (by decide)).trans ((eh2.2.1 118 (by decide)).trans ((eh1.2.1 118 (by decide)).trans (F 118 _ hl_118)))) (by decide) rfl (xi_in (n := 6) (by decide) (by decide)) rfl ?_
                refine xi_ireturn kc_14_56 mr_14 rfl ?_
                show xw J ov 99 10 (112, [(0, .ref 115), (1, .int 5), (2, .int 2), (3, .int a3)], [.int 10], hh3) _
                refine xi_istore (pc' := 114) (lv' := [(4, .int 10), (0, .ref 115), (1, .int 5), (2, .int 2), (3, .int a3)]) kc_10_112 rfl rfl (xm_lt ml_10 rfl) ?_
                refine xi_aload_n (pc' := 115) (x := 115) kc_10_114 rfl rfl ?_
                refine xi_iload_n (pc' := 116) (x := 5) kc_10_115 rfl rfl ?_
                refine xi_iload_n (pc' := 117) (x := 2) kc_10_116 rfl rfl ?_
                refine xi_iload_n (pc' := 118) (x := a3) kc_10_117 rfl rfl ?_
                refine xi_virtual (mj := 15) (as := [.int 5, .int 2, .int a3]) (st1 := []) (lv0 := [(0, .ref 115), (1, .int 5), (2, .int 2), (3, .int a3)]) kc_10_118 rfl rfl rfl rfl rfl eh3.1 (Nat.le_of_ble_eq_true rfl) (hJ _ _ _ _ (by decide)) (xm_le ml_15 rfl) rfl ?_
                refine xi_aload_n (pc' := 1) (x := 115) kc_15_0 rfl rfl ?_
                refine xi_getfield (pc' := 4) (v := .ref 116) kc_15_1 rfl rfl rfl eh3.1 rfl ?_
                refine xi_iload_n (pc' := 5) (x := 5) kc_15_4 rfl rfl ?_
                refine xi_iload_n (pc' := 6) (x := 2) kc_15_5 rfl rfl ?_
                refine xi_ift (pc' := 13) kc_15_6 rfl rfl ?_
                refine xi_aload_n (pc' := 14) (x := 115) kc_15_13 rfl rfl ?_
                refine xi_getfield (pc' := 17) (v := .ref 116) kc_15_14 rfl rfl rfl eh3.1 rfl ?_
                refine xi_iload_n (pc' := 18) (x := 5) kc_15_17 rfl rfl ?_
                refine xi_iaload (pc' := 19) (v := 40) kc_15_18 rfl ((eh3.2.1 116 (by decide)).trans ((eh2.2.1 116 (by decide)).trans ((eh1.2.1 116 (by decide)).trans (F 116 _ hl_116)))) (by decide) rfl (xi_in (n := 6) (by decide) (by decide)) rfl ?_
                refine xi_iastore (pc' := 20) (x' := [40, 40, 40, 40, 40, 40]) kc_15_19 rfl ((eh3.2.1 116 (by decide)).trans ((eh2.2.1 116 (by decide)).trans ((eh1.2.1 116 (by decide)).trans (F 116 _ hl_116)))) rfl (xi_in (n := 6) (by decide) (by decide)) rfl (fun hh4 eh4 => ?_)
                refine xi_aload_n (pc' := 21) (x := 115) kc_15_20 rfl rfl ?_
                refine xi_getfield (pc' := 24) (v := .ref 117) kc_15_21 rfl rfl rfl ((eh4.2.1 115 (by decide)).trans eh3.1) rfl ?_
                refine xi_iload_n (pc' := 25) (x := 5) kc_15_24 rfl rfl ?_
                refine xi_iload_n (pc' := 26) (x := 2) kc_15_25 rfl rfl ?_
                refine xi_iconst (pc' := 27) (v := 1) kc_15_26 rfl rfl ?_
                refine xi_cmt (pc' := 34) kc_15_27 rfl rfl ?_
                refine xi_aload_n (pc' := 35) (x := 115) kc_15_34 rfl rfl ?_
                refine xi_getfield (pc' := 38) (v := .ref 117) kc_15_35 rfl rfl rfl ((eh4.2.1 115 (by decide)).trans eh3.1) rfl ?_
                refine xi_iload_n (pc' := 39) (x := 5) kc_15_38 rfl rfl ?_
                refine xi_iaload (pc' := 40) (v := 18) kc_15_39 rfl ((eh4.2.1 117 (by decide)).trans ((eh3.2.1 117 (by decide)).trans ((eh2.2.1 117 (by decide)).trans ((eh1.2.1 117 (by decide)).trans (F 117 _ hl_117))))) (by decide) rfl (xi_in (n := 6) (by decide) (by decide)) rfl ?_
                refine xi_iastore (pc' := 41) (x' := [18, 18, 18, 18, 18, 18]) kc_15_40 rfl ((eh4.2.1 117 (by decide)).trans ((eh3.2.1 117 (by decide)).trans ((eh2.2.1 117 (by decide)).trans ((eh1.2.1 117 (by decide)).trans (F 117 _ hl_117))))) rfl (xi_in (n := 6) (by decide) (by decide)) rfl (fun hh5 eh5 => ?_)
                refine xi_aload_n (pc' := 42) (x := 115) kc_15_41 rfl rfl ?_
                refine xi_getfield (pc' := 45) (v := .ref 118) kc_15_42 rfl rfl rfl ((eh5.2.1 115 (by decide)).trans ((eh4.2.1 115 (by decide)).trans eh3.1)) rfl ?_
                refine xi_iload_n (pc' := 46) (x := 5) kc_15_45 rfl rfl ?_
                refine xi_iload_n (pc' := 47) (x := 2) kc_15_46 rfl rfl ?_
                refine xi_iconst (pc' := 48) (v := 2) kc_15_47 rfl rfl ?_
                refine xi_cmf (pc' := 51) kc_15_48 rfl rfl ?_
                refine xi_iload_n (pc' := 52) (x := a3) kc_15_51 rfl rfl ?_
                refine xi_goto (pc' := 61) kc_15_52 rfl ?_
                refine xi_iastore (pc' := 62) (x' := [10, 10, 10, 10, 10, a3]) kc_15_61 rfl ((eh5.2.1 118 (by decide)).trans ((eh4.2.1 118 (by decide)).trans ((eh3.2.1 118 (by decide)).trans ((eh2.2.1 118 (by decide)).trans ((eh1.2.1 118 (by decide)).trans (F 118 _ hl_118)))))) rfl (xi_in (n := 6) (by decide) (by decide)) rfl (fun hh6 eh6 => ?_)
                refine xi_aload_n (pc' := 63) (x := 115) kc_15_62 rfl rfl ?_
                refine xi_getfield (pc' := 66) (v := .ref 119) kc_15_63 rfl rfl rfl ((eh6.2.1 115 (by decide)).trans ((eh5.2.1 115 (by decide)).trans ((eh4.2.1 115 (by decide)).trans eh3.1))) rfl ?_
                refine xi_iload_n (pc' := 67) (x := 5) kc_15_66 rfl rfl ?_
                refine xi_iload_n (pc' := 68) (x := 2) kc_15_67 rfl rfl ?_
                refine xi_iconst (pc' := 69) (v := 3) kc_15_68 rfl rfl ?_
                refine xi_cmt (pc' := 76) kc_15_69 rfl rfl ?_
                refine xi_aload_n (pc' := 77) (x := 115) kc_15_76 rfl rfl ?_
                refine xi_getfield (pc' := 80) (v := .ref 119) kc_15_77 rfl rfl rfl ((eh6.2.1 115 (by decide)).trans ((eh5.2.1 115 (by decide)).trans ((eh4.2.1 115 (by decide)).trans eh3.1))) rfl ?_
                refine xi_iload_n (pc' := 81) (x := 5) kc_15_80 rfl rfl ?_
                refine xi_iaload (pc' := 82) (v := 0) kc_15_81 rfl ((eh6.2.1 119 (by decide)).trans ((eh5.2.1 119 (by decide)).trans ((eh4.2.1 119 (by decide)).trans ((eh3.2.1 119 (by decide)).trans ((eh2.2.1 119 (by decide)).trans ((eh1.2.1 119 (by decide)).trans (F 119 _ hl_119))))))) (by decide) rfl (xi_in (n := 6) (by decide) (by decide)) rfl ?_
                refine xi_iastore (pc' := 83) (x' := [0, 0, 0, 0, 0, 0]) kc_15_82 rfl ((eh6.2.1 119 (by decide)).trans ((eh5.2.1 119 (by decide)).trans ((eh4.2.1 119 (by decide)).trans ((eh3.2.1 119 (by decide)).trans ((eh2.2.1 119 (by decide)).trans ((eh1.2.1 119 (by decide)).trans (F 119 _ hl_119))))))) rfl (xi_in (n := 6) (by decide) (by decide)) rfl (fun hh7 eh7 => ?_)
                refine xi_aload_n (pc' := 84) (x := 115) kc_15_83 rfl rfl ?_
                refine xi_getfield (pc' := 87) (v := .ref 120) kc_15_84 rfl rfl rfl ((eh7.2.1 115 (by decide)).trans ((eh6.2.1 115 (by decide)).trans ((eh5.2.1 115 (by decide)).trans ((eh4.2.1 115 (by decide)).trans eh3.1)))) rfl ?_
                refine xi_iload_n (pc' := 88) (x := 5) kc_15_87 rfl rfl ?_
                refine xi_iload_n (pc' := 89) (x := 2) kc_15_88 rfl rfl ?_
                refine xi_iconst (pc' := 90) (v := 4) kc_15_89 rfl rfl ?_
                refine xi_cmt (pc' := 97) kc_15_90 rfl rfl ?_
                refine xi_aload_n (pc' := 98) (x := 115) kc_15_97 rfl rfl ?_
                refine xi_getfield (pc' := 101) (v := .ref 120) kc_15_98 rfl rfl rfl ((eh7.2.1 115 (by decide)).trans ((eh6.2.1 115 (by decide)).trans ((eh5.2.1 115 (by decide)).trans ((eh4.2.1 115 (by decide)).trans eh3.1)))) rfl ?_
                refine xi_iload_n (pc' := 102) (x := 5) kc_15_101 rfl rfl ?_
                refine xi_iaload (pc' := 103) (v := 0) kc_15_102 rfl ((eh7.2.1 120 (by decide)).trans ((eh6.2.1 120 (by decide)).trans ((eh5.2.1 120 (by decide)).trans ((eh4.2.1 120 (by decide)).trans ((eh3.2.1 120 (by decide)).trans ((eh2.2.1 120 (by decide)).trans ((eh1.2.1 120 (by decide)).trans (F 120 _ hl_120)))))))) (by decide) rfl (xi_in (n := 6) (by decide) (by decide)) rfl ?_
                refine xi_iastore (pc' := 104) (x' := [0, 0, 0, 0, 0, 0]) kc_15_103 rfl ((eh7.2.1 120 (by decide)).trans ((eh6.2.1 120 (by decide)).trans ((eh5.2.1 120 (by decide)).trans ((eh4.2.1 120 (by decide)).trans ((eh3.2.1 120 (by decide)).trans ((eh2.2.1 120 (by decide)).trans ((eh1.2.1 120 (by decide)).trans (F 120 _ hl_120)))))))) rfl (xi_in (n := 6) (by decide) (by decide)) rfl (fun hh8 eh8 => ?_)
                refine xi_aload_n (pc' := 105) (x := 115) kc_15_104 rfl rfl ?_
                refine xi_getfield (pc' := 108) (v := .ref 121) kc_15_105 rfl rfl rfl ((eh8.2.1 115 (by decide)).trans ((eh7.2.1 115 (by decide)).trans ((eh6.2.1 115 (by decide)).trans ((eh5.2.1 115 (by decide)).trans ((eh4.2.1 115 (by decide)).trans eh3.1))))) rfl ?_
                refine xi_iload_n (pc' := 109) (x := 5) kc_15_108 rfl rfl ?_
                refine xi_iload_n (pc' := 110) (x := 2) kc_15_109 rfl rfl ?_
                refine xi_iconst (pc' := 111) (v := 5) kc_15_110 rfl rfl ?_
                refine xi_cmt (pc' := 118) kc_15_111 rfl rfl ?_
                refine xi_aload_n (pc' := 119) (x := 115) kc_15_118 rfl rfl ?_
                refine xi_getfield (pc' := 122) (v := .ref 121) kc_15_119 rfl rfl rfl ((eh8.2.1 115 (by decide)).trans ((eh7.2.1 115 (by decide)).trans ((eh6.2.1 115 (by decide)).trans ((eh5.2.1 115 (by decide)).trans ((eh4.2.1 115 (by decide)).trans eh3.1))))) rfl ?_
                refine xi_iload_n (pc' := 123) (x := 5) kc_15_122 rfl rfl ?_
                refine xi_iaload (pc' := 124) (v := 0) kc_15_123 rfl ((eh8.2.1 121 (by decide)).trans ((eh7.2.1 121 (by decide)).trans ((eh6.2.1 121 (by decide)).trans ((eh5.2.1 121 (by decide)).trans ((eh4.2.1 121 (by decide)).trans ((eh3.2.1 121 (by decide)).trans ((eh2.2.1 121 (by decide)).trans ((eh1.2.1 121 (by decide)).trans (F 121 _ hl_121))))))))) (by decide) rfl (xi_in (n := 6) (by decide) (by decide)) rfl ?_
                refine xi_iastore (pc' := 125) (x' := [0, 0, 0, 0, 0, 0]) kc_15_124 rfl ((eh8.2.1 121 (by decide)).trans ((eh7.2.1 121 (by decide)).trans ((eh6.2.1 121 (by decide)).trans ((eh5.2.1 121 (by decide)).trans ((eh4.2.1 121 (by decide)).trans ((eh3.2.1 121 (by decide)).trans ((eh2.2.1 121 (by decide)).trans ((eh1.2.1 121 (by decide)).trans (F 121 _ hl_121))))))))) rfl (xi_in (n := 6) (by decide) (by decide)) rfl (fun hh9 eh9 => ?_)
                refine xi_aload_n (pc' := 126) (x := 115) kc_15_125 rfl rfl ?_
                refine xi_iconst (pc' := 127) (v := 0) kc_15_126 rfl rfl ?_
                refine xi_putfield (pc' := 130) (fs' := [.int 0, .int 0, .ref 116, .ref 117, .ref 118, .ref 119, .ref 120, .ref 121, .ref 122, .ref 123, .ref 124, .ref 125, .ref 126, .ref 127, .ref 128, .ref 129, .int 4, .ref 130, .int 0, .ref 131, .ref 132, .ref 133, .ref 134, .int 0, .ref 135, .ref 136, .ref 137, .ref 138, .ref 139, .ref 140, .ref 141, .ref 142, .int 0, .int 0, .int 0, .ref 143, .ref 144, .ref 145, .ref 146, .ref 147, .ref 148, .int 0, .ref 149, .ref 150, .ref 151, .int 0, .ref 152, .ref 153, .ref 154, .ref 155, .ref 156, .ref 157, .ref 158, .ref 159, .int 0, .ref 160, .int 0, .ref 161, .ref 162, .ref 163, .ref 164, .int 0, .ref 165, .ref 166]) kc_15_127 rfl rfl rfl ((eh9.2.1 115 (by decide)).trans ((eh8.2.1 115 (by decide)).trans ((eh7.2.1 115 (by decide)).trans ((eh6.2.1 115 (by decide)).trans ((eh5.2.1 115 (by decide)).trans ((eh4.2.1 115 (by decide)).trans eh3.1)))))) rfl rfl rfl (Nat.le_of_ble_eq_true rfl) rfl (fun hh10 eh10 => ?_)
                refine xi_return kc_15_130 mr_15 ?_
                show xw J ov 99 10 (121, [(4, .int 10), (0, .ref 115), (1, .int 5), (2, .int 2), (3, .int a3)], [], hh10) _
                refine xi_iload (pc' := 123) (x := 10) kc_10_121 rfl rfl ?_
                refine xi_ireturn kc_10_123 mr_10 rfl ?_
                show xw J ov 100 196 (236, [(4, .int 0), (3, .ref 167), (2, .ref 115), (1, .ref 0), (0, .ref 1000000)], [.int 10, .int 10], hh10) _
                refine xi_cmt (pc' := 1528) kc_196_236 rfl rfl ?_
                refine xi_iinc (pc' := 1531) (x := 0) (v := 6) (lv' := [(4, .int 6), (3, .ref 167), (2, .ref 115), (1, .ref 0), (0, .ref 1000000)]) kc_196_1528 rfl rfl rfl rfl (xm_lt ml_196 rfl) ?_
                refine xi_goto (pc' := 23) kc_196_1531 rfl ?_
                refine xi_iload (pc' := 25) (x := 6) kc_196_23 rfl rfl ?_
                refine xi_aload_n (pc' := 26) (x := 1000000) kc_196_25 rfl rfl ?_
                refine xi_arraylength (pc' := 27) (n := 6) (v := 6) kc_196_26 rfl (xl_lenO (by decide) hov0 rfl) rfl ?_
                refine xi_bipush (pc' := 29) (v := 6) kc_196_27 rfl rfl ?_
                refine xi_isub (pc' := 30) (v := 0) kc_196_29 rfl rfl ?_
                refine xi_cmt (pc' := 1534) kc_196_30 rfl rfl ?_
                refine xi_iconst (pc' := 1535) (v := 1) kc_196_1534 rfl rfl ?_
                refine xi_ireturn kc_196_1535 mr_196 rfl ?_
                refine ⟨rfl, ?_, ?_⟩
                · rw [eh10.2.2.1, eh9.2.2.1, eh8.2.2.1, eh7.2.2.1, eh6.2.2.1, eh5.2.2.1, eh4.2.2.1, eh3.2.2.1, eh2.2.2.1, eh1.2.2.1]; exact hn0
                · rw [eh10.2.2.2, eh9.2.2.2, eh8.2.2.2, eh7.2.2.2, eh6.2.2.2, eh5.2.2.2, eh4.2.2.2, eh3.2.2.2, eh2.2.2.2, eh1.2.2.2]; exact hz0
              · refine xi_cmf (pc' := 54) kc_89_51 rfl (xc_le_f (X := a3.toInt) (Y := 50) rfl (by decide) (by omega)) ?_
                refine xi_aload_n (pc' := 55) (x := 0) kc_89_54 rfl rfl ?_
                refine xi_bipush (pc' := 57) (v := (-6)) kc_89_55 rfl rfl ?_
                refine xi_virtual (mj := 91) (as := [.int (-6)]) (st1 := []) (lv0 := [(0, .ref 0), (1, .int (-6))]) kc_89_57 rfl rfl rfl rfl rfl (F 0 _ hl_0) (Nat.le_of_ble_eq_true rfl) (hJ _ _ _ _ (by decide)) (xm_le ml_91 rfl) rfl ?_
                refine xi_iload_n (pc' := 1) (x := (-6)) kc_91_0 rfl rfl ?_
                refine xi_ineg (pc' := 2) (v := 6) kc_91_1 rfl rfl ?_
                refine xi_istore_n (pc' := 3) (lv' := [(2, .int 6), (0, .ref 0), (1, .int (-6))]) kc_91_2 rfl rfl (xm_lt ml_91 rfl) ?_
                refine xi_iload_n (pc' := 4) (x := 6) kc_91_3 rfl rfl ?_
                refine xi_iff (pc' := 7) kc_91_4 rfl rfl ?_
                refine xi_iload_n (pc' := 8) (x := 6) kc_91_7 rfl rfl ?_
                refine xi_aload_n (pc' := 9) (x := 0) kc_91_8 rfl rfl ?_
                refine xi_getfield (pc' := 12) (v := .ref 94) kc_91_9 rfl rfl rfl (F 0 _ hl_0) rfl ?_
                refine xi_arraylength (pc' := 13) (n := 7) (v := 7) kc_91_12 rfl (xl_lenI (by decide) (by decide) (F 94 _ hl_94) (by simp only [List.length_replicate, List.length_cons, List.length_nil])) rfl ?_
                refine xi_cmf (pc' := 16) kc_91_13 rfl rfl ?_
                refine xi_aload_n (pc' := 17) (x := 0) kc_91_16 rfl rfl ?_
                refine xi_getfield (pc' := 20) (v := .ref 94) kc_91_17 rfl rfl rfl (F 0 _ hl_0) rfl ?_
                refine xi_iload_n (pc' := 21) (x := 6) kc_91_20 rfl rfl ?_
                refine xi_dup2 (pc' := 22) kc_91_21 rfl ⟨rfl, rfl⟩ ?_
                refine xi_iaload (pc' := 23) (v := 0) kc_91_22 rfl (F 94 _ hl_94) (by decide) rfl (xi_in (n := 7) (by decide) (by decide)) rfl ?_
                refine xi_iconst (pc' := 24) (v := 1) kc_91_23 rfl rfl ?_
                refine xi_iadd (pc' := 25) (v := 1) kc_91_24 rfl rfl ?_
                refine xi_iastore (pc' := 26) (x' := [0, 0, 0, 0, 0, 0, 1]) kc_91_25 rfl (F 94 _ hl_94) rfl (xi_in (n := 7) (by decide) (by decide)) rfl (fun hh1 eh1 => ?_)
                refine xi_iload_n (pc' := 27) (x := (-6)) kc_91_26 rfl rfl ?_
                refine xi_ireturn kc_91_27 mr_91 rfl ?_
                show xw J ov 99 89 (60, [(0, .ref 0), (1, .int a1), (2, .int 2), (3, .int a3)], [.int (-6)], hh1) _
                refine xi_ireturn kc_89_60 mr_89 rfl ?_
                show xw J ov 100 196 (214, [(4, .int 0), (3, .ref 167), (2, .ref 115), (1, .ref 0), (0, .ref 1000000)], [.int (-6)], hh1) _
                refine xi_aload_n (pc' := 215) (x := 115) kc_196_214 rfl rfl ?_
                refine xi_aload_n (pc' := 216) (x := 1000000) kc_196_215 rfl rfl ?_
                refine xi_iload (pc' := 218) (x := 0) kc_196_216 rfl rfl ?_
                refine xi_iconst (pc' := 219) (v := 1) kc_196_218 rfl rfl ?_
                refine xi_iadd (pc' := 220) (v := 1) kc_196_219 rfl rfl ?_
                refine xi_ialoadO (pc' := 221) (v := a1) kc_196_220 rfl (by decide) hov0 (xi_in (n := 6) (by decide) (by decide)) rfl ?_
                refine xi_aload_n (pc' := 222) (x := 1000000) kc_196_221 rfl rfl ?_
                refine xi_iload (pc' := 224) (x := 0) kc_196_222 rfl rfl ?_
                refine xi_iconst (pc' := 225) (v := 2) kc_196_224 rfl rfl ?_
                refine xi_iadd (pc' := 226) (v := 2) kc_196_225 rfl rfl ?_
                refine xi_ialoadO (pc' := 227) (v := 2) kc_196_226 rfl (by decide) hov0 (xi_in (n := 6) (by decide) (by decide)) rfl ?_
                refine xi_aload_n (pc' := 228) (x := 1000000) kc_196_227 rfl rfl ?_
                refine xi_iload (pc' := 230) (x := 0) kc_196_228 rfl rfl ?_
                refine xi_iconst (pc' := 231) (v := 3) kc_196_230 rfl rfl ?_
                refine xi_iadd (pc' := 232) (v := 3) kc_196_231 rfl rfl ?_
                refine xi_ialoadO (pc' := 233) (v := a3) kc_196_232 rfl (by decide) hov0 (xi_in (n := 6) (by decide) (by decide)) rfl ?_
                refine xi_virtual (mj := 10) (as := [.int a1, .int 2, .int a3]) (st1 := [.int (-6)]) (lv0 := [(0, .ref 115), (1, .int a1), (2, .int 2), (3, .int a3)]) kc_196_233 rfl rfl rfl rfl rfl ((eh1.2.1 115 (by decide)).trans (F 115 _ hl_115)) (Nat.le_of_ble_eq_true rfl) (hJ _ _ _ _ (by decide)) (xm_le ml_10 rfl) rfl ?_
                refine xi_aload_n (pc' := 1) (x := 115) kc_10_0 rfl rfl ?_
                refine xi_iconst (pc' := 2) (v := 0) kc_10_1 rfl rfl ?_
                refine xi_putfield (pc' := 5) (fs' := [.int 0, .int 0, .ref 116, .ref 117, .ref 118, .ref 119, .ref 120, .ref 121, .ref 122, .ref 123, .ref 124, .ref 125, .ref 126, .ref 127, .ref 128, .ref 129, .int 4, .ref 130, .int 0, .ref 131, .ref 132, .ref 133, .ref 134, .int 0, .ref 135, .ref 136, .ref 137, .ref 138, .ref 139, .ref 140, .ref 141, .ref 142, .int 0, .int 0, .int 0, .ref 143, .ref 144, .ref 145, .ref 146, .ref 147, .ref 148, .int 0, .ref 149, .ref 150, .ref 151, .int 0, .ref 152, .ref 153, .ref 154, .ref 155, .ref 156, .ref 157, .ref 158, .ref 159, .int 0, .ref 160, .int 0, .ref 161, .ref 162, .ref 163, .ref 164, .int 0, .ref 165, .ref 166]) kc_10_2 rfl rfl rfl ((eh1.2.1 115 (by decide)).trans (F 115 _ hl_115)) rfl rfl rfl (Nat.le_of_ble_eq_true rfl) rfl (fun hh2 eh2 => ?_)
                refine xi_iload_n (pc' := 6) (x := a1) kc_10_5 rfl rfl ?_
                refine xi_static (mj := 11) (as := [.int a1]) (st1 := []) (lv0 := [(0, .int a1)]) kc_10_6 rfl rfl (Nat.le_of_ble_eq_true rfl) rfl rfl (Nat.le_of_ble_eq_true rfl) (hJ _ _ _ _ (by decide)) (xm_le ml_11 rfl) rfl ?_
                refine xi_iload_n (pc' := 1) (x := a1) kc_11_0 rfl rfl ?_
                refine xi_iconst (pc' := 2) (v := 0) kc_11_1 rfl rfl ?_
                refine xi_iconst (pc' := 3) (v := 5) kc_11_2 rfl rfl ?_
                refine xi_static (mj := 12) (as := [.int a1, .int 0, .int 5]) (st1 := []) (lv0 := [(0, .int a1), (1, .int 0), (2, .int 5)]) kc_11_3 rfl rfl (Nat.le_of_ble_eq_true rfl) rfl rfl (Nat.le_of_ble_eq_true rfl) (hJ _ _ _ _ (by decide)) (xm_le ml_12 rfl) rfl ?_
                refine xi_iload_n (pc' := 1) (x := a1) kc_12_0 rfl rfl ?_
                refine xi_iload_n (pc' := 2) (x := 0) kc_12_1 rfl rfl ?_
                refine xi_cmf (pc' := 5) kc_12_2 rfl (xc_lt_f (X := a1.toInt) (Y := 0) rfl (by decide) (by omega)) ?_
                refine xi_iload_n (pc' := 6) (x := a1) kc_12_5 rfl rfl ?_
                refine xi_iload_n (pc' := 7) (x := 5) kc_12_6 rfl rfl ?_
                refine xi_cmf (pc' := 10) kc_12_7 rfl (xc_gt_f (X := a1.toInt) (Y := 5) rfl (by decide) (by omega)) ?_
                refine xi_iconst (pc' := 11) (v := 1) kc_12_10 rfl rfl ?_
                refine xi_goto (pc' := 15) kc_12_11 rfl ?_
                refine xi_ireturn kc_12_15 mr_12 rfl ?_
                show xw J ov 98 11 (6, [(0, .int a1)], [.int 1], hh2) _
                refine xi_ireturn kc_11_6 mr_11 rfl ?_
                show xw J ov 99 10 (9, [(0, .ref 115), (1, .int a1), (2, .int 2), (3, .int a3)], [.int 1], hh2) _
                refine xi_ift (pc' := 18) kc_10_9 rfl rfl ?_
                refine xi_iload_n (pc' := 19) (x := 2) kc_10_18 rfl rfl ?_
                refine xi_iconst (pc' := 20) (v := 0) kc_10_19 rfl rfl ?_
                refine xi_iconst (pc' := 21) (v := 5) kc_10_20 rfl rfl ?_
                refine xi_static (mj := 12) (as := [.int 2, .int 0, .int 5]) (st1 := []) (lv0 := [(0, .int 2), (1, .int 0), (2, .int 5)]) kc_10_21 rfl rfl (Nat.le_of_ble_eq_true rfl) rfl rfl (Nat.le_of_ble_eq_true rfl) (hJ _ _ _ _ (by decide)) (xm_le ml_12 rfl) rfl ?_
                refine xi_iload_n (pc' := 1) (x := 2) kc_12_0 rfl rfl ?_
                refine xi_iload_n (pc' := 2) (x := 0) kc_12_1 rfl rfl ?_
                refine xi_cmf (pc' := 5) kc_12_2 rfl rfl ?_
                refine xi_iload_n (pc' := 6) (x := 2) kc_12_5 rfl rfl ?_
                refine xi_iload_n (pc' := 7) (x := 5) kc_12_6 rfl rfl ?_
                refine xi_cmf (pc' := 10) kc_12_7 rfl rfl ?_
                refine xi_iconst (pc' := 11) (v := 1) kc_12_10 rfl rfl ?_
                refine xi_goto (pc' := 15) kc_12_11 rfl ?_
                refine xi_ireturn kc_12_15 mr_12 rfl ?_
                show xw J ov 99 10 (24, [(0, .ref 115), (1, .int a1), (2, .int 2), (3, .int a3)], [.int 1], hh2) _
                refine xi_ift (pc' := 34) kc_10_24 rfl rfl ?_
                refine xi_iload_n (pc' := 35) (x := a3) kc_10_34 rfl rfl ?_
                refine xi_iload_n (pc' := 36) (x := 2) kc_10_35 rfl rfl ?_
                refine xi_ift (pc' := 44) kc_10_36 rfl rfl ?_
                refine xi_iconst (pc' := 45) (v := 0) kc_10_44 rfl rfl ?_
                refine xi_cmt (pc' := 55) kc_10_45 rfl (xc_ge_t (X := a3.toInt) (Y := 0) rfl (by decide) (by omega)) ?_
                refine xi_iload_n (pc' := 56) (x := a3) kc_10_55 rfl rfl ?_
                refine xi_iload_n (pc' := 57) (x := 2) kc_10_56 rfl rfl ?_
                refine xi_ift (pc' := 65) kc_10_57 rfl rfl ?_
                refine xi_iload_n (pc' := 66) (x := 2) kc_10_65 rfl rfl ?_
                refine xi_iconst (pc' := 67) (v := 1) kc_10_66 rfl rfl ?_
                refine xi_cmt (pc' := 75) kc_10_67 rfl rfl ?_
                refine xi_iload_n (pc' := 76) (x := 2) kc_10_75 rfl rfl ?_
                refine xi_iconst (pc' := 77) (v := 4) kc_10_76 rfl rfl ?_
                refine xi_cmf (pc' := 80) kc_10_77 rfl rfl ?_
                refine xi_bipush (pc' := 82) (v := 50) kc_10_80 rfl rfl ?_
                refine xi_goto (pc' := 96) kc_10_82 rfl ?_
                refine xi_cmf (pc' := 99) kc_10_96 rfl (xc_le_f (X := a3.toInt) (Y := 50) rfl (by decide) (by omega)) ?_
                refine xi_aload_n (pc' := 100) (x := 115) kc_10_99 rfl rfl ?_
                refine xi_bipush (pc' := 102) (v := (-6)) kc_10_100 rfl rfl ?_
                refine xi_virtual (mj := 13) (as := [.int (-6)]) (st1 := []) (lv0 := [(0, .ref 115), (1, .int (-6))]) kc_10_102 rfl rfl rfl rfl rfl eh2.1 (Nat.le_of_ble_eq_true rfl) (hJ _ _ _ _ (by decide)) (xm_le ml_13 rfl) rfl ?_
                refine xi_aload_n (pc' := 1) (x := 115) kc_13_0 rfl rfl ?_
                refine xi_getfield (pc' := 4) (v := .ref 140) kc_13_1 rfl rfl rfl eh2.1 rfl ?_
                refine xi_iload_n (pc' := 5) (x := (-6)) kc_13_4 rfl rfl ?_
                refine xi_ineg (pc' := 6) (v := 6) kc_13_5 rfl rfl ?_
                refine xi_dup2 (pc' := 7) kc_13_6 rfl ⟨rfl, rfl⟩ ?_
                refine xi_iaload (pc' := 8) (v := 0) kc_13_7 rfl ((eh2.2.1 140 (by decide)).trans ((eh1.2.1 140 (by decide)).trans (F 140 _ hl_140))) (by decide) rfl (xi_in (n := 7) (by decide) (by decide)) rfl ?_
                refine xi_iconst (pc' := 9) (v := 1) kc_13_8 rfl rfl ?_
                refine xi_iadd (pc' := 10) (v := 1) kc_13_9 rfl rfl ?_
                refine xi_iastore (pc' := 11) (x' := [0, 0, 0, 0, 0, 0, 1]) kc_13_10 rfl ((eh2.2.1 140 (by decide)).trans ((eh1.2.1 140 (by decide)).trans (F 140 _ hl_140))) rfl (xi_in (n := 7) (by decide) (by decide)) rfl (fun hh3 eh3 => ?_)
                refine xi_iload_n (pc' := 12) (x := (-6)) kc_13_11 rfl rfl ?_
                refine xi_ireturn kc_13_12 mr_13 rfl ?_
                show xw J ov 99 10 (105, [(0, .ref 115), (1, .int a1), (2, .int 2), (3, .int a3)], [.int (-6)], hh3) _
                refine xi_ireturn kc_10_105 mr_10 rfl ?_
                show xw J ov 100 196 (236, [(4, .int 0), (3, .ref 167), (2, .ref 115), (1, .ref 0), (0, .ref 1000000)], [.int (-6), .int (-6)], hh3) _
                refine xi_cmt (pc' := 1528) kc_196_236 rfl rfl ?_
                refine xi_iinc (pc' := 1531) (x := 0) (v := 6) (lv' := [(4, .int 6), (3, .ref 167), (2, .ref 115), (1, .ref 0), (0, .ref 1000000)]) kc_196_1528 rfl rfl rfl rfl (xm_lt ml_196 rfl) ?_
                refine xi_goto (pc' := 23) kc_196_1531 rfl ?_
                refine xi_iload (pc' := 25) (x := 6) kc_196_23 rfl rfl ?_
                refine xi_aload_n (pc' := 26) (x := 1000000) kc_196_25 rfl rfl ?_
                refine xi_arraylength (pc' := 27) (n := 6) (v := 6) kc_196_26 rfl (xl_lenO (by decide) hov0 rfl) rfl ?_
                refine xi_bipush (pc' := 29) (v := 6) kc_196_27 rfl rfl ?_
                refine xi_isub (pc' := 30) (v := 0) kc_196_29 rfl rfl ?_
                refine xi_cmt (pc' := 1534) kc_196_30 rfl rfl ?_
                refine xi_iconst (pc' := 1535) (v := 1) kc_196_1534 rfl rfl ?_
                refine xi_ireturn kc_196_1535 mr_196 rfl ?_
                refine ⟨rfl, ?_, ?_⟩
                · rw [eh3.2.2.1, eh2.2.2.1, eh1.2.2.1]; exact hn0
                · rw [eh3.2.2.2, eh2.2.2.2, eh1.2.2.2]; exact hz0
            · refine xi_cmf (pc' := 38) kc_89_35 rfl (xc_ge_f (X := a3.toInt) (Y := 0) rfl (by decide) (by omega)) ?_
              refine xi_aload_n (pc' := 39) (x := 0) kc_89_38 rfl rfl ?_
              refine xi_bipush (pc' := 41) (v := (-4)) kc_89_39 rfl rfl ?_
              refine xi_virtual (mj := 91) (as := [.int (-4)]) (st1 := []) (lv0 := [(0, .ref 0), (1, .int (-4))]) kc_89_41 rfl rfl rfl rfl rfl (F 0 _ hl_0) (Nat.le_of_ble_eq_true rfl) (hJ _ _ _ _ (by decide)) (xm_le ml_91 rfl) rfl ?_
              refine xi_iload_n (pc' := 1) (x := (-4)) kc_91_0 rfl rfl ?_
              refine xi_ineg (pc' := 2) (v := 4) kc_91_1 rfl rfl ?_
              refine xi_istore_n (pc' := 3) (lv' := [(2, .int 4), (0, .ref 0), (1, .int (-4))]) kc_91_2 rfl rfl (xm_lt ml_91 rfl) ?_
              refine xi_iload_n (pc' := 4) (x := 4) kc_91_3 rfl rfl ?_
              refine xi_iff (pc' := 7) kc_91_4 rfl rfl ?_
              refine xi_iload_n (pc' := 8) (x := 4) kc_91_7 rfl rfl ?_
              refine xi_aload_n (pc' := 9) (x := 0) kc_91_8 rfl rfl ?_
              refine xi_getfield (pc' := 12) (v := .ref 94) kc_91_9 rfl rfl rfl (F 0 _ hl_0) rfl ?_
              refine xi_arraylength (pc' := 13) (n := 7) (v := 7) kc_91_12 rfl (xl_lenI (by decide) (by decide) (F 94 _ hl_94) (by simp only [List.length_replicate, List.length_cons, List.length_nil])) rfl ?_
              refine xi_cmf (pc' := 16) kc_91_13 rfl rfl ?_
              refine xi_aload_n (pc' := 17) (x := 0) kc_91_16 rfl rfl ?_
              refine xi_getfield (pc' := 20) (v := .ref 94) kc_91_17 rfl rfl rfl (F 0 _ hl_0) rfl ?_
              refine xi_iload_n (pc' := 21) (x := 4) kc_91_20 rfl rfl ?_
              refine xi_dup2 (pc' := 22) kc_91_21 rfl ⟨rfl, rfl⟩ ?_
              refine xi_iaload (pc' := 23) (v := 0) kc_91_22 rfl (F 94 _ hl_94) (by decide) rfl (xi_in (n := 7) (by decide) (by decide)) rfl ?_
              refine xi_iconst (pc' := 24) (v := 1) kc_91_23 rfl rfl ?_
              refine xi_iadd (pc' := 25) (v := 1) kc_91_24 rfl rfl ?_
              refine xi_iastore (pc' := 26) (x' := [0, 0, 0, 0, 1, 0, 0]) kc_91_25 rfl (F 94 _ hl_94) rfl (xi_in (n := 7) (by decide) (by decide)) rfl (fun hh1 eh1 => ?_)
              refine xi_iload_n (pc' := 27) (x := (-4)) kc_91_26 rfl rfl ?_
              refine xi_ireturn kc_91_27 mr_91 rfl ?_
              show xw J ov 99 89 (44, [(0, .ref 0), (1, .int a1), (2, .int 2), (3, .int a3)], [.int (-4)], hh1) _
              refine xi_ireturn kc_89_44 mr_89 rfl ?_
              show xw J ov 100 196 (214, [(4, .int 0), (3, .ref 167), (2, .ref 115), (1, .ref 0), (0, .ref 1000000)], [.int (-4)], hh1) _
              refine xi_aload_n (pc' := 215) (x := 115) kc_196_214 rfl rfl ?_
              refine xi_aload_n (pc' := 216) (x := 1000000) kc_196_215 rfl rfl ?_
              refine xi_iload (pc' := 218) (x := 0) kc_196_216 rfl rfl ?_
              refine xi_iconst (pc' := 219) (v := 1) kc_196_218 rfl rfl ?_
              refine xi_iadd (pc' := 220) (v := 1) kc_196_219 rfl rfl ?_
              refine xi_ialoadO (pc' := 221) (v := a1) kc_196_220 rfl (by decide) hov0 (xi_in (n := 6) (by decide) (by decide)) rfl ?_
              refine xi_aload_n (pc' := 222) (x := 1000000) kc_196_221 rfl rfl ?_
              refine xi_iload (pc' := 224) (x := 0) kc_196_222 rfl rfl ?_
              refine xi_iconst (pc' := 225) (v := 2) kc_196_224 rfl rfl ?_
              refine xi_iadd (pc' := 226) (v := 2) kc_196_225 rfl rfl ?_
              refine xi_ialoadO (pc' := 227) (v := 2) kc_196_226 rfl (by decide) hov0 (xi_in (n := 6) (by decide) (by decide)) rfl ?_
              refine xi_aload_n (pc' := 228) (x := 1000000) kc_196_227 rfl rfl ?_
              refine xi_iload (pc' := 230) (x := 0) kc_196_228 rfl rfl ?_
              refine xi_iconst (pc' := 231) (v := 3) kc_196_230 rfl rfl ?_
              refine xi_iadd (pc' := 232) (v := 3) kc_196_231 rfl rfl ?_
              refine xi_ialoadO (pc' := 233) (v := a3) kc_196_232 rfl (by decide) hov0 (xi_in (n := 6) (by decide) (by decide)) rfl ?_
              refine xi_virtual (mj := 10) (as := [.int a1, .int 2, .int a3]) (st1 := [.int (-4)]) (lv0 := [(0, .ref 115), (1, .int a1), (2, .int 2), (3, .int a3)]) kc_196_233 rfl rfl rfl rfl rfl ((eh1.2.1 115 (by decide)).trans (F 115 _ hl_115)) (Nat.le_of_ble_eq_true rfl) (hJ _ _ _ _ (by decide)) (xm_le ml_10 rfl) rfl ?_
              refine xi_aload_n (pc' := 1) (x := 115) kc_10_0 rfl rfl ?_
              refine xi_iconst (pc' := 2) (v := 0) kc_10_1 rfl rfl ?_
              refine xi_putfield (pc' := 5) (fs' := [.int 0, .int 0, .ref 116, .ref 117, .ref 118, .ref 119, .ref 120, .ref 121, .ref 122, .ref 123, .ref 124, .ref 125, .ref 126, .ref 127, .ref 128, .ref 129, .int 4, .ref 130, .int 0, .ref 131, .ref 132, .ref 133, .ref 134, .int 0, .ref 135, .ref 136, .ref 137, .ref 138, .ref 139, .ref 140, .ref 141, .ref 142, .int 0, .int 0, .int 0, .ref 143, .ref 144, .ref 145, .ref 146, .ref 147, .ref 148, .int 0, .ref 149, .ref 150, .ref 151, .int 0, .ref 152, .ref 153, .ref 154, .ref 155, .ref 156, .ref 157, .ref 158, .ref 159, .int 0, .ref 160, .int 0, .ref 161, .ref 162, .ref 163, .ref 164, .int 0, .ref 165, .ref 166]) kc_10_2 rfl rfl rfl ((eh1.2.1 115 (by decide)).trans (F 115 _ hl_115)) rfl rfl rfl (Nat.le_of_ble_eq_true rfl) rfl (fun hh2 eh2 => ?_)
              refine xi_iload_n (pc' := 6) (x := a1) kc_10_5 rfl rfl ?_
              refine xi_static (mj := 11) (as := [.int a1]) (st1 := []) (lv0 := [(0, .int a1)]) kc_10_6 rfl rfl (Nat.le_of_ble_eq_true rfl) rfl rfl (Nat.le_of_ble_eq_true rfl) (hJ _ _ _ _ (by decide)) (xm_le ml_11 rfl) rfl ?_
              refine xi_iload_n (pc' := 1) (x := a1) kc_11_0 rfl rfl ?_
              refine xi_iconst (pc' := 2) (v := 0) kc_11_1 rfl rfl ?_
              refine xi_iconst (pc' := 3) (v := 5) kc_11_2 rfl rfl ?_
              refine xi_static (mj := 12) (as := [.int a1, .int 0, .int 5]) (st1 := []) (lv0 := [(0, .int a1), (1, .int 0), (2, .int 5)]) kc_11_3 rfl rfl (Nat.le_of_ble_eq_true rfl) rfl rfl (Nat.le_of_ble_eq_true rfl) (hJ _ _ _ _ (by decide)) (xm_le ml_12 rfl) rfl ?_
              refine xi_iload_n (pc' := 1) (x := a1) kc_12_0 rfl rfl ?_
              refine xi_iload_n (pc' := 2) (x := 0) kc_12_1 rfl rfl ?_
              refine xi_cmf (pc' := 5) kc_12_2 rfl (xc_lt_f (X := a1.toInt) (Y := 0) rfl (by decide) (by omega)) ?_
              refine xi_iload_n (pc' := 6) (x := a1) kc_12_5 rfl rfl ?_
              refine xi_iload_n (pc' := 7) (x := 5) kc_12_6 rfl rfl ?_
              refine xi_cmf (pc' := 10) kc_12_7 rfl (xc_gt_f (X := a1.toInt) (Y := 5) rfl (by decide) (by omega)) ?_
              refine xi_iconst (pc' := 11) (v := 1) kc_12_10 rfl rfl ?_
              refine xi_goto (pc' := 15) kc_12_11 rfl ?_
              refine xi_ireturn kc_12_15 mr_12 rfl ?_
              show xw J ov 98 11 (6, [(0, .int a1)], [.int 1], hh2) _
              refine xi_ireturn kc_11_6 mr_11 rfl ?_
              show xw J ov 99 10 (9, [(0, .ref 115), (1, .int a1), (2, .int 2), (3, .int a3)], [.int 1], hh2) _
              refine xi_ift (pc' := 18) kc_10_9 rfl rfl ?_
              refine xi_iload_n (pc' := 19) (x := 2) kc_10_18 rfl rfl ?_
              refine xi_iconst (pc' := 20) (v := 0) kc_10_19 rfl rfl ?_
              refine xi_iconst (pc' := 21) (v := 5) kc_10_20 rfl rfl ?_
              refine xi_static (mj := 12) (as := [.int 2, .int 0, .int 5]) (st1 := []) (lv0 := [(0, .int 2), (1, .int 0), (2, .int 5)]) kc_10_21 rfl rfl (Nat.le_of_ble_eq_true rfl) rfl rfl (Nat.le_of_ble_eq_true rfl) (hJ _ _ _ _ (by decide)) (xm_le ml_12 rfl) rfl ?_
              refine xi_iload_n (pc' := 1) (x := 2) kc_12_0 rfl rfl ?_
              refine xi_iload_n (pc' := 2) (x := 0) kc_12_1 rfl rfl ?_
              refine xi_cmf (pc' := 5) kc_12_2 rfl rfl ?_
              refine xi_iload_n (pc' := 6) (x := 2) kc_12_5 rfl rfl ?_
              refine xi_iload_n (pc' := 7) (x := 5) kc_12_6 rfl rfl ?_
              refine xi_cmf (pc' := 10) kc_12_7 rfl rfl ?_
              refine xi_iconst (pc' := 11) (v := 1) kc_12_10 rfl rfl ?_
              refine xi_goto (pc' := 15) kc_12_11 rfl ?_
              refine xi_ireturn kc_12_15 mr_12 rfl ?_
              show xw J ov 99 10 (24, [(0, .ref 115), (1, .int a1), (2, .int 2), (3, .int a3)], [.int 1], hh2) _
              refine xi_ift (pc' := 34) kc_10_24 rfl rfl ?_
              refine xi_iload_n (pc' := 35) (x := a3) kc_10_34 rfl rfl ?_
              refine xi_iload_n (pc' := 36) (x := 2) kc_10_35 rfl rfl ?_
              refine xi_ift (pc' := 44) kc_10_36 rfl rfl ?_
              refine xi_iconst (pc' := 45) (v := 0) kc_10_44 rfl rfl ?_
              refine xi_cmf (pc' := 48) kc_10_45 rfl (xc_ge_f (X := a3.toInt) (Y := 0) rfl (by decide) (by omega)) ?_
              refine xi_aload_n (pc' := 49) (x := 115) kc_10_48 rfl rfl ?_
              refine xi_bipush (pc' := 51) (v := (-4)) kc_10_49 rfl rfl ?_
              refine xi_virtual (mj := 13) (as := [.int (-4)]) (st1 := []) (lv0 := [(0, .ref 115), (1, .int (-4))]) kc_10_51 rfl rfl rfl rfl rfl eh2.1 (Nat.le_of_ble_eq_true rfl) (hJ _ _ _ _ (by decide)) (xm_le ml_13 rfl) rfl ?_
              refine xi_aload_n (pc' := 1) (x := 115) kc_13_0 rfl rfl ?_
              refine xi_getfield (pc' := 4) (v := .ref 140) kc_13_1 rfl rfl rfl eh2.1 rfl ?_
              refine xi_iload_n (pc' := 5) (x := (-4)) kc_13_4 rfl rfl ?_
              refine xi_ineg (pc' := 6) (v := 4) kc_13_5 rfl rfl ?_
              refine xi_dup2 (pc' := 7) kc_13_6 rfl ⟨rfl, rfl⟩ ?_
              refine xi_iaload (pc' := 8) (v := 0) kc_13_7 rfl ((eh2.2.1 140 (by decide)).trans ((eh1.2.1 140 (by decide)).trans (F 140 _ hl_140))) (by decide) rfl (xi_in (n := 7) (by decide) (by decide)) rfl ?_
              refine xi_iconst (pc' := 9) (v := 1) kc_13_8 rfl rfl ?_
              refine xi_iadd (pc' := 10) (v := 1) kc_13_9 rfl rfl ?_
              refine xi_iastore (pc' := 11) (x' := [0, 0, 0, 0, 1, 0, 0]) kc_13_10 rfl ((eh2.2.1 140 (by decide)).trans ((eh1.2.1 140 (by decide)).trans (F 140 _ hl_140))) rfl (xi_in (n := 7) (by decide) (by decide)) rfl (fun hh3 eh3 => ?_)
              refine xi_iload_n (pc' := 12) (x := (-4)) kc_13_11 rfl rfl ?_
              refine xi_ireturn kc_13_12 mr_13 rfl ?_
              show xw J ov 99 10 (54, [(0, .ref 115), (1, .int a1), (2, .int 2), (3, .int a3)], [.int (-4)], hh3) _
              refine xi_ireturn kc_10_54 mr_10 rfl ?_
              show xw J ov 100 196 (236, [(4, .int 0), (3, .ref 167), (2, .ref 115), (1, .ref 0), (0, .ref 1000000)], [.int (-4), .int (-4)], hh3) _
              refine xi_cmt (pc' := 1528) kc_196_236 rfl rfl ?_
              refine xi_iinc (pc' := 1531) (x := 0) (v := 6) (lv' := [(4, .int 6), (3, .ref 167), (2, .ref 115), (1, .ref 0), (0, .ref 1000000)]) kc_196_1528 rfl rfl rfl rfl (xm_lt ml_196 rfl) ?_
              refine xi_goto (pc' := 23) kc_196_1531 rfl ?_
              refine xi_iload (pc' := 25) (x := 6) kc_196_23 rfl rfl ?_
              refine xi_aload_n (pc' := 26) (x := 1000000) kc_196_25 rfl rfl ?_
              refine xi_arraylength (pc' := 27) (n := 6) (v := 6) kc_196_26 rfl (xl_lenO (by decide) hov0 rfl) rfl ?_
              refine xi_bipush (pc' := 29) (v := 6) kc_196_27 rfl rfl ?_
              refine xi_isub (pc' := 30) (v := 0) kc_196_29 rfl rfl ?_
              refine xi_cmt (pc' := 1534) kc_196_30 rfl rfl ?_
              refine xi_iconst (pc' := 1535) (v := 1) kc_196_1534 rfl rfl ?_
              refine xi_ireturn kc_196_1535 mr_196 rfl ?_
              refine ⟨rfl, ?_, ?_⟩
              · rw [eh3.2.2.1, eh2.2.2.1, eh1.2.2.1]; exact hn0
              · rw [eh3.2.2.2, eh2.2.2.2, eh1.2.2.2]; exact hz0
          by_cases c29 : a2.toInt = 3
          · have qa2 : a2 = 3 := xc_of (Eq.trans (by omega) (show (3 : Int) = (3 : Int32).toInt by decide))
            subst qa2
            refine xi_ialoadO (pc' := 35) (v := 0) kc_89_34 rfl (by decide) hov1 (xi_in (n := 6) (by decide) (by decide)) rfl ?_
            by_cases c30 : 0 ≤ a3.toInt
            · refine xi_cmt (pc' := 45) kc_89_35 rfl (xc_ge_t (X := a3.toInt) (Y := 0) rfl (by decide) (by omega)) ?_
              refine xi_iload_n (pc' := 46) (x := a3) kc_89_45 rfl rfl ?_
              refine xi_getstatic (pc' := 49) (j := 1000002) kc_89_46 rfl rfl ?_
              refine xi_iload_n (pc' := 50) (x := 3) kc_89_49 rfl rfl ?_
              refine xi_ialoadO (pc' := 51) (v := 50) kc_89_50 rfl (by decide) hov2 (xi_in (n := 6) (by decide) (by decide)) rfl ?_
              by_cases c31 : a3.toInt ≤ 50
              · refine xi_cmt (pc' := 61) kc_89_51 rfl (xc_le_t (X := a3.toInt) (Y := 50) rfl (by decide) (by omega)) ?_
                refine xi_iload_n (pc' := 62) (x := 3) kc_89_61 rfl rfl ?_
                refine xi_iconst (pc' := 63) (v := 5) kc_89_62 rfl rfl ?_
                refine xi_cmt (pc' := 90) kc_89_63 rfl rfl ?_
                refine xi_aload_n (pc' := 91) (x := 0) kc_89_90 rfl rfl ?_
                refine xi_getfield (pc' := 94) (v := .ref 66) kc_89_91 rfl rfl rfl (F 0 _ hl_0) rfl ?_
                refine xi_virtual (mj := 92) (as := []) (st1 := []) (lv0 := [(0, .ref 66)]) kc_89_94 rfl rfl rfl rfl rfl (F 66 _ hl_66) (Nat.le_of_ble_eq_true rfl) (hJ _ _ _ _ (by decide)) (xm_le ml_92 rfl) rfl ?_
                refine xi_aload_n (pc' := 1) (x := 66) kc_92_0 rfl rfl ?_
                refine xi_lconst (pc' := 2) (v := 0) kc_92_1 rfl rfl ?_
                refine xi_putfield (pc' := 5) (fs' := [.ref 1, .ref 67, .ref 70, .ref 71, .ref 72, .ref 73, .ref 74, .long 0, .int 0]) kc_92_2 rfl rfl rfl (F 66 _ hl_66) rfl rfl rfl (Nat.le_of_ble_eq_true rfl) rfl (fun hh1 eh1 => ?_)
                refine xi_return kc_92_5 mr_92 ?_
                show xw J ov 99 89 (97, [(0, .ref 0), (1, .int a1), (2, .int 3), (3, .int a3)], [], hh1) _
                refine xi_aload_n (pc' := 98) (x := 0) kc_89_97 rfl rfl ?_
                refine xi_getfield (pc' := 101) (v := .ref 1) kc_89_98 rfl rfl rfl ((eh1.2.1 0 (by decide)).trans (F 0 _ hl_0)) rfl ?_
                refine xi_iload_n (pc' := 102) (x := a1) kc_89_101 rfl rfl ?_
                refine xi_iload_n (pc' := 103) (x := 3) kc_89_102 rfl rfl ?_
                refine xi_iload_n (pc' := 104) (x := a3) kc_89_103 rfl rfl ?_
                refine xi_virtual (mj := 93) (as := [.int a1, .int 3, .int a3]) (st1 := []) (lv0 := [(0, .ref 1), (1, .int a1), (2, .int 3), (3, .int a3)]) kc_89_104 rfl rfl rfl rfl rfl ((eh1.2.1 1 (by decide)).trans (F 1 _ hl_1)) (Nat.le_of_ble_eq_true rfl) (hJ _ _ _ _ (by decide)) (xm_le ml_93 rfl) rfl ?_
                refine xi_iload_n (pc' := 1) (x := a1) kc_93_0 rfl rfl ?_
                refine xi_static (mj := 90) (as := [.int a1]) (st1 := []) (lv0 := [(0, .int a1)]) kc_93_1 rfl rfl (Nat.le_of_ble_eq_true rfl) rfl rfl (Nat.le_of_ble_eq_true rfl) (hJ _ _ _ _ (by decide)) (xm_le ml_90 rfl) rfl ?_
                refine xi_iload_n (pc' := 1) (x := a1) kc_90_0 rfl rfl ?_
                refine xi_iff (pc' := 4) kc_90_1 rfl (xc_lt_f (X := a1.toInt) (Y := 0) rfl (by decide) (by omega)) ?_
                refine xi_iload_n (pc' := 5) (x := a1) kc_90_4 rfl rfl ?_
                refine xi_bipush (pc' := 7) (v := 6) kc_90_5 rfl rfl ?_
                refine xi_cmf (pc' := 10) kc_90_7 rfl (xc_ge_f (X := a1.toInt) (Y := 6) rfl (by decide) (by omega)) ?_
                refine xi_iconst (pc' := 11) (v := 1) kc_90_10 rfl rfl ?_
                refine xi_goto (pc' := 15) kc_90_11 rfl ?_
                refine xi_ireturn kc_90_15 mr_90 rfl ?_
                show xw J ov 98 93 (4, [(0, .ref 1), (1, .int a1), (2, .int 3), (3, .int a3)], [.int 1], hh1) _
                refine xi_iff (pc' := 7) kc_93_4 rfl rfl ?_
                refine xi_aload_n (pc' := 8) (x := 1) kc_93_7 rfl rfl ?_
                refine xi_getfield (pc' := 11) (v := .ref 2) kc_93_8 rfl rfl rfl ((eh1.2.1 1 (by decide)).trans (F 1 _ hl_1)) rfl ?_
                refine xi_iload_n (pc' := 12) (x := a1) kc_93_11 rfl rfl ?_
                by_cases c32 : a1.toInt = 0
                · have qa1 : a1 = 0 := xc_of (Eq.trans (by omega) (show (0 : Int) = (0 : Int32).toInt by decide))
                  subst qa1
                  refine xi_aaload (pc' := 13) (b := 11) kc_93_12 rfl ((eh1.2.1 2 (by decide)).trans (F 2 _ hl_2)) rfl (xi_in (n := 6) (by decide) (by decide)) rfl ?_
                  refine xi_iload_n (pc' := 14) (x := 3) kc_93_13 rfl rfl ?_
                  refine xi_iload_n (pc' := 15) (x := a3) kc_93_14 rfl rfl ?_
                  refine xi_virtual (mj := 94) (as := [.int 3, .int a3]) (st1 := []) (lv0 := [(0, .ref 11), (1, .int 3), (2, .int a3)]) kc_93_15 rfl rfl rfl rfl rfl ((eh1.2.1 11 (by decide)).trans (F 11 _ hl_11)) (Nat.le_of_ble_eq_true rfl) (hJ _ _ _ _ (by decide)) (xm_le ml_94 rfl) rfl ?_
                  refine xi_iload_n (pc' := 1) (x := 3) kc_94_0 rfl rfl ?_
                  refine xi_iff (pc' := 4) kc_94_1 rfl rfl ?_
                  refine xi_iload_n (pc' := 5) (x := 3) kc_94_4 rfl rfl ?_
                  refine xi_iconst (pc' := 6) (v := 5) kc_94_5 rfl rfl ?_
                  refine xi_cmt (pc' := 11) kc_94_6 rfl rfl ?_
                  refine xi_aload_n (pc' := 12) (x := 11) kc_94_11 rfl rfl ?_
                  refine xi_getfield (pc' := 15) (v := .ref 12) kc_94_12 rfl rfl rfl ((eh1.2.1 11 (by decide)).trans (F 11 _ hl_11)) rfl ?_
                  refine xi_iload_n (pc' := 16) (x := 3) kc_94_15 rfl rfl ?_
                  refine xi_iaload (pc' := 17) (v := 0) kc_94_16 rfl ((eh1.2.1 12 (by decide)).trans (F 12 _ hl_12)) (by decide) rfl (xi_in (n := 5) (by decide) (by decide)) rfl ?_
                  refine xi_istore_n (pc' := 18) (lv' := [(3, .int 0), (0, .ref 11), (1, .int 3), (2, .int a3)]) kc_94_17 rfl rfl (xm_lt ml_94 rfl) ?_
                  refine xi_aload_n (pc' := 19) (x := 11) kc_94_18 rfl rfl ?_
                  refine xi_getfield (pc' := 22) (v := .ref 12) kc_94_19 rfl rfl rfl ((eh1.2.1 11 (by decide)).trans (F 11 _ hl_11)) rfl ?_
                  refine xi_iload_n (pc' := 23) (x := 3) kc_94_22 rfl rfl ?_
                  refine xi_iload_n (pc' := 24) (x := a3) kc_94_23 rfl rfl ?_
                  refine xi_iastore (pc' := 25) (x' := [40, 18, 10, a3, 0]) kc_94_24 rfl ((eh1.2.1 12 (by decide)).trans (F 12 _ hl_12)) rfl (xi_in (n := 5) (by decide) (by decide)) rfl (fun hh2 eh2 => ?_)
                  refine xi_iload_n (pc' := 26) (x := 0) kc_94_25 rfl rfl ?_
                  refine xi_ireturn kc_94_26 mr_94 rfl ?_
                  show xw J ov 98 93 (18, [(0, .ref 1), (1, .int 0), (2, .int 3), (3, .int a3)], [.int 0], hh2) _
                  refine xi_goto (pc' := 22) kc_93_18 rfl ?_
                  refine xi_ireturn kc_93_22 mr_93 rfl ?_
                  show xw J ov 99 89 (107, [(0, .ref 0), (1, .int 0), (2, .int 3), (3, .int a3)], [.int 0], hh2) _
                  refine xi_ireturn kc_89_107 mr_89 rfl ?_
                  show xw J ov 100 196 (214, [(4, .int 0), (3, .ref 167), (2, .ref 115), (1, .ref 0), (0, .ref 1000000)], [.int 0], hh2) _
                  refine xi_aload_n (pc' := 215) (x := 115) kc_196_214 rfl rfl ?_
                  refine xi_aload_n (pc' := 216) (x := 1000000) kc_196_215 rfl rfl ?_
                  refine xi_iload (pc' := 218) (x := 0) kc_196_216 rfl rfl ?_
                  refine xi_iconst (pc' := 219) (v := 1) kc_196_218 rfl rfl ?_
                  refine xi_iadd (pc' := 220) (v := 1) kc_196_219 rfl rfl ?_
                  refine xi_ialoadO (pc' := 221) (v := 0) kc_196_220 rfl (by decide) hov0 (xi_in (n := 6) (by decide) (by decide)) rfl ?_
                  refine xi_aload_n (pc' := 222) (x := 1000000) kc_196_221 rfl rfl ?_
                  refine xi_iload (pc' := 224) (x := 0) kc_196_222 rfl rfl ?_
                  refine xi_iconst (pc' := 225) (v := 2) kc_196_224 rfl rfl ?_
                  refine xi_iadd (pc' := 226) (v := 2) kc_196_225 rfl rfl ?_
                  refine xi_ialoadO (pc' := 227) (v := 3) kc_196_226 rfl (by decide) hov0 (xi_in (n := 6) (by decide) (by decide)) rfl ?_
                  refine xi_aload_n (pc' := 228) (x := 1000000) kc_196_227 rfl rfl ?_
                  refine xi_iload (pc' := 230) (x := 0) kc_196_228 rfl rfl ?_
                  refine xi_iconst (pc' := 231) (v := 3) kc_196_230 rfl rfl ?_
                  refine xi_iadd (pc' := 232) (v := 3) kc_196_231 rfl rfl ?_
                  refine xi_ialoadO (pc' := 233) (v := a3) kc_196_232 rfl (by decide) hov0 (xi_in (n := 6) (by decide) (by decide)) rfl ?_
                  refine xi_virtual (mj := 10) (as := [.int 0, .int 3, .int a3]) (st1 := [.int 0]) (lv0 := [(0, .ref 115), (1, .int 0), (2, .int 3), (3, .int a3)]) kc_196_233 rfl rfl rfl rfl rfl ((eh2.2.1 115 (by decide)).trans ((eh1.2.1 115 (by decide)).trans (F 115 _ hl_115))) (Nat.le_of_ble_eq_true rfl) (hJ _ _ _ _ (by decide)) (xm_le ml_10 rfl) rfl ?_
                  refine xi_aload_n (pc' := 1) (x := 115) kc_10_0 rfl rfl ?_
                  refine xi_iconst (pc' := 2) (v := 0) kc_10_1 rfl rfl ?_
                  refine xi_putfield (pc' := 5) (fs' := [.int 0, .int 0, .ref 116, .ref 117, .ref 118, .ref 119, .ref 120, .ref 121, .ref 122, .ref 123, .ref 124, .ref 125, .ref 126, .ref 127, .ref 128, .ref 129, .int 4, .ref 130, .int 0, .ref 131, .ref 132, .ref 133, .ref 134, .int 0, .ref 135, .ref 136, .ref 137, .ref 138, .ref 139, .ref 140, .ref 141, .ref 142, .int 0, .int 0, .int 0, .ref 143, .ref 144, .ref 145, .ref 146, .ref 147, .ref 148, .int 0, .ref 149, .ref 150, .ref 151, .int 0, .ref 152, .ref 153, .ref 154, .ref 155, .ref 156, .ref 157, .ref 158, .ref 159, .int 0, .ref 160, .int 0, .ref 161, .ref 162, .ref 163, .ref 164, .int 0, .ref 165, .ref 166]) kc_10_2 rfl rfl rfl ((eh2.2.1 115 (by decide)).trans ((eh1.2.1 115 (by decide)).trans (F 115 _ hl_115))) rfl rfl rfl (Nat.le_of_ble_eq_true rfl) rfl (fun hh3 eh3 => ?_)
                  refine xi_iload_n (pc' := 6) (x := 0) kc_10_5 rfl rfl ?_
                  refine xi_static (mj := 11) (as := [.int 0]) (st1 := []) (lv0 := [(0, .int 0)]) kc_10_6 rfl rfl (Nat.le_of_ble_eq_true rfl) rfl rfl (Nat.le_of_ble_eq_true rfl) (hJ _ _ _ _ (by decide)) (xm_le ml_11 rfl) rfl ?_
                  refine xi_iload_n (pc' := 1) (x := 0) kc_11_0 rfl rfl ?_
                  refine xi_iconst (pc' := 2) (v := 0) kc_11_1 rfl rfl ?_
                  refine xi_iconst (pc' := 3) (v := 5) kc_11_2 rfl rfl ?_
                  refine xi_static (mj := 12) (as := [.int 0, .int 0, .int 5]) (st1 := []) (lv0 := [(0, .int 0), (1, .int 0), (2, .int 5)]) kc_11_3 rfl rfl (Nat.le_of_ble_eq_true rfl) rfl rfl (Nat.le_of_ble_eq_true rfl) (hJ _ _ _ _ (by decide)) (xm_le ml_12 rfl) rfl ?_
                  refine xi_iload_n (pc' := 1) (x := 0) kc_12_0 rfl rfl ?_
                  refine xi_iload_n (pc' := 2) (x := 0) kc_12_1 rfl rfl ?_
                  refine xi_cmf (pc' := 5) kc_12_2 rfl rfl ?_
                  refine xi_iload_n (pc' := 6) (x := 0) kc_12_5 rfl rfl ?_
                  refine xi_iload_n (pc' := 7) (x := 5) kc_12_6 rfl rfl ?_
                  refine xi_cmf (pc' := 10) kc_12_7 rfl rfl ?_
                  refine xi_iconst (pc' := 11) (v := 1) kc_12_10 rfl rfl ?_
                  refine xi_goto (pc' := 15) kc_12_11 rfl ?_
                  refine xi_ireturn kc_12_15 mr_12 rfl ?_
                  show xw J ov 98 11 (6, [(0, .int 0)], [.int 1], hh3) _
                  refine xi_ireturn kc_11_6 mr_11 rfl ?_
                  show xw J ov 99 10 (9, [(0, .ref 115), (1, .int 0), (2, .int 3), (3, .int a3)], [.int 1], hh3) _
                  refine xi_ift (pc' := 18) kc_10_9 rfl rfl ?_
                  refine xi_iload_n (pc' := 19) (x := 3) kc_10_18 rfl rfl ?_
                  refine xi_iconst (pc' := 20) (v := 0) kc_10_19 rfl rfl ?_
                  refine xi_iconst (pc' := 21) (v := 5) kc_10_20 rfl rfl ?_
                  refine xi_static (mj := 12) (as := [.int 3, .int 0, .int 5]) (st1 := []) (lv0 := [(0, .int 3), (1, .int 0), (2, .int 5)]) kc_10_21 rfl rfl (Nat.le_of_ble_eq_true rfl) rfl rfl (Nat.le_of_ble_eq_true rfl) (hJ _ _ _ _ (by decide)) (xm_le ml_12 rfl) rfl ?_
                  refine xi_iload_n (pc' := 1) (x := 3) kc_12_0 rfl rfl ?_
                  refine xi_iload_n (pc' := 2) (x := 0) kc_12_1 rfl rfl ?_
                  refine xi_cmf (pc' := 5) kc_12_2 rfl rfl ?_
                  refine xi_iload_n (pc' := 6) (x := 3) kc_12_5 rfl rfl ?_
                  refine xi_iload_n (pc' := 7) (x := 5) kc_12_6 rfl rfl ?_
                  refine xi_cmf (pc' := 10) kc_12_7 rfl rfl ?_
                  refine xi_iconst (pc' := 11) (v := 1) kc_12_10 rfl rfl ?_
                  refine xi_goto (pc' := 15) kc_12_11 rfl ?_
                  refine xi_ireturn kc_12_15 mr_12 rfl ?_
                  show xw J ov 99 10 (24, [(0, .ref 115), (1, .int 0), (2, .int 3), (3, .int a3)], [.int 1], hh3) _
                  refine xi_ift (pc' := 34) kc_10_24 rfl rfl ?_
                  refine xi_iload_n (pc' := 35) (x := a3) kc_10_34 rfl rfl ?_
                  refine xi_iload_n (pc' := 36) (x := 3) kc_10_35 rfl rfl ?_
                  refine xi_ift (pc' := 44) kc_10_36 rfl rfl ?_
                  refine xi_iconst (pc' := 45) (v := 0) kc_10_44 rfl rfl ?_
                  refine xi_cmt (pc' := 55) kc_10_45 rfl (xc_ge_t (X := a3.toInt) (Y := 0) rfl (by decide) (by omega)) ?_
                  refine xi_iload_n (pc' := 56) (x := a3) kc_10_55 rfl rfl ?_
                  refine xi_iload_n (pc' := 57) (x := 3) kc_10_56 rfl rfl ?_
                  refine xi_ift (pc' := 65) kc_10_57 rfl rfl ?_
                  refine xi_iload_n (pc' := 66) (x := 3) kc_10_65 rfl rfl ?_
                  refine xi_iconst (pc' := 67) (v := 1) kc_10_66 rfl rfl ?_
                  refine xi_cmt (pc' := 75) kc_10_67 rfl rfl ?_
                  refine xi_iload_n (pc' := 76) (x := 3) kc_10_75 rfl rfl ?_
                  refine xi_iconst (pc' := 77) (v := 4) kc_10_76 rfl rfl ?_
                  refine xi_cmf (pc' := 80) kc_10_77 rfl rfl ?_
                  refine xi_bipush (pc' := 82) (v := 50) kc_10_80 rfl rfl ?_
                  refine xi_goto (pc' := 96) kc_10_82 rfl ?_
                  refine xi_cmt (pc' := 106) kc_10_96 rfl (xc_le_t (X := a3.toInt) (Y := 50) rfl (by decide) (by omega)) ?_
                  refine xi_aload_n (pc' := 107) (x := 115) kc_10_106 rfl rfl ?_
                  refine xi_iload_n (pc' := 108) (x := 0) kc_10_107 rfl rfl ?_
                  refine xi_iload_n (pc' := 109) (x := 3) kc_10_108 rfl rfl ?_
                  refine xi_virtual (mj := 14) (as := [.int 0, .int 3]) (st1 := []) (lv0 := [(0, .ref 115), (1, .int 0), (2, .int 3)]) kc_10_109 rfl rfl rfl rfl rfl eh3.1 (Nat.le_of_ble_eq_true rfl) (hJ _ _ _ _ (by decide)) (xm_le ml_14 rfl) rfl ?_
                  refine xi_iload_n (pc' := 1) (x := 3) kc_14_0 rfl rfl ?_
                  refine xi_tsi (pc' := 57) (z := 3) kc_14_1 (rfl) rfl (by decide) ?_
                  refine xi_aload_n (pc' := 58) (x := 115) kc_14_57 rfl rfl ?_
                  refine xi_getfield (pc' := 61) (v := .ref 119) kc_14_58 rfl rfl rfl eh3.1 rfl ?_
                  refine xi_iload_n (pc' := 62) (x := 0) kc_14_61 rfl rfl ?_
                  refine xi_iaload (pc' := 63) (v := 0) kc_14_62 rfl ((eh3.2.1 119 (by decide)).trans ((eh2.2.1 119 (by decide)).trans ((eh1.2.1 119 (by decide)).trans (F 119 _ hl_119)))) (by decide) rfl (xi_in (n := 6) (by decide) (by decide)) rfl ?_
                  refine xi_ireturn kc_14_63 mr_14 rfl ?_
                  show xw J ov 99 10 (112, [(0, .ref 115), (1, .int 0), (2, .int 3), (3, .int a3)], [.int 0], hh3) _
                  refine xi_istore (pc' := 114) (lv' := [(4, .int 0), (0, .ref 115), (1, .int 0), (2, .int 3), (3, .int a3)]) kc_10_112 rfl rfl (xm_lt ml_10 rfl) ?_
                  refine xi_aload_n (pc' := 115) (x := 115) kc_10_114 rfl rfl ?_
                  refine xi_iload_n (pc' := 116) (x := 0) kc_10_115 rfl rfl ?_
                  refine xi_iload_n (pc' := 117) (x := 3) kc_10_116 rfl rfl ?_
                  refine xi_iload_n (pc' := 118) (x := a3) kc_10_117 rfl rfl ?_
                  refine xi_virtual (mj := 15) (as := [.int 0, .int 3, .int a3]) (st1 := []) (lv0 := [(0, .ref 115), (1, .int 0), (2, .int 3), (3, .int a3)]) kc_10_118 rfl rfl rfl rfl rfl eh3.1 (Nat.le_of_ble_eq_true rfl) (hJ _ _ _ _ (by decide)) (xm_le ml_15 rfl) rfl ?_
                  refine xi_aload_n (pc' := 1) (x := 115) kc_15_0 rfl rfl ?_
                  refine xi_getfield (pc' := 4) (v := .ref 116) kc_15_1 rfl rfl rfl eh3.1 rfl ?_
                  refine xi_iload_n (pc' := 5) (x := 0) kc_15_4 rfl rfl ?_
                  refine xi_iload_n (pc' := 6) (x := 3) kc_15_5 rfl rfl ?_
                  refine xi_ift (pc' := 13) kc_15_6 rfl rfl ?_
                  refine xi_aload_n (pc' := 14) (x := 115) kc_15_13 rfl rfl ?_
                  refine xi_getfield (pc' := 17) (v := .ref 116) kc_15_14 rfl rfl rfl eh3.1 rfl ?_
                  refine xi_iload_n (pc' := 18) (x := 0) kc_15_17 rfl rfl ?_
                  refine xi_iaload (pc' := 19) (v := 40) kc_15_18 rfl ((eh3.2.1 116 (by decide)).trans ((eh2.2.1 116 (by decide)).trans ((eh1.2.1 116 (by decide)).trans (F 116 _ hl_116)))) (by decide) rfl (xi_in (n := 6) (by decide) (by decide)) rfl ?_
                  refine xi_iastore (pc' := 20) (x' := [40, 40, 40, 40, 40, 40]) kc_15_19 rfl ((eh3.2.1 116 (by decide)).trans ((eh2.2.1 116 (by decide)).trans ((eh1.2.1 116 (by decide)).trans (F 116 _ hl_116)))) rfl (xi_in (n := 6) (by decide) (by decide)) rfl (fun hh4 eh4 => ?_)
                  refine xi_aload_n (pc' := 21) (x := 115) kc_15_20 rfl rfl ?_
                  refine xi_getfield (pc' := 24) (v := .ref 117) kc_15_21 rfl rfl rfl ((eh4.2.1 115 (by decide)).trans eh3.1) rfl ?_
                  refine xi_iload_n (pc' := 25) (x := 0) kc_15_24 rfl rfl ?_
                  refine xi_iload_n (pc' := 26) (x := 3) kc_15_25 rfl rfl ?_
                  refine xi_iconst (pc' := 27) (v := 1) kc_15_26 rfl rfl ?_
                  refine xi_cmt (pc' := 34) kc_15_27 rfl rfl ?_
                  refine xi_aload_n (pc' := 35) (x := 115) kc_15_34 rfl rfl ?_
                  refine xi_getfield (pc' := 38) (v := .ref 117) kc_15_35 rfl rfl rfl ((eh4.2.1 115 (by decide)).trans eh3.1) rfl ?_
                  refine xi_iload_n (pc' := 39) (x := 0) kc_15_38 rfl rfl ?_
                  refine xi_iaload (pc' := 40) (v := 18) kc_15_39 rfl ((eh4.2.1 117 (by decide)).trans ((eh3.2.1 117 (by decide)).trans ((eh2.2.1 117 (by decide)).trans ((eh1.2.1 117 (by decide)).trans (F 117 _ hl_117))))) (by decide) rfl (xi_in (n := 6) (by decide) (by decide)) rfl ?_
                  refine xi_iastore (pc' := 41) (x' := [18, 18, 18, 18, 18, 18]) kc_15_40 rfl ((eh4.2.1 117 (by decide)).trans ((eh3.2.1 117 (by decide)).trans ((eh2.2.1 117 (by decide)).trans ((eh1.2.1 117 (by decide)).trans (F 117 _ hl_117))))) rfl (xi_in (n := 6) (by decide) (by decide)) rfl (fun hh5 eh5 => ?_)
                  refine xi_aload_n (pc' := 42) (x := 115) kc_15_41 rfl rfl ?_
                  refine xi_getfield (pc' := 45) (v := .ref 118) kc_15_42 rfl rfl rfl ((eh5.2.1 115 (by decide)).trans ((eh4.2.1 115 (by decide)).trans eh3.1)) rfl ?_
                  refine xi_iload_n (pc' := 46) (x := 0) kc_15_45 rfl rfl ?_
                  refine xi_iload_n (pc' := 47) (x := 3) kc_15_46 rfl rfl ?_
                  refine xi_iconst (pc' := 48) (v := 2) kc_15_47 rfl rfl ?_
                  refine xi_cmt (pc' := 55) kc_15_48 rfl rfl ?_
                  refine xi_aload_n (pc' := 56) (x := 115) kc_15_55 rfl rfl ?_
                  refine xi_getfield (pc' := 59) (v := .ref 118) kc_15_56 rfl rfl rfl ((eh5.2.1 115 (by decide)).trans ((eh4.2.1 115 (by decide)).trans eh3.1)) rfl ?_
                  refine xi_iload_n (pc' := 60) (x := 0) kc_15_59 rfl rfl ?_
                  refine xi_iaload (pc' := 61) (v := 10) kc_15_60 rfl ((eh5.2.1 118 (by decide)).trans ((eh4.2.1 118 (by decide)).trans ((eh3.2.1 118 (by decide)).trans ((eh2.2.1 118 (by decide)).trans ((eh1.2.1 118 (by decide)).trans (F 118 _ hl_118)))))) (by decide) rfl (xi_in (n := 6) (by decide) (by decide)) rfl ?_
                  refine xi_iastore (pc' := 62) (x' := [10, 10, 10, 10, 10, 10]) kc_15_61 rfl ((eh5.2.1 118 (by decide)).trans ((eh4.2.1 118 (by decide)).trans ((eh3.2.1 118 (by decide)).trans ((eh2.2.1 118 (by decide)).trans ((eh1.2.1 118 (by decide)).trans (F 118 _ hl_118)))))) rfl (xi_in (n := 6) (by decide) (by decide)) rfl (fun hh6 eh6 => ?_)
                  refine xi_aload_n (pc' := 63) (x := 115) kc_15_62 rfl rfl ?_
                  refine xi_getfield (pc' := 66) (v := .ref 119) kc_15_63 rfl rfl rfl ((eh6.2.1 115 (by decide)).trans ((eh5.2.1 115 (by decide)).trans ((eh4.2.1 115 (by decide)).trans eh3.1))) rfl ?_
                  refine xi_iload_n (pc' := 67) (x := 0) kc_15_66 rfl rfl ?_
                  refine xi_iload_n (pc' := 68) (x := 3) kc_15_67 rfl rfl ?_
                  refine xi_iconst (pc' := 69) (v := 3) kc_15_68 rfl rfl ?_
                  refine xi_cmf (pc' := 72) kc_15_69 rfl rfl ?_
                  refine xi_iload_n (pc' := 73) (x := a3) kc_15_72 rfl rfl ?_
                  refine xi_goto (pc' := 82) kc_15_73 rfl ?_
                  refine xi_iastore (pc' := 83) (x' := [a3, 0, 0, 0, 0, 0]) kc_15_82 rfl ((eh6.2.1 119 (by decide)).trans ((eh5.2.1 119 (by decide)).trans ((eh4.2.1 119 (by decide)).trans ((eh3.2.1 119 (by decide)).trans ((eh2.2.1 119 (by decide)).trans ((eh1.2.1 119 (by decide)).trans (F 119 _ hl_119))))))) rfl (xi_in (n := 6) (by decide) (by decide)) rfl (fun hh7 eh7 => ?_)
                  refine xi_aload_n (pc' := 84) (x := 115) kc_15_83 rfl rfl ?_
                  refine xi_getfield (pc' := 87) (v := .ref 120) kc_15_84 rfl rfl rfl ((eh7.2.1 115 (by decide)).trans ((eh6.2.1 115 (by decide)).trans ((eh5.2.1 115 (by decide)).trans ((eh4.2.1 115 (by decide)).trans eh3.1)))) rfl ?_
                  refine xi_iload_n (pc' := 88) (x := 0) kc_15_87 rfl rfl ?_
                  refine xi_iload_n (pc' := 89) (x := 3) kc_15_88 rfl rfl ?_
                  refine xi_iconst (pc' := 90) (v := 4) kc_15_89 rfl rfl ?_
                  refine xi_cmt (pc' := 97) kc_15_90 rfl rfl ?_
                  refine xi_aload_n (pc' := 98) (x := 115) kc_15_97 rfl rfl ?_
                  refine xi_getfield (pc' := 101) (v := .ref 120) kc_15_98 rfl rfl rfl ((eh7.2.1 115 (by decide)).trans ((eh6.2.1 115 (by decide)).trans ((eh5.2.1 115 (by decide)).trans ((eh4.2.1 115 (by decide)).trans eh3.1)))) rfl ?_
                  refine xi_iload_n (pc' := 102) (x := 0) kc_15_101 rfl rfl ?_
                  refine xi_iaload (pc' := 103) (v := 0) kc_15_102 rfl ((eh7.2.1 120 (by decide)).trans ((eh6.2.1 120 (by decide)).trans ((eh5.2.1 120 (by decide)).trans ((eh4.2.1 120 (by decide)).trans ((eh3.2.1 120 (by decide)).trans ((eh2.2.1 120 (by decide)).trans ((eh1.2.1 120 (by decide)).trans (F 120 _ hl_120)))))))) (by decide) rfl (xi_in (n := 6) (by decide) (by decide)) rfl ?_
                  refine xi_iastore (pc' := 104) (x' := [0, 0, 0, 0, 0, 0]) kc_15_103 rfl ((eh7.2.1 120 (by decide)).trans ((eh6.2.1 120 (by decide)).trans ((eh5.2.1 120 (by decide)).trans ((eh4.2.1 120 (by decide)).trans ((eh3.2.1 120 (by decide)).trans ((eh2.2.1 120 (by decide)).trans ((eh1.2.1 120 (by decide)).trans (F 120 _ hl_120)))))))) rfl (xi_in (n := 6) (by decide) (by decide)) rfl (fun hh8 eh8 => ?_)
                  refine xi_aload_n (pc' := 105) (x := 115) kc_15_104 rfl rfl ?_
                  refine xi_getfield (pc' := 108) (v := .ref 121) kc_15_105 rfl rfl rfl ((eh8.2.1 115 (by decide)).trans ((eh7.2.1 115 (by decide)).trans ((eh6.2.1 115 (by decide)).trans ((eh5.2.1 115 (by decide)).trans ((eh4.2.1 115 (by decide)).trans eh3.1))))) rfl ?_
                  refine xi_iload_n (pc' := 109) (x := 0) kc_15_108 rfl rfl ?_
                  refine xi_iload_n (pc' := 110) (x := 3) kc_15_109 rfl rfl ?_
                  refine xi_iconst (pc' := 111) (v := 5) kc_15_110 rfl rfl ?_
                  refine xi_cmt (pc' := 118) kc_15_111 rfl rfl ?_
                  refine xi_aload_n (pc' := 119) (x := 115) kc_15_118 rfl rfl ?_
                  refine xi_getfield (pc' := 122) (v := .ref 121) kc_15_119 rfl rfl rfl ((eh8.2.1 115 (by decide)).trans ((eh7.2.1 115 (by decide)).trans ((eh6.2.1 115 (by decide)).trans ((eh5.2.1 115 (by decide)).trans ((eh4.2.1 115 (by decide)).trans eh3.1))))) rfl ?_
                  refine xi_iload_n (pc' := 123) (x := 0) kc_15_122 rfl rfl ?_
                  refine xi_iaload (pc' := 124) (v := 0) kc_15_123 rfl ((eh8.2.1 121 (by decide)).trans ((eh7.2.1 121 (by decide)).trans ((eh6.2.1 121 (by decide)).trans ((eh5.2.1 121 (by decide)).trans ((eh4.2.1 121 (by decide)).trans ((eh3.2.1 121 (by decide)).trans ((eh2.2.1 121 (by decide)).trans ((eh1.2.1 121 (by decide)).trans (F 121 _ hl_121))))))))) (by decide) rfl (xi_in (n := 6) (by decide) (by decide)) rfl ?_
                  refine xi_iastore (pc' := 125) (x' := [0, 0, 0, 0, 0, 0]) kc_15_124 rfl ((eh8.2.1 121 (by decide)).trans ((eh7.2.1 121 (by decide)).trans ((eh6.2.1 121 (by decide)).trans ((eh5.2.1 121 (by decide)).trans ((eh4.2.1 121 (by decide)).trans ((eh3.2.1 121 (by decide)).trans ((eh2.2.1 121 (by decide)).trans ((eh1.2.1 121 (by decide)).trans (F 121 _ hl_121))))))))) rfl (xi_in (n := 6) (by decide) (by decide)) rfl (fun hh9 eh9 => ?_)
                  refine xi_aload_n (pc' := 126) (x := 115) kc_15_125 rfl rfl ?_
                  refine xi_iconst (pc' := 127) (v := 0) kc_15_126 rfl rfl ?_
                  refine xi_putfield (pc' := 130) (fs' := [.int 0, .int 0, .ref 116, .ref 117, .ref 118, .ref 119, .ref 120, .ref 121, .ref 122, .ref 123, .ref 124, .ref 125, .ref 126, .ref 127, .ref 128, .ref 129, .int 4, .ref 130, .int 0, .ref 131, .ref 132, .ref 133, .ref 134, .int 0, .ref 135, .ref 136, .ref 137, .ref 138, .ref 139, .ref 140, .ref 141, .ref 142, .int 0, .int 0, .int 0, .ref 143, .ref 144, .ref 145, .ref 146, .ref 147, .ref 148, .int 0, .ref 149, .ref 150, .ref 151, .int 0, .ref 152, .ref 153, .ref 154, .ref 155, .ref 156, .ref 157, .ref 158, .ref 159, .int 0, .ref 160, .int 0, .ref 161, .ref 162, .ref 163, .ref 164, .int 0, .ref 165, .ref 166]) kc_15_127 rfl rfl rfl ((eh9.2.1 115 (by decide)).trans ((eh8.2.1 115 (by decide)).trans ((eh7.2.1 115 (by decide)).trans ((eh6.2.1 115 (by decide)).trans ((eh5.2.1 115 (by decide)).trans ((eh4.2.1 115 (by decide)).trans eh3.1)))))) rfl rfl rfl (Nat.le_of_ble_eq_true rfl) rfl (fun hh10 eh10 => ?_)
                  refine xi_return kc_15_130 mr_15 ?_
                  show xw J ov 99 10 (121, [(4, .int 0), (0, .ref 115), (1, .int 0), (2, .int 3), (3, .int a3)], [], hh10) _
                  refine xi_iload (pc' := 123) (x := 0) kc_10_121 rfl rfl ?_
                  refine xi_ireturn kc_10_123 mr_10 rfl ?_
                  show xw J ov 100 196 (236, [(4, .int 0), (3, .ref 167), (2, .ref 115), (1, .ref 0), (0, .ref 1000000)], [.int 0, .int 0], hh10) _
                  refine xi_cmt (pc' := 1528) kc_196_236 rfl rfl ?_
                  refine xi_iinc (pc' := 1531) (x := 0) (v := 6) (lv' := [(4, .int 6), (3, .ref 167), (2, .ref 115), (1, .ref 0), (0, .ref 1000000)]) kc_196_1528 rfl rfl rfl rfl (xm_lt ml_196 rfl) ?_
                  refine xi_goto (pc' := 23) kc_196_1531 rfl ?_
                  refine xi_iload (pc' := 25) (x := 6) kc_196_23 rfl rfl ?_
                  refine xi_aload_n (pc' := 26) (x := 1000000) kc_196_25 rfl rfl ?_
                  refine xi_arraylength (pc' := 27) (n := 6) (v := 6) kc_196_26 rfl (xl_lenO (by decide) hov0 rfl) rfl ?_
                  refine xi_bipush (pc' := 29) (v := 6) kc_196_27 rfl rfl ?_
                  refine xi_isub (pc' := 30) (v := 0) kc_196_29 rfl rfl ?_
                  refine xi_cmt (pc' := 1534) kc_196_30 rfl rfl ?_
                  refine xi_iconst (pc' := 1535) (v := 1) kc_196_1534 rfl rfl ?_
                  refine xi_ireturn kc_196_1535 mr_196 rfl ?_
                  refine ⟨rfl, ?_, ?_⟩
                  · rw [eh10.2.2.1, eh9.2.2.1, eh8.2.2.1, eh7.2.2.1, eh6.2.2.1, eh5.2.2.1, eh4.2.2.1, eh3.2.2.1, eh2.2.2.1, eh1.2.2.1]; exact hn0
                  · rw [eh10.2.2.2, eh9.2.2.2, eh8.2.2.2, eh7.2.2.2, eh6.2.2.2, eh5.2.2.2, eh4.2.2.2, eh3.2.2.2, eh2.2.2.2, eh1.2.2.2]; exact hz0
                by_cases c33 : a1.toInt = 1
                · have qa1 : a1 = 1 := xc_of (Eq.trans (by omega) (show (1 : Int) = (1 : Int32).toInt by decide))
                  subst qa1
                  refine xi_aaload (pc' := 13) (b := 14) kc_93_12 rfl ((eh1.2.1 2 (by decide)).trans (F 2 _ hl_2)) rfl (xi_in (n := 6) (by decide) (by decide)) rfl ?_
                  refine xi_iload_n (pc' := 14) (x := 3) kc_93_13 rfl rfl ?_
                  refine xi_iload_n (pc' := 15) (x := a3) kc_93_14 rfl rfl ?_
                  refine xi_virtual (mj := 94) (as := [.int 3, .int a3]) (st1 := []) (lv0 := [(0, .ref 14), (1, .int 3), (2, .int a3)]) kc_93_15 rfl rfl rfl rfl rfl ((eh1.2.1 14 (by decide)).trans (F 14 _ hl_14)) (Nat.le_of_ble_eq_true rfl) (hJ _ _ _ _ (by decide)) (xm_le ml_94 rfl) rfl ?_
                  refine xi_iload_n (pc' := 1) (x := 3) kc_94_0 rfl rfl ?_
                  refine xi_iff (pc' := 4) kc_94_1 rfl rfl ?_
                  refine xi_iload_n (pc' := 5) (x := 3) kc_94_4 rfl rfl ?_
                  refine xi_iconst (pc' := 6) (v := 5) kc_94_5 rfl rfl ?_
                  refine xi_cmt (pc' := 11) kc_94_6 rfl rfl ?_
                  refine xi_aload_n (pc' := 12) (x := 14) kc_94_11 rfl rfl ?_
                  refine xi_getfield (pc' := 15) (v := .ref 15) kc_94_12 rfl rfl rfl ((eh1.2.1 14 (by decide)).trans (F 14 _ hl_14)) rfl ?_
                  refine xi_iload_n (pc' := 16) (x := 3) kc_94_15 rfl rfl ?_
                  refine xi_iaload (pc' := 17) (v := 0) kc_94_16 rfl ((eh1.2.1 15 (by decide)).trans (F 15 _ hl_15)) (by decide) rfl (xi_in (n := 5) (by decide) (by decide)) rfl ?_
                  refine xi_istore_n (pc' := 18) (lv' := [(3, .int 0), (0, .ref 14), (1, .int 3), (2, .int a3)]) kc_94_17 rfl rfl (xm_lt ml_94 rfl) ?_
                  refine xi_aload_n (pc' := 19) (x := 14) kc_94_18 rfl rfl ?_
                  refine xi_getfield (pc' := 22) (v := .ref 15) kc_94_19 rfl rfl rfl ((eh1.2.1 14 (by decide)).trans (F 14 _ hl_14)) rfl ?_
                  refine xi_iload_n (pc' := 23) (x := 3) kc_94_22 rfl rfl ?_
                  refine xi_iload_n (pc' := 24) (x := a3) kc_94_23 rfl rfl ?_
                  refine xi_iastore (pc' := 25) (x' := [40, 18, 10, a3, 0]) kc_94_24 rfl ((eh1.2.1 15 (by decide)).trans (F 15 _ hl_15)) rfl (xi_in (n := 5) (by decide) (by decide)) rfl (fun hh2 eh2 => ?_)
                  refine xi_iload_n (pc' := 26) (x := 0) kc_94_25 rfl rfl ?_
                  refine xi_ireturn kc_94_26 mr_94 rfl ?_
                  show xw J ov 98 93 (18, [(0, .ref 1), (1, .int 1), (2, .int 3), (3, .int a3)], [.int 0], hh2) _
                  refine xi_goto (pc' := 22) kc_93_18 rfl ?_
                  refine xi_ireturn kc_93_22 mr_93 rfl ?_
                  show xw J ov 99 89 (107, [(0, .ref 0), (1, .int 1), (2, .int 3), (3, .int a3)], [.int 0], hh2) _
                  refine xi_ireturn kc_89_107 mr_89 rfl ?_
                  show xw J ov 100 196 (214, [(4, .int 0), (3, .ref 167), (2, .ref 115), (1, .ref 0), (0, .ref 1000000)], [.int 0], hh2) _
                  refine xi_aload_n (pc' := 215) (x := 115) kc_196_214 rfl rfl ?_
                  refine xi_aload_n (pc' := 216) (x := 1000000) kc_196_215 rfl rfl ?_
                  refine xi_iload (pc' := 218) (x := 0) kc_196_216 rfl rfl ?_
                  refine xi_iconst (pc' := 219) (v := 1) kc_196_218 rfl rfl ?_
                  refine xi_iadd (pc' := 220) (v := 1) kc_196_219 rfl rfl ?_
                  refine xi_ialoadO (pc' := 221) (v := 1) kc_196_220 rfl (by decide) hov0 (xi_in (n := 6) (by decide) (by decide)) rfl ?_
                  refine xi_aload_n (pc' := 222) (x := 1000000) kc_196_221 rfl rfl ?_
                  refine xi_iload (pc' := 224) (x := 0) kc_196_222 rfl rfl ?_
                  refine xi_iconst (pc' := 225) (v := 2) kc_196_224 rfl rfl ?_
                  refine xi_iadd (pc' := 226) (v := 2) kc_196_225 rfl rfl ?_
                  refine xi_ialoadO (pc' := 227) (v := 3) kc_196_226 rfl (by decide) hov0 (xi_in (n := 6) (by decide) (by decide)) rfl ?_
                  refine xi_aload_n (pc' := 228) (x := 1000000) kc_196_227 rfl rfl ?_
                  refine xi_iload (pc' := 230) (x := 0) kc_196_228 rfl rfl ?_
                  refine xi_iconst (pc' := 231) (v := 3) kc_196_230 rfl rfl ?_
                  refine xi_iadd (pc' := 232) (v := 3) kc_196_231 rfl rfl ?_
                  refine xi_ialoadO (pc' := 233) (v := a3) kc_196_232 rfl (by decide) hov0 (xi_in (n := 6) (by decide) (by decide)) rfl ?_
                  refine xi_virtual (mj := 10) (as := [.int 1, .int 3, .int a3]) (st1 := [.int 0]) (lv0 := [(0, .ref 115), (1, .int 1), (2, .int 3), (3, .int a3)]) kc_196_233 rfl rfl rfl rfl rfl ((eh2.2.1 115 (by decide)).trans ((eh1.2.1 115 (by decide)).trans (F 115 _ hl_115))) (Nat.le_of_ble_eq_true rfl) (hJ _ _ _ _ (by decide)) (xm_le ml_10 rfl) rfl ?_
                  refine xi_aload_n (pc' := 1) (x := 115) kc_10_0 rfl rfl ?_
                  refine xi_iconst (pc' := 2) (v := 0) kc_10_1 rfl rfl ?_
                  refine xi_putfield (pc' := 5) (fs' := [.int 0, .int 0, .ref 116, .ref 117, .ref 118, .ref 119, .ref 120, .ref 121, .ref 122, .ref 123, .ref 124, .ref 125, .ref 126, .ref 127, .ref 128, .ref 129, .int 4, .ref 130, .int 0, .ref 131, .ref 132, .ref 133, .ref 134, .int 0, .ref 135, .ref 136, .ref 137, .ref 138, .ref 139, .ref 140, .ref 141, .ref 142, .int 0, .int 0, .int 0, .ref 143, .ref 144, .ref 145, .ref 146, .ref 147, .ref 148, .int 0, .ref 149, .ref 150, .ref 151, .int 0, .ref 152, .ref 153, .ref 154, .ref 155, .ref 156, .ref 157, .ref 158, .ref 159, .int 0, .ref 160, .int 0, .ref 161, .ref 162, .ref 163, .ref 164, .int 0, .ref 165, .ref 166]) kc_10_2 rfl rfl rfl ((eh2.2.1 115 (by decide)).trans ((eh1.2.1 115 (by decide)).trans (F 115 _ hl_115))) rfl rfl rfl (Nat.le_of_ble_eq_true rfl) rfl (fun hh3 eh3 => ?_)
                  refine xi_iload_n (pc' := 6) (x := 1) kc_10_5 rfl rfl ?_
                  refine xi_static (mj := 11) (as := [.int 1]) (st1 := []) (lv0 := [(0, .int 1)]) kc_10_6 rfl rfl (Nat.le_of_ble_eq_true rfl) rfl rfl (Nat.le_of_ble_eq_true rfl) (hJ _ _ _ _ (by decide)) (xm_le ml_11 rfl) rfl ?_
                  refine xi_iload_n (pc' := 1) (x := 1) kc_11_0 rfl rfl ?_
                  refine xi_iconst (pc' := 2) (v := 0) kc_11_1 rfl rfl ?_
                  refine xi_iconst (pc' := 3) (v := 5) kc_11_2 rfl rfl ?_
                  refine xi_static (mj := 12) (as := [.int 1, .int 0, .int 5]) (st1 := []) (lv0 := [(0, .int 1), (1, .int 0), (2, .int 5)]) kc_11_3 rfl rfl (Nat.le_of_ble_eq_true rfl) rfl rfl (Nat.le_of_ble_eq_true rfl) (hJ _ _ _ _ (by decide)) (xm_le ml_12 rfl) rfl ?_
                  refine xi_iload_n (pc' := 1) (x := 1) kc_12_0 rfl rfl ?_
                  refine xi_iload_n (pc' := 2) (x := 0) kc_12_1 rfl rfl ?_
                  refine xi_cmf (pc' := 5) kc_12_2 rfl rfl ?_
                  refine xi_iload_n (pc' := 6) (x := 1) kc_12_5 rfl rfl ?_
                  refine xi_iload_n (pc' := 7) (x := 5) kc_12_6 rfl rfl ?_
                  refine xi_cmf (pc' := 10) kc_12_7 rfl rfl ?_
                  refine xi_iconst (pc' := 11) (v := 1) kc_12_10 rfl rfl ?_
                  refine xi_goto (pc' := 15) kc_12_11 rfl ?_
                  refine xi_ireturn kc_12_15 mr_12 rfl ?_
                  show xw J ov 98 11 (6, [(0, .int 1)], [.int 1], hh3) _
                  refine xi_ireturn kc_11_6 mr_11 rfl ?_
                  show xw J ov 99 10 (9, [(0, .ref 115), (1, .int 1), (2, .int 3), (3, .int a3)], [.int 1], hh3) _
                  refine xi_ift (pc' := 18) kc_10_9 rfl rfl ?_
                  refine xi_iload_n (pc' := 19) (x := 3) kc_10_18 rfl rfl ?_
                  refine xi_iconst (pc' := 20) (v := 0) kc_10_19 rfl rfl ?_
                  refine xi_iconst (pc' := 21) (v := 5) kc_10_20 rfl rfl ?_
                  refine xi_static (mj := 12) (as := [.int 3, .int 0, .int 5]) (st1 := []) (lv0 := [(0, .int 3), (1, .int 0), (2, .int 5)]) kc_10_21 rfl rfl (Nat.le_of_ble_eq_true rfl) rfl rfl (Nat.le_of_ble_eq_true rfl) (hJ _ _ _ _ (by decide)) (xm_le ml_12 rfl) rfl ?_
                  refine xi_iload_n (pc' := 1) (x := 3) kc_12_0 rfl rfl ?_
                  refine xi_iload_n (pc' := 2) (x := 0) kc_12_1 rfl rfl ?_
                  refine xi_cmf (pc' := 5) kc_12_2 rfl rfl ?_
                  refine xi_iload_n (pc' := 6) (x := 3) kc_12_5 rfl rfl ?_
                  refine xi_iload_n (pc' := 7) (x := 5) kc_12_6 rfl rfl ?_
                  refine xi_cmf (pc' := 10) kc_12_7 rfl rfl ?_
                  refine xi_iconst (pc' := 11) (v := 1) kc_12_10 rfl rfl ?_
                  refine xi_goto (pc' := 15) kc_12_11 rfl ?_
                  refine xi_ireturn kc_12_15 mr_12 rfl ?_
                  show xw J ov 99 10 (24, [(0, .ref 115), (1, .int 1), (2, .int 3), (3, .int a3)], [.int 1], hh3) _
                  refine xi_ift (pc' := 34) kc_10_24 rfl rfl ?_
                  refine xi_iload_n (pc' := 35) (x := a3) kc_10_34 rfl rfl ?_
                  refine xi_iload_n (pc' := 36) (x := 3) kc_10_35 rfl rfl ?_
                  refine xi_ift (pc' := 44) kc_10_36 rfl rfl ?_
                  refine xi_iconst (pc' := 45) (v := 0) kc_10_44 rfl rfl ?_
                  refine xi_cmt (pc' := 55) kc_10_45 rfl (xc_ge_t (X := a3.toInt) (Y := 0) rfl (by decide) (by omega)) ?_
                  refine xi_iload_n (pc' := 56) (x := a3) kc_10_55 rfl rfl ?_
                  refine xi_iload_n (pc' := 57) (x := 3) kc_10_56 rfl rfl ?_
                  refine xi_ift (pc' := 65) kc_10_57 rfl rfl ?_
                  refine xi_iload_n (pc' := 66) (x := 3) kc_10_65 rfl rfl ?_
                  refine xi_iconst (pc' := 67) (v := 1) kc_10_66 rfl rfl ?_
                  refine xi_cmt (pc' := 75) kc_10_67 rfl rfl ?_
                  refine xi_iload_n (pc' := 76) (x := 3) kc_10_75 rfl rfl ?_
                  refine xi_iconst (pc' := 77) (v := 4) kc_10_76 rfl rfl ?_
                  refine xi_cmf (pc' := 80) kc_10_77 rfl rfl ?_
                  refine xi_bipush (pc' := 82) (v := 50) kc_10_80 rfl rfl ?_
                  refine xi_goto (pc' := 96) kc_10_82 rfl ?_
                  refine xi_cmt (pc' := 106) kc_10_96 rfl (xc_le_t (X := a3.toInt) (Y := 50) rfl (by decide) (by omega)) ?_
                  refine xi_aload_n (pc' := 107) (x := 115) kc_10_106 rfl rfl ?_
                  refine xi_iload_n (pc' := 108) (x := 1) kc_10_107 rfl rfl ?_
                  refine xi_iload_n (pc' := 109) (x := 3) kc_10_108 rfl rfl ?_
                  refine xi_virtual (mj := 14) (as := [.int 1, .int 3]) (st1 := []) (lv0 := [(0, .ref 115), (1, .int 1), (2, .int 3)]) kc_10_109 rfl rfl rfl rfl rfl eh3.1 (Nat.le_of_ble_eq_true rfl) (hJ _ _ _ _ (by decide)) (xm_le ml_14 rfl) rfl ?_
                  refine xi_iload_n (pc' := 1) (x := 3) kc_14_0 rfl rfl ?_
                  refine xi_tsi (pc' := 57) (z := 3) kc_14_1 (rfl) rfl (by decide) ?_
                  refine xi_aload_n (pc' := 58) (x := 115) kc_14_57 rfl rfl ?_
                  refine xi_getfield (pc' := 61) (v := .ref 119) kc_14_58 rfl rfl rfl eh3.1 rfl ?_
                  refine xi_iload_n (pc' := 62) (x := 1) kc_14_61 rfl rfl ?_
                  refine xi_iaload (pc' := 63) (v := 0) kc_14_62 rfl ((eh3.2.1 119 (by decide)).trans ((eh2.2.1 119 (by decide)).trans ((eh1.2.1 119 (by decide)).trans (F 119 _ hl_119)))) (by decide) rfl (xi_in (n := 6) (by decide) (by decide)) rfl ?_
                  refine xi_ireturn kc_14_63 mr_14 rfl ?_
                  show xw J ov 99 10 (112, [(0, .ref 115), (1, .int 1), (2, .int 3), (3, .int a3)], [.int 0], hh3) _
                  refine xi_istore (pc' := 114) (lv' := [(4, .int 0), (0, .ref 115), (1, .int 1), (2, .int 3), (3, .int a3)]) kc_10_112 rfl rfl (xm_lt ml_10 rfl) ?_
                  refine xi_aload_n (pc' := 115) (x := 115) kc_10_114 rfl rfl ?_
                  refine xi_iload_n (pc' := 116) (x := 1) kc_10_115 rfl rfl ?_
                  refine xi_iload_n (pc' := 117) (x := 3) kc_10_116 rfl rfl ?_
                  refine xi_iload_n (pc' := 118) (x := a3) kc_10_117 rfl rfl ?_
                  refine xi_virtual (mj := 15) (as := [.int 1, .int 3, .int a3]) (st1 := []) (lv0 := [(0, .ref 115), (1, .int 1), (2, .int 3), (3, .int a3)]) kc_10_118 rfl rfl rfl rfl rfl eh3.1 (Nat.le_of_ble_eq_true rfl) (hJ _ _ _ _ (by decide)) (xm_le ml_15 rfl) rfl ?_
                  refine xi_aload_n (pc' := 1) (x := 115) kc_15_0 rfl rfl ?_
                  refine xi_getfield (pc' := 4) (v := .ref 116) kc_15_1 rfl rfl rfl eh3.1 rfl ?_
                  refine xi_iload_n (pc' := 5) (x := 1) kc_15_4 rfl rfl ?_
                  refine xi_iload_n (pc' := 6) (x := 3) kc_15_5 rfl rfl ?_
                  refine xi_ift (pc' := 13) kc_15_6 rfl rfl ?_
                  refine xi_aload_n (pc' := 14) (x := 115) kc_15_13 rfl rfl ?_
                  refine xi_getfield (pc' := 17) (v := .ref 116) kc_15_14 rfl rfl rfl eh3.1 rfl ?_
                  refine xi_iload_n (pc' := 18) (x := 1) kc_15_17 rfl rfl ?_
                  refine xi_iaload (pc' := 19) (v := 40) kc_15_18 rfl ((eh3.2.1 116 (by decide)).trans ((eh2.2.1 116 (by decide)).trans ((eh1.2.1 116 (by decide)).trans (F 116 _ hl_116)))) (by decide) rfl (xi_in (n := 6) (by decide) (by decide)) rfl ?_
                  refine xi_iastore (pc' := 20) (x' := [40, 40, 40, 40, 40, 40]) kc_15_19 rfl ((eh3.2.1 116 (by decide)).trans ((eh2.2.1 116 (by decide)).trans ((eh1.2.1 116 (by decide)).trans (F 116 _ hl_116)))) rfl (xi_in (n := 6) (by decide) (by decide)) rfl (fun hh4 eh4 => ?_)
                  refine xi_aload_n (pc' := 21) (x := 115) kc_15_20 rfl rfl ?_
                  refine xi_getfield (pc' := 24) (v := .ref 117) kc_15_21 rfl rfl rfl ((eh4.2.1 115 (by decide)).trans eh3.1) rfl ?_
                  refine xi_iload_n (pc' := 25) (x := 1) kc_15_24 rfl rfl ?_
                  refine xi_iload_n (pc' := 26) (x := 3) kc_15_25 rfl rfl ?_
                  refine xi_iconst (pc' := 27) (v := 1) kc_15_26 rfl rfl ?_
                  refine xi_cmt (pc' := 34) kc_15_27 rfl rfl ?_
                  refine xi_aload_n (pc' := 35) (x := 115) kc_15_34 rfl rfl ?_
                  refine xi_getfield (pc' := 38) (v := .ref 117) kc_15_35 rfl rfl rfl ((eh4.2.1 115 (by decide)).trans eh3.1) rfl ?_
                  refine xi_iload_n (pc' := 39) (x := 1) kc_15_38 rfl rfl ?_
                  refine xi_iaload (pc' := 40) (v := 18) kc_15_39 rfl ((eh4.2.1 117 (by decide)).trans ((eh3.2.1 117 (by decide)).trans ((eh2.2.1 117 (by decide)).trans ((eh1.2.1 117 (by decide)).trans (F 117 _ hl_117))))) (by decide) rfl (xi_in (n := 6) (by decide) (by decide)) rfl ?_
                  refine xi_iastore (pc' := 41) (x' := [18, 18, 18, 18, 18, 18]) kc_15_40 rfl ((eh4.2.1 117 (by decide)).trans ((eh3.2.1 117 (by decide)).trans ((eh2.2.1 117 (by decide)).trans ((eh1.2.1 117 (by decide)).trans (F 117 _ hl_117))))) rfl (xi_in (n := 6) (by decide) (by decide)) rfl (fun hh5 eh5 => ?_)
                  refine xi_aload_n (pc' := 42) (x := 115) kc_15_41 rfl rfl ?_
                  refine xi_getfield (pc' := 45) (v := .ref 118) kc_15_42 rfl rfl rfl ((eh5.2.1 115 (by decide)).trans ((eh4.2.1 115 (by decide)).trans eh3.1)) rfl ?_
                  refine xi_iload_n (pc' := 46) (x := 1) kc_15_45 rfl rfl ?_
                  refine xi_iload_n (pc' := 47) (x := 3) kc_15_46 rfl rfl ?_
                  refine xi_iconst (pc' := 48) (v := 2) kc_15_47 rfl rfl ?_
                  refine xi_cmt (pc' := 55) kc_15_48 rfl rfl ?_
                  refine xi_aload_n (pc' := 56) (x := 115) kc_15_55 rfl rfl ?_
                  refine xi_getfield (pc' := 59) (v := .ref 118) kc_15_56 rfl rfl rfl ((eh5.2.1 115 (by decide)).trans ((eh4.2.1 115 (by decide)).trans eh3.1)) rfl ?_
                  refine xi_iload_n (pc' := 60) (x := 1) kc_15_59 rfl rfl ?_
                  refine xi_iaload (pc' := 61) (v := 10) kc_15_60 rfl ((eh5.2.1 118 (by decide)).trans ((eh4.2.1 118 (by decide)).trans ((eh3.2.1 118 (by decide)).trans ((eh2.2.1 118 (by decide)).trans ((eh1.2.1 118 (by decide)).trans (F 118 _ hl_118)))))) (by decide) rfl (xi_in (n := 6) (by decide) (by decide)) rfl ?_
                  refine xi_iastore (pc' := 62) (x' := [10, 10, 10, 10, 10, 10]) kc_15_61 rfl ((eh5.2.1 118 (by decide)).trans ((eh4.2.1 118 (by decide)).trans ((eh3.2.1 118 (by decide)).trans ((eh2.2.1 118 (by decide)).trans ((eh1.2.1 118 (by decide)).trans (F 118 _ hl_118)))))) rfl (xi_in (n := 6) (by decide) (by decide)) rfl (fun hh6 eh6 => ?_)
                  refine xi_aload_n (pc' := 63) (x := 115) kc_15_62 rfl rfl ?_
                  refine xi_getfield (pc' := 66) (v := .ref 119) kc_15_63 rfl rfl rfl ((eh6.2.1 115 (by decide)).trans ((eh5.2.1 115 (by decide)).trans ((eh4.2.1 115 (by decide)).trans eh3.1))) rfl ?_
                  refine xi_iload_n (pc' := 67) (x := 1) kc_15_66 rfl rfl ?_
                  refine xi_iload_n (pc' := 68) (x := 3) kc_15_67 rfl rfl ?_
                  refine xi_iconst (pc' := 69) (v := 3) kc_15_68 rfl rfl ?_
                  refine xi_cmf (pc' := 72) kc_15_69 rfl rfl ?_
                  refine xi_iload_n (pc' := 73) (x := a3) kc_15_72 rfl rfl ?_
                  refine xi_goto (pc' := 82) kc_15_73 rfl ?_
                  refine xi_iastore (pc' := 83) (x' := [0, a3, 0, 0, 0, 0]) kc_15_82 rfl ((eh6.2.1 119 (by decide)).trans ((eh5.2.1 119 (by decide)).trans ((eh4.2.1 119 (by decide)).trans ((eh3.2.1 119 (by decide)).trans ((eh2.2.1 119 (by decide)).trans ((eh1.2.1 119 (by decide)).trans (F 119 _ hl_119))))))) rfl (xi_in (n := 6) (by decide) (by decide)) rfl (fun hh7 eh7 => ?_)
                  refine xi_aload_n (pc' := 84) (x := 115) kc_15_83 rfl rfl ?_
                  refine xi_getfield (pc' := 87) (v := .ref 120) kc_15_84 rfl rfl rfl ((eh7.2.1 115 (by decide)).trans ((eh6.2.1 115 (by decide)).trans ((eh5.2.1 115 (by decide)).trans ((eh4.2.1 115 (by decide)).trans eh3.1)))) rfl ?_
                  refine xi_iload_n (pc' := 88) (x := 1) kc_15_87 rfl rfl ?_
                  refine xi_iload_n (pc' := 89) (x := 3) kc_15_88 rfl rfl ?_
                  refine xi_iconst (pc' := 90) (v := 4) kc_15_89 rfl rfl ?_
                  refine xi_cmt (pc' := 97) kc_15_90 rfl rfl ?_
                  refine xi_aload_n (pc' := 98) (x := 115) kc_15_97 rfl rfl ?_
                  refine xi_getfield (pc' := 101) (v := .ref 120) kc_15_98 rfl rfl rfl ((eh7.2.1 115 (by decide)).trans ((eh6.2.1 115 (by decide)).trans ((eh5.2.1 115 (by decide)).trans ((eh4.2.1 115 (by decide)).trans eh3.1)))) rfl ?_
                  refine xi_iload_n (pc' := 102) (x := 1) kc_15_101 rfl rfl ?_
                  refine xi_iaload (pc' := 103) (v := 0) kc_15_102 rfl ((eh7.2.1 120 (by decide)).trans ((eh6.2.1 120 (by decide)).trans ((eh5.2.1 120 (by decide)).trans ((eh4.2.1 120 (by decide)).trans ((eh3.2.1 120 (by decide)).trans ((eh2.2.1 120 (by decide)).trans ((eh1.2.1 120 (by decide)).trans (F 120 _ hl_120)))))))) (by decide) rfl (xi_in (n := 6) (by decide) (by decide)) rfl ?_
                  refine xi_iastore (pc' := 104) (x' := [0, 0, 0, 0, 0, 0]) kc_15_103 rfl ((eh7.2.1 120 (by decide)).trans ((eh6.2.1 120 (by decide)).trans ((eh5.2.1 120 (by decide)).trans ((eh4.2.1 120 (by decide)).trans ((eh3.2.1 120 (by decide)).trans ((eh2.2.1 120 (by decide)).trans ((eh1.2.1 120 (by decide)).trans (F 120 _ hl_120)))))))) rfl (xi_in (n := 6) (by decide) (by decide)) rfl (fun hh8 eh8 => ?_)
                  refine xi_aload_n (pc' := 105) (x := 115) kc_15_104 rfl rfl ?_
                  refine xi_getfield (pc' := 108) (v := .ref 121) kc_15_105 rfl rfl rfl ((eh8.2.1 115 (by decide)).trans ((eh7.2.1 115 (by decide)).trans ((eh6.2.1 115 (by decide)).trans ((eh5.2.1 115 (by decide)).trans ((eh4.2.1 115 (by decide)).trans eh3.1))))) rfl ?_
                  refine xi_iload_n (pc' := 109) (x := 1) kc_15_108 rfl rfl ?_
                  refine xi_iload_n (pc' := 110) (x := 3) kc_15_109 rfl rfl ?_
                  refine xi_iconst (pc' := 111) (v := 5) kc_15_110 rfl rfl ?_
                  refine xi_cmt (pc' := 118) kc_15_111 rfl rfl ?_
                  refine xi_aload_n (pc' := 119) (x := 115) kc_15_118 rfl rfl ?_
                  refine xi_getfield (pc' := 122) (v := .ref 121) kc_15_119 rfl rfl rfl ((eh8.2.1 115 (by decide)).trans ((eh7.2.1 115 (by decide)).trans ((eh6.2.1 115 (by decide)).trans ((eh5.2.1 115 (by decide)).trans ((eh4.2.1 115 (by decide)).trans eh3.1))))) rfl ?_
                  refine xi_iload_n (pc' := 123) (x := 1) kc_15_122 rfl rfl ?_
                  refine xi_iaload (pc' := 124) (v := 0) kc_15_123 rfl ((eh8.2.1 121 (by decide)).trans ((eh7.2.1 121 (by decide)).trans ((eh6.2.1 121 (by decide)).trans ((eh5.2.1 121 (by decide)).trans ((eh4.2.1 121 (by decide)).trans ((eh3.2.1 121 (by decide)).trans ((eh2.2.1 121 (by decide)).trans ((eh1.2.1 121 (by decide)).trans (F 121 _ hl_121))))))))) (by decide) rfl (xi_in (n := 6) (by decide) (by decide)) rfl ?_
                  refine xi_iastore (pc' := 125) (x' := [0, 0, 0, 0, 0, 0]) kc_15_124 rfl ((eh8.2.1 121 (by decide)).trans ((eh7.2.1 121 (by decide)).trans ((eh6.2.1 121 (by decide)).trans ((eh5.2.1 121 (by decide)).trans ((eh4.2.1 121 (by decide)).trans ((eh3.2.1 121 (by decide)).trans ((eh2.2.1 121 (by decide)).trans ((eh1.2.1 121 (by decide)).trans (F 121 _ hl_121))))))))) rfl (xi_in (n := 6) (by decide) (by decide)) rfl (fun hh9 eh9 => ?_)
                  refine xi_aload_n (pc' := 126) (x := 115) kc_15_125 rfl rfl ?_
                  refine xi_iconst (pc' := 127) (v := 0) kc_15_126 rfl rfl ?_
                  refine xi_putfield (pc' := 130) (fs' := [.int 0, .int 0, .ref 116, .ref 117, .ref 118, .ref 119, .ref 120, .ref 121, .ref 122, .ref 123, .ref 124, .ref 125, .ref 126, .ref 127, .ref 128, .ref 129, .int 4, .ref 130, .int 0, .ref 131, .ref 132, .ref 133, .ref 134, .int 0, .ref 135, .ref 136, .ref 137, .ref 138, .ref 139, .ref 140, .ref 141, .ref 142, .int 0, .int 0, .int 0, .ref 143, .ref 144, .ref 145, .ref 146, .ref 147, .ref 148, .int 0, .ref 149, .ref 150, .ref 151, .int 0, .ref 152, .ref 153, .ref 154, .ref 155, .ref 156, .ref 157, .ref 158, .ref 159, .int 0, .ref 160, .int 0, .ref 161, .ref 162, .ref 163, .ref 164, .int 0, .ref 165, .ref 166]) kc_15_127 rfl rfl rfl ((eh9.2.1 115 (by decide)).trans ((eh8.2.1 115 (by decide)).trans ((eh7.2.1 115 (by decide)).trans ((eh6.2.1 115 (by decide)).trans ((eh5.2.1 115 (by decide)).trans ((eh4.2.1 115 (by decide)).trans eh3.1)))))) rfl rfl rfl (Nat.le_of_ble_eq_true rfl) rfl (fun hh10 eh10 => ?_)
                  refine xi_return kc_15_130 mr_15 ?_
                  show xw J ov 99 10 (121, [(4, .int 0), (0, .ref 115), (1, .int 1), (2, .int 3), (3, .int a3)], [], hh10) _
                  refine xi_iload (pc' := 123) (x := 0) kc_10_121 rfl rfl ?_
                  refine xi_ireturn kc_10_123 mr_10 rfl ?_
                  show xw J ov 100 196 (236, [(4, .int 0), (3, .ref 167), (2, .ref 115), (1, .ref 0), (0, .ref 1000000)], [.int 0, .int 0], hh10) _
                  refine xi_cmt (pc' := 1528) kc_196_236 rfl rfl ?_
                  refine xi_iinc (pc' := 1531) (x := 0) (v := 6) (lv' := [(4, .int 6), (3, .ref 167), (2, .ref 115), (1, .ref 0), (0, .ref 1000000)]) kc_196_1528 rfl rfl rfl rfl (xm_lt ml_196 rfl) ?_
                  refine xi_goto (pc' := 23) kc_196_1531 rfl ?_
                  refine xi_iload (pc' := 25) (x := 6) kc_196_23 rfl rfl ?_
                  refine xi_aload_n (pc' := 26) (x := 1000000) kc_196_25 rfl rfl ?_
                  refine xi_arraylength (pc' := 27) (n := 6) (v := 6) kc_196_26 rfl (xl_lenO (by decide) hov0 rfl) rfl ?_
                  refine xi_bipush (pc' := 29) (v := 6) kc_196_27 rfl rfl ?_
                  refine xi_isub (pc' := 30) (v := 0) kc_196_29 rfl rfl ?_
                  refine xi_cmt (pc' := 1534) kc_196_30 rfl rfl ?_
                  refine xi_iconst (pc' := 1535) (v := 1) kc_196_1534 rfl rfl ?_
                  refine xi_ireturn kc_196_1535 mr_196 rfl ?_
                  refine ⟨rfl, ?_, ?_⟩
                  · rw [eh10.2.2.1, eh9.2.2.1, eh8.2.2.1, eh7.2.2.1, eh6.2.2.1, eh5.2.2.1, eh4.2.2.1, eh3.2.2.1, eh2.2.2.1, eh1.2.2.1]; exact hn0
                  · rw [eh10.2.2.2, eh9.2.2.2, eh8.2.2.2, eh7.2.2.2, eh6.2.2.2, eh5.2.2.2, eh4.2.2.2, eh3.2.2.2, eh2.2.2.2, eh1.2.2.2]; exact hz0
                by_cases c34 : a1.toInt = 2
                · have qa1 : a1 = 2 := xc_of (Eq.trans (by omega) (show (2 : Int) = (2 : Int32).toInt by decide))
                  subst qa1
                  refine xi_aaload (pc' := 13) (b := 17) kc_93_12 rfl ((eh1.2.1 2 (by decide)).trans (F 2 _ hl_2)) rfl (xi_in (n := 6) (by decide) (by decide)) rfl ?_
                  refine xi_iload_n (pc' := 14) (x := 3) kc_93_13 rfl rfl ?_
                  refine xi_iload_n (pc' := 15) (x := a3) kc_93_14 rfl rfl ?_
                  refine xi_virtual (mj := 94) (as := [.int 3, .int a3]) (st1 := []) (lv0 := [(0, .ref 17), (1, .int 3), (2, .int a3)]) kc_93_15 rfl rfl rfl rfl rfl ((eh1.2.1 17 (by decide)).trans (F 17 _ hl_17)) (Nat.le_of_ble_eq_true rfl) (hJ _ _ _ _ (by decide)) (xm_le ml_94 rfl) rfl ?_
                  refine xi_iload_n (pc' := 1) (x := 3) kc_94_0 rfl rfl ?_
                  refine xi_iff (pc' := 4) kc_94_1 rfl rfl ?_
                  refine xi_iload_n (pc' := 5) (x := 3) kc_94_4 rfl rfl ?_
                  refine xi_iconst (pc' := 6) (v := 5) kc_94_5 rfl rfl ?_
                  refine xi_cmt (pc' := 11) kc_94_6 rfl rfl ?_
                  refine xi_aload_n (pc' := 12) (x := 17) kc_94_11 rfl rfl ?_
                  refine xi_getfield (pc' := 15) (v := .ref 18) kc_94_12 rfl rfl rfl ((eh1.2.1 17 (by decide)).trans (F 17 _ hl_17)) rfl ?_
                  refine xi_iload_n (pc' := 16) (x := 3) kc_94_15 rfl rfl ?_
                  refine xi_iaload (pc' := 17) (v := 0) kc_94_16 rfl ((eh1.2.1 18 (by decide)).trans (F 18 _ hl_18)) (by decide) rfl (xi_in (n := 5) (by decide) (by decide)) rfl ?_
                  refine xi_istore_n (pc' := 18) (lv' := [(3, .int 0), (0, .ref 17), (1, .int 3), (2, .int a3)]) kc_94_17 rfl rfl (xm_lt ml_94 rfl) ?_
                  refine xi_aload_n (pc' := 19) (x := 17) kc_94_18 rfl rfl ?_
                  refine xi_getfield (pc' := 22) (v := .ref 18) kc_94_19 rfl rfl rfl ((eh1.2.1 17 (by decide)).trans (F 17 _ hl_17)) rfl ?_
                  refine xi_iload_n (pc' := 23) (x := 3) kc_94_22 rfl rfl ?_
                  refine xi_iload_n (pc' := 24) (x := a3) kc_94_23 rfl rfl ?_
                  refine xi_iastore (pc' := 25) (x' := [40, 18, 10, a3, 0]) kc_94_24 rfl ((eh1.2.1 18 (by decide)).trans (F 18 _ hl_18)) rfl (xi_in (n := 5) (by decide) (by decide)) rfl (fun hh2 eh2 => ?_)
                  refine xi_iload_n (pc' := 26) (x := 0) kc_94_25 rfl rfl ?_
                  refine xi_ireturn kc_94_26 mr_94 rfl ?_
                  show xw J ov 98 93 (18, [(0, .ref 1), (1, .int 2), (2, .int 3), (3, .int a3)], [.int 0], hh2) _
                  refine xi_goto (pc' := 22) kc_93_18 rfl ?_
                  refine xi_ireturn kc_93_22 mr_93 rfl ?_
                  show xw J ov 99 89 (107, [(0, .ref 0), (1, .int 2), (2, .int 3), (3, .int a3)], [.int 0], hh2) _
                  refine xi_ireturn kc_89_107 mr_89 rfl ?_
                  show xw J ov 100 196 (214, [(4, .int 0), (3, .ref 167), (2, .ref 115), (1, .ref 0), (0, .ref 1000000)], [.int 0], hh2) _
                  refine xi_aload_n (pc' := 215) (x := 115) kc_196_214 rfl rfl ?_
                  refine xi_aload_n (pc' := 216) (x := 1000000) kc_196_215 rfl rfl ?_
                  refine xi_iload (pc' := 218) (x := 0) kc_196_216 rfl rfl ?_
                  refine xi_iconst (pc' := 219) (v := 1) kc_196_218 rfl rfl ?_
                  refine xi_iadd (pc' := 220) (v := 1) kc_196_219 rfl rfl ?_
                  refine xi_ialoadO (pc' := 221) (v := 2) kc_196_220 rfl (by decide) hov0 (xi_in (n := 6) (by decide) (by decide)) rfl ?_
                  refine xi_aload_n (pc' := 222) (x := 1000000) kc_196_221 rfl rfl ?_
                  refine xi_iload (pc' := 224) (x := 0) kc_196_222 rfl rfl ?_
                  refine xi_iconst (pc' := 225) (v := 2) kc_196_224 rfl rfl ?_
                  refine xi_iadd (pc' := 226) (v := 2) kc_196_225 rfl rfl ?_
                  refine xi_ialoadO (pc' := 227) (v := 3) kc_196_226 rfl (by decide) hov0 (xi_in (n := 6) (by decide) (by decide)) rfl ?_
                  refine xi_aload_n (pc' := 228) (x := 1000000) kc_196_227 rfl rfl ?_
                  refine xi_iload (pc' := 230) (x := 0) kc_196_228 rfl rfl ?_
                  refine xi_iconst (pc' := 231) (v := 3) kc_196_230 rfl rfl ?_
                  refine xi_iadd (pc' := 232) (v := 3) kc_196_231 rfl rfl ?_
                  refine xi_ialoadO (pc' := 233) (v := a3) kc_196_232 rfl (by decide) hov0 (xi_in (n := 6) (by decide) (by decide)) rfl ?_
                  refine xi_virtual (mj := 10) (as := [.int 2, .int 3, .int a3]) (st1 := [.int 0]) (lv0 := [(0, .ref 115), (1, .int 2), (2, .int 3), (3, .int a3)]) kc_196_233 rfl rfl rfl rfl rfl ((eh2.2.1 115 (by decide)).trans ((eh1.2.1 115 (by decide)).trans (F 115 _ hl_115))) (Nat.le_of_ble_eq_true rfl) (hJ _ _ _ _ (by decide)) (xm_le ml_10 rfl) rfl ?_
                  refine xi_aload_n (pc' := 1) (x := 115) kc_10_0 rfl rfl ?_
                  refine xi_iconst (pc' := 2) (v := 0) kc_10_1 rfl rfl ?_
                  refine xi_putfield (pc' := 5) (fs' := [.int 0, .int 0, .ref 116, .ref 117, .ref 118, .ref 119, .ref 120, .ref 121, .ref 122, .ref 123, .ref 124, .ref 125, .ref 126, .ref 127, .ref 128, .ref 129, .int 4, .ref 130, .int 0, .ref 131, .ref 132, .ref 133, .ref 134, .int 0, .ref 135, .ref 136, .ref 137, .ref 138, .ref 139, .ref 140, .ref 141, .ref 142, .int 0, .int 0, .int 0, .ref 143, .ref 144, .ref 145, .ref 146, .ref 147, .ref 148, .int 0, .ref 149, .ref 150, .ref 151, .int 0, .ref 152, .ref 153, .ref 154, .ref 155, .ref 156, .ref 157, .ref 158, .ref 159, .int 0, .ref 160, .int 0, .ref 161, .ref 162, .ref 163, .ref 164, .int 0, .ref 165, .ref 166]) kc_10_2 rfl rfl rfl ((eh2.2.1 115 (by decide)).trans ((eh1.2.1 115 (by decide)).trans (F 115 _ hl_115))) rfl rfl rfl (Nat.le_of_ble_eq_true rfl) rfl (fun hh3 eh3 => ?_)
                  refine xi_iload_n (pc' := 6) (x := 2) kc_10_5 rfl rfl ?_
                  refine xi_static (mj := 11) (as := [.int 2]) (st1 := []) (lv0 := [(0, .int 2)]) kc_10_6 rfl rfl (Nat.le_of_ble_eq_true rfl) rfl rfl (Nat.le_of_ble_eq_true rfl) (hJ _ _ _ _ (by decide)) (xm_le ml_11 rfl) rfl ?_
                  refine xi_iload_n (pc' := 1) (x := 2) kc_11_0 rfl rfl ?_
                  refine xi_iconst (pc' := 2) (v := 0) kc_11_1 rfl rfl ?_
                  refine xi_iconst (pc' := 3) (v := 5) kc_11_2 rfl rfl ?_
                  refine xi_static (mj := 12) (as := [.int 2, .int 0, .int 5]) (st1 := []) (lv0 := [(0, .int 2), (1, .int 0), (2, .int 5)]) kc_11_3 rfl rfl (Nat.le_of_ble_eq_true rfl) rfl rfl (Nat.le_of_ble_eq_true rfl) (hJ _ _ _ _ (by decide)) (xm_le ml_12 rfl) rfl ?_
                  refine xi_iload_n (pc' := 1) (x := 2) kc_12_0 rfl rfl ?_
                  refine xi_iload_n (pc' := 2) (x := 0) kc_12_1 rfl rfl ?_
                  refine xi_cmf (pc' := 5) kc_12_2 rfl rfl ?_
                  refine xi_iload_n (pc' := 6) (x := 2) kc_12_5 rfl rfl ?_
                  refine xi_iload_n (pc' := 7) (x := 5) kc_12_6 rfl rfl ?_
                  refine xi_cmf (pc' := 10) kc_12_7 rfl rfl ?_
                  refine xi_iconst (pc' := 11) (v := 1) kc_12_10 rfl rfl ?_
                  refine xi_goto (pc' := 15) kc_12_11 rfl ?_
                  refine xi_ireturn kc_12_15 mr_12 rfl ?_
                  show xw J ov 98 11 (6, [(0, .int 2)], [.int 1], hh3) _
                  refine xi_ireturn kc_11_6 mr_11 rfl ?_
                  show xw J ov 99 10 (9, [(0, .ref 115), (1, .int 2), (2, .int 3), (3, .int a3)], [.int 1], hh3) _
                  refine xi_ift (pc' := 18) kc_10_9 rfl rfl ?_
                  refine xi_iload_n (pc' := 19) (x := 3) kc_10_18 rfl rfl ?_
                  refine xi_iconst (pc' := 20) (v := 0) kc_10_19 rfl rfl ?_
                  refine xi_iconst (pc' := 21) (v := 5) kc_10_20 rfl rfl ?_
                  refine xi_static (mj := 12) (as := [.int 3, .int 0, .int 5]) (st1 := []) (lv0 := [(0, .int 3), (1, .int 0), (2, .int 5)]) kc_10_21 rfl rfl (Nat.le_of_ble_eq_true rfl) rfl rfl (Nat.le_of_ble_eq_true rfl) (hJ _ _ _ _ (by decide)) (xm_le ml_12 rfl) rfl ?_
                  refine xi_iload_n (pc' := 1) (x := 3) kc_12_0 rfl rfl ?_
                  refine xi_iload_n (pc' := 2) (x := 0) kc_12_1 rfl rfl ?_
                  refine xi_cmf (pc' := 5) kc_12_2 rfl rfl ?_
                  refine xi_iload_n (pc' := 6) (x := 3) kc_12_5 rfl rfl ?_
                  refine xi_iload_n (pc' := 7) (x := 5) kc_12_6 rfl rfl ?_
                  refine xi_cmf (pc' := 10) kc_12_7 rfl rfl ?_
                  refine xi_iconst (pc' := 11) (v := 1) kc_12_10 rfl rfl ?_
                  refine xi_goto (pc' := 15) kc_12_11 rfl ?_
                  refine xi_ireturn kc_12_15 mr_12 rfl ?_
                  show xw J ov 99 10 (24, [(0, .ref 115), (1, .int 2), (2, .int 3), (3, .int a3)], [.int 1], hh3) _
                  refine xi_ift (pc' := 34) kc_10_24 rfl rfl ?_
                  refine xi_iload_n (pc' := 35) (x := a3) kc_10_34 rfl rfl ?_
                  refine xi_iload_n (pc' := 36) (x := 3) kc_10_35 rfl rfl ?_
                  refine xi_ift (pc' := 44) kc_10_36 rfl rfl ?_
                  refine xi_iconst (pc' := 45) (v := 0) kc_10_44 rfl rfl ?_
                  refine xi_cmt (pc' := 55) kc_10_45 rfl (xc_ge_t (X := a3.toInt) (Y := 0) rfl (by decide) (by omega)) ?_
                  refine xi_iload_n (pc' := 56) (x := a3) kc_10_55 rfl rfl ?_
                  refine xi_iload_n (pc' := 57) (x := 3) kc_10_56 rfl rfl ?_
                  refine xi_ift (pc' := 65) kc_10_57 rfl rfl ?_
                  refine xi_iload_n (pc' := 66) (x := 3) kc_10_65 rfl rfl ?_
                  refine xi_iconst (pc' := 67) (v := 1) kc_10_66 rfl rfl ?_
                  refine xi_cmt (pc' := 75) kc_10_67 rfl rfl ?_
                  refine xi_iload_n (pc' := 76) (x := 3) kc_10_75 rfl rfl ?_
                  refine xi_iconst (pc' := 77) (v := 4) kc_10_76 rfl rfl ?_
                  refine xi_cmf (pc' := 80) kc_10_77 rfl rfl ?_
                  refine xi_bipush (pc' := 82) (v := 50) kc_10_80 rfl rfl ?_
                  refine xi_goto (pc' := 96) kc_10_82 rfl ?_
                  refine xi_cmt (pc' := 106) kc_10_96 rfl (xc_le_t (X := a3.toInt) (Y := 50) rfl (by decide) (by omega)) ?_
                  refine xi_aload_n (pc' := 107) (x := 115) kc_10_106 rfl rfl ?_
                  refine xi_iload_n (pc' := 108) (x := 2) kc_10_107 rfl rfl ?_
                  refine xi_iload_n (pc' := 109) (x := 3) kc_10_108 rfl rfl ?_
                  refine xi_virtual (mj := 14) (as := [.int 2, .int 3]) (st1 := []) (lv0 := [(0, .ref 115), (1, .int 2), (2, .int 3)]) kc_10_109 rfl rfl rfl rfl rfl eh3.1 (Nat.le_of_ble_eq_true rfl) (hJ _ _ _ _ (by decide)) (xm_le ml_14 rfl) rfl ?_
                  refine xi_iload_n (pc' := 1) (x := 3) kc_14_0 rfl rfl ?_
                  refine xi_tsi (pc' := 57) (z := 3) kc_14_1 (rfl) rfl (by decide) ?_
                  refine xi_aload_n (pc' := 58) (x := 115) kc_14_57 rfl rfl ?_
                  refine xi_getfield (pc' := 61) (v := .ref 119) kc_14_58 rfl rfl rfl eh3.1 rfl ?_
                  refine xi_iload_n (pc' := 62) (x := 2) kc_14_61 rfl rfl ?_
                  refine xi_iaload (pc' := 63) (v := 0) kc_14_62 rfl ((eh3.2.1 119 (by decide)).trans ((eh2.2.1 119 (by decide)).trans ((eh1.2.1 119 (by decide)).trans (F 119 _ hl_119)))) (by decide) rfl (xi_in (n := 6) (by decide) (by decide)) rfl ?_
                  refine xi_ireturn kc_14_63 mr_14 rfl ?_
                  show xw J ov 99 10 (112, [(0, .ref 115), (1, .int 2), (2, .int 3), (3, .int a3)], [.int 0], hh3) _
                  refine xi_istore (pc' := 114) (lv' := [(4, .int 0), (0, .ref 115), (1, .int 2), (2, .int 3), (3, .int a3)]) kc_10_112 rfl rfl (xm_lt ml_10 rfl) ?_
                  refine xi_aload_n (pc' := 115) (x := 115) kc_10_114 rfl rfl ?_
                  refine xi_iload_n (pc' := 116) (x := 2) kc_10_115 rfl rfl ?_
                  refine xi_iload_n (pc' := 117) (x := 3) kc_10_116 rfl rfl ?_
                  refine xi_iload_n (pc' := 118) (x := a3) kc_10_117 rfl rfl ?_
                  refine xi_virtual (mj := 15) (as := [.int 2, .int 3, .int a3]) (st1 := []) (lv0 := [(0, .ref 115), (1, .int 2), (2, .int 3), (3, .int a3)]) kc_10_118 rfl rfl rfl rfl rfl eh3.1 (Nat.le_of_ble_eq_true rfl) (hJ _ _ _ _ (by decide)) (xm_le ml_15 rfl) rfl ?_
                  refine xi_aload_n (pc' := 1) (x := 115) kc_15_0 rfl rfl ?_
                  refine xi_getfield (pc' := 4) (v := .ref 116) kc_15_1 rfl rfl rfl eh3.1 rfl ?_
                  refine xi_iload_n (pc' := 5) (x := 2) kc_15_4 rfl rfl ?_
                  refine xi_iload_n (pc' := 6) (x := 3) kc_15_5 rfl rfl ?_
                  refine xi_ift (pc' := 13) kc_15_6 rfl rfl ?_
                  refine xi_aload_n (pc' := 14) (x := 115) kc_15_13 rfl rfl ?_
                  refine xi_getfield (pc' := 17) (v := .ref 116) kc_15_14 rfl rfl rfl eh3.1 rfl ?_
                  refine xi_iload_n (pc' := 18) (x := 2) kc_15_17 rfl rfl ?_
                  refine xi_iaload (pc' := 19) (v := 40) kc_15_18 rfl ((eh3.2.1 116 (by decide)).trans ((eh2.2.1 116 (by decide)).trans ((eh1.2.1 116 (by decide)).trans (F 116 _ hl_116)))) (by decide) rfl (xi_in (n := 6) (by decide) (by decide)) rfl ?_
                  refine xi_iastore (pc' := 20) (x' := [40, 40, 40, 40, 40, 40]) kc_15_19 rfl ((eh3.2.1 116 (by decide)).trans ((eh2.2.1 116 (by decide)).trans ((eh1.2.1 116 (by decide)).trans (F 116 _ hl_116)))) rfl (xi_in (n := 6) (by decide) (by decide)) rfl (fun hh4 eh4 => ?_)
                  refine xi_aload_n (pc' := 21) (x := 115) kc_15_20 rfl rfl ?_
                  refine xi_getfield (pc' := 24) (v := .ref 117) kc_15_21 rfl rfl rfl ((eh4.2.1 115 (by decide)).trans eh3.1) rfl ?_
                  refine xi_iload_n (pc' := 25) (x := 2) kc_15_24 rfl rfl ?_
                  refine xi_iload_n (pc' := 26) (x := 3) kc_15_25 rfl rfl ?_
                  refine xi_iconst (pc' := 27) (v := 1) kc_15_26 rfl rfl ?_
                  refine xi_cmt (pc' := 34) kc_15_27 rfl rfl ?_
                  refine xi_aload_n (pc' := 35) (x := 115) kc_15_34 rfl rfl ?_
                  refine xi_getfield (pc' := 38) (v := .ref 117) kc_15_35 rfl rfl rfl ((eh4.2.1 115 (by decide)).trans eh3.1) rfl ?_
                  refine xi_iload_n (pc' := 39) (x := 2) kc_15_38 rfl rfl ?_
                  refine xi_iaload (pc' := 40) (v := 18) kc_15_39 rfl ((eh4.2.1 117 (by decide)).trans ((eh3.2.1 117 (by decide)).trans ((eh2.2.1 117 (by decide)).trans ((eh1.2.1 117 (by decide)).trans (F 117 _ hl_117))))) (by decide) rfl (xi_in (n := 6) (by decide) (by decide)) rfl ?_
                  refine xi_iastore (pc' := 41) (x' := [18, 18, 18, 18, 18, 18]) kc_15_40 rfl ((eh4.2.1 117 (by decide)).trans ((eh3.2.1 117 (by decide)).trans ((eh2.2.1 117 (by decide)).trans ((eh1.2.1 117 (by decide)).trans (F 117 _ hl_117))))) rfl (xi_in (n := 6) (by decide) (by decide)) rfl (fun hh5 eh5 => ?_)
                  refine xi_aload_n (pc' := 42) (x := 115) kc_15_41 rfl rfl ?_
                  refine xi_getfield (pc' := 45) (v := .ref 118) kc_15_42 rfl rfl rfl ((eh5.2.1 115 (by decide)).trans ((eh4.2.1 115 (by decide)).trans eh3.1)) rfl ?_
                  refine xi_iload_n (pc' := 46) (x := 2) kc_15_45 rfl rfl ?_
                  refine xi_iload_n (pc' := 47) (x := 3) kc_15_46 rfl rfl ?_
                  refine xi_iconst (pc' := 48) (v := 2) kc_15_47 rfl rfl ?_
                  refine xi_cmt (pc' := 55) kc_15_48 rfl rfl ?_
                  refine xi_aload_n (pc' := 56) (x := 115) kc_15_55 rfl rfl ?_
                  refine xi_getfield (pc' := 59) (v := .ref 118) kc_15_56 rfl rfl rfl ((eh5.2.1 115 (by decide)).trans ((eh4.2.1 115 (by decide)).trans eh3.1)) rfl ?_
                  refine xi_iload_n (pc' := 60) (x := 2) kc_15_59 rfl rfl ?_
                  refine xi_iaload (pc' := 61) (v := 10) kc_15_60 rfl ((eh5.2.1 118 (by decide)).trans ((eh4.2.1 118 (by decide)).trans ((eh3.2.1 118 (by decide)).trans ((eh2.2.1 118 (by decide)).trans ((eh1.2.1 118 (by decide)).trans (F 118 _ hl_118)))))) (by decide) rfl (xi_in (n := 6) (by decide) (by decide)) rfl ?_
                  refine xi_iastore (pc' := 62) (x' := [10, 10, 10, 10, 10, 10]) kc_15_61 rfl ((eh5.2.1 118 (by decide)).trans ((eh4.2.1 118 (by decide)).trans ((eh3.2.1 118 (by decide)).trans ((eh2.2.1 118 (by decide)).trans ((eh1.2.1 118 (by decide)).trans (F 118 _ hl_118)))))) rfl (xi_in (n := 6) (by decide) (by decide)) rfl (fun hh6 eh6 => ?_)
                  refine xi_aload_n (pc' := 63) (x := 115) kc_15_62 rfl rfl ?_
                  refine xi_getfield (pc' := 66) (v := .ref 119) kc_15_63 rfl rfl rfl ((eh6.2.1 115 (by decide)).trans ((eh5.2.1 115 (by decide)).trans ((eh4.2.1 115 (by decide)).trans eh3.1))) rfl ?_
                  refine xi_iload_n (pc' := 67) (x := 2) kc_15_66 rfl rfl ?_
                  refine xi_iload_n (pc' := 68) (x := 3) kc_15_67 rfl rfl ?_
                  refine xi_iconst (pc' := 69) (v := 3) kc_15_68 rfl rfl ?_
                  refine xi_cmf (pc' := 72) kc_15_69 rfl rfl ?_
                  refine xi_iload_n (pc' := 73) (x := a3) kc_15_72 rfl rfl ?_
                  refine xi_goto (pc' := 82) kc_15_73 rfl ?_
                  refine xi_iastore (pc' := 83) (x' := [0, 0, a3, 0, 0, 0]) kc_15_82 rfl ((eh6.2.1 119 (by decide)).trans ((eh5.2.1 119 (by decide)).trans ((eh4.2.1 119 (by decide)).trans ((eh3.2.1 119 (by decide)).trans ((eh2.2.1 119 (by decide)).trans ((eh1.2.1 119 (by decide)).trans (F 119 _ hl_119))))))) rfl (xi_in (n := 6) (by decide) (by decide)) rfl (fun hh7 eh7 => ?_)
                  refine xi_aload_n (pc' := 84) (x := 115) kc_15_83 rfl rfl ?_
                  refine xi_getfield (pc' := 87) (v := .ref 120) kc_15_84 rfl rfl rfl ((eh7.2.1 115 (by decide)).trans ((eh6.2.1 115 (by decide)).trans ((eh5.2.1 115 (by decide)).trans ((eh4.2.1 115 (by decide)).trans eh3.1)))) rfl ?_
                  refine xi_iload_n (pc' := 88) (x := 2) kc_15_87 rfl rfl ?_
                  refine xi_iload_n (pc' := 89) (x := 3) kc_15_88 rfl rfl ?_
                  refine xi_iconst (pc' := 90) (v := 4) kc_15_89 rfl rfl ?_
                  refine xi_cmt (pc' := 97) kc_15_90 rfl rfl ?_
                  refine xi_aload_n (pc' := 98) (x := 115) kc_15_97 rfl rfl ?_
                  refine xi_getfield (pc' := 101) (v := .ref 120) kc_15_98 rfl rfl rfl ((eh7.2.1 115 (by decide)).trans ((eh6.2.1 115 (by decide)).trans ((eh5.2.1 115 (by decide)).trans ((eh4.2.1 115 (by decide)).trans eh3.1)))) rfl ?_
                  refine xi_iload_n (pc' := 102) (x := 2) kc_15_101 rfl rfl ?_
                  refine xi_iaload (pc' := 103) (v := 0) kc_15_102 rfl ((eh7.2.1 120 (by decide)).trans ((eh6.2.1 120 (by decide)).trans ((eh5.2.1 120 (by decide)).trans ((eh4.2.1 120 (by decide)).trans ((eh3.2.1 120 (by decide)).trans ((eh2.2.1 120 (by decide)).trans ((eh1.2.1 120 (by decide)).trans (F 120 _ hl_120)))))))) (by decide) rfl (xi_in (n := 6) (by decide) (by decide)) rfl ?_
                  refine xi_iastore (pc' := 104) (x' := [0, 0, 0, 0, 0, 0]) kc_15_103 rfl ((eh7.2.1 120 (by decide)).trans ((eh6.2.1 120 (by decide)).trans ((eh5.2.1 120 (by decide)).trans ((eh4.2.1 120 (by decide)).trans ((eh3.2.1 120 (by decide)).trans ((eh2.2.1 120 (by decide)).trans ((eh1.2.1 120 (by decide)).trans (F 120 _ hl_120)))))))) rfl (xi_in (n := 6) (by decide) (by decide)) rfl (fun hh8 eh8 => ?_)
                  refine xi_aload_n (pc' := 105) (x := 115) kc_15_104 rfl rfl ?_
                  refine xi_getfield (pc' := 108) (v := .ref 121) kc_15_105 rfl rfl rfl ((eh8.2.1 115 (by decide)).trans ((eh7.2.1 115 (by decide)).trans ((eh6.2.1 115 (by decide)).trans ((eh5.2.1 115 (by decide)).trans ((eh4.2.1 115 (by decide)).trans eh3.1))))) rfl ?_
                  refine xi_iload_n (pc' := 109) (x := 2) kc_15_108 rfl rfl ?_
                  refine xi_iload_n (pc' := 110) (x := 3) kc_15_109 rfl rfl ?_
                  refine xi_iconst (pc' := 111) (v := 5) kc_15_110 rfl rfl ?_
                  refine xi_cmt (pc' := 118) kc_15_111 rfl rfl ?_
                  refine xi_aload_n (pc' := 119) (x := 115) kc_15_118 rfl rfl ?_
                  refine xi_getfield (pc' := 122) (v := .ref 121) kc_15_119 rfl rfl rfl ((eh8.2.1 115 (by decide)).trans ((eh7.2.1 115 (by decide)).trans ((eh6.2.1 115 (by decide)).trans ((eh5.2.1 115 (by decide)).trans ((eh4.2.1 115 (by decide)).trans eh3.1))))) rfl ?_
                  refine xi_iload_n (pc' := 123) (x := 2) kc_15_122 rfl rfl ?_
                  refine xi_iaload (pc' := 124) (v := 0) kc_15_123 rfl ((eh8.2.1 121 (by decide)).trans ((eh7.2.1 121 (by decide)).trans ((eh6.2.1 121 (by decide)).trans ((eh5.2.1 121 (by decide)).trans ((eh4.2.1 121 (by decide)).trans ((eh3.2.1 121 (by decide)).trans ((eh2.2.1 121 (by decide)).trans ((eh1.2.1 121 (by decide)).trans (F 121 _ hl_121))))))))) (by decide) rfl (xi_in (n := 6) (by decide) (by decide)) rfl ?_
                  refine xi_iastore (pc' := 125) (x' := [0, 0, 0, 0, 0, 0]) kc_15_124 rfl ((eh8.2.1 121 (by decide)).trans ((eh7.2.1 121 (by decide)).trans ((eh6.2.1 121 (by decide)).trans ((eh5.2.1 121 (by decide)).trans ((eh4.2.1 121 (by decide)).trans ((eh3.2.1 121 (by decide)).trans ((eh2.2.1 121 (by decide)).trans ((eh1.2.1 121 (by decide)).trans (F 121 _ hl_121))))))))) rfl (xi_in (n := 6) (by decide) (by decide)) rfl (fun hh9 eh9 => ?_)
                  refine xi_aload_n (pc' := 126) (x := 115) kc_15_125 rfl rfl ?_
                  refine xi_iconst (pc' := 127) (v := 0) kc_15_126 rfl rfl ?_
                  refine xi_putfield (pc' := 130) (fs' := [.int 0, .int 0, .ref 116, .ref 117, .ref 118, .ref 119, .ref 120, .ref 121, .ref 122, .ref 123, .ref 124, .ref 125, .ref 126, .ref 127, .ref 128, .ref 129, .int 4, .ref 130, .int 0, .ref 131, .ref 132, .ref 133, .ref 134, .int 0, .ref 135, .ref 136, .ref 137, .ref 138, .ref 139, .ref 140, .ref 141, .ref 142, .int 0, .int 0, .int 0, .ref 143, .ref 144, .ref 145, .ref 146, .ref 147, .ref 148, .int 0, .ref 149, .ref 150, .ref 151, .int 0, .ref 152, .ref 153, .ref 154, .ref 155, .ref 156, .ref 157, .ref 158, .ref 159, .int 0, .ref 160, .int 0, .ref 161, .ref 162, .ref 163, .ref 164, .int 0, .ref 165, .ref 166]) kc_15_127 rfl rfl rfl ((eh9.2.1 115 (by decide)).trans ((eh8.2.1 115 (by decide)).trans ((eh7.2.1 115 (by decide)).trans ((eh6.2.1 115 (by decide)).trans ((eh5.2.1 115 (by decide)).trans ((eh4.2.1 115 (by decide)).trans eh3.1)))))) rfl rfl rfl (Nat.le_of_ble_eq_true rfl) rfl (fun hh10 eh10 => ?_)
                  refine xi_return kc_15_130 mr_15 ?_
                  show xw J ov 99 10 (121, [(4, .int 0), (0, .ref 115), (1, .int 2), (2, .int 3), (3, .int a3)], [], hh10) _
                  refine xi_iload (pc' := 123) (x := 0) kc_10_121 rfl rfl ?_
                  refine xi_ireturn kc_10_123 mr_10 rfl ?_
                  show xw J ov 100 196 (236, [(4, .int 0), (3, .ref 167), (2, .ref 115), (1, .ref 0), (0, .ref 1000000)], [.int 0, .int 0], hh10) _
                  refine xi_cmt (pc' := 1528) kc_196_236 rfl rfl ?_
                  refine xi_iinc (pc' := 1531) (x := 0) (v := 6) (lv' := [(4, .int 6), (3, .ref 167), (2, .ref 115), (1, .ref 0), (0, .ref 1000000)]) kc_196_1528 rfl rfl rfl rfl (xm_lt ml_196 rfl) ?_
                  refine xi_goto (pc' := 23) kc_196_1531 rfl ?_
                  refine xi_iload (pc' := 25) (x := 6) kc_196_23 rfl rfl ?_
                  refine xi_aload_n (pc' := 26) (x := 1000000) kc_196_25 rfl rfl ?_
                  refine xi_arraylength (pc' := 27) (n := 6) (v := 6) kc_196_26 rfl (xl_lenO (by decide) hov0 rfl) rfl ?_
                  refine xi_bipush (pc' := 29) (v := 6) kc_196_27 rfl rfl ?_
                  refine xi_isub (pc' := 30) (v := 0) kc_196_29 rfl rfl ?_
                  refine xi_cmt (pc' := 1534) kc_196_30 rfl rfl ?_
                  refine xi_iconst (pc' := 1535) (v := 1) kc_196_1534 rfl rfl ?_
                  refine xi_ireturn kc_196_1535 mr_196 rfl ?_
                  refine ⟨rfl, ?_, ?_⟩
                  · rw [eh10.2.2.1, eh9.2.2.1, eh8.2.2.1, eh7.2.2.1, eh6.2.2.1, eh5.2.2.1, eh4.2.2.1, eh3.2.2.1, eh2.2.2.1, eh1.2.2.1]; exact hn0
                  · rw [eh10.2.2.2, eh9.2.2.2, eh8.2.2.2, eh7.2.2.2, eh6.2.2.2, eh5.2.2.2, eh4.2.2.2, eh3.2.2.2, eh2.2.2.2, eh1.2.2.2]; exact hz0
                by_cases c35 : a1.toInt = 3
                · have qa1 : a1 = 3 := xc_of (Eq.trans (by omega) (show (3 : Int) = (3 : Int32).toInt by decide))
                  subst qa1
                  refine xi_aaload (pc' := 13) (b := 20) kc_93_12 rfl ((eh1.2.1 2 (by decide)).trans (F 2 _ hl_2)) rfl (xi_in (n := 6) (by decide) (by decide)) rfl ?_
                  refine xi_iload_n (pc' := 14) (x := 3) kc_93_13 rfl rfl ?_
                  refine xi_iload_n (pc' := 15) (x := a3) kc_93_14 rfl rfl ?_
                  refine xi_virtual (mj := 94) (as := [.int 3, .int a3]) (st1 := []) (lv0 := [(0, .ref 20), (1, .int 3), (2, .int a3)]) kc_93_15 rfl rfl rfl rfl rfl ((eh1.2.1 20 (by decide)).trans (F 20 _ hl_20)) (Nat.le_of_ble_eq_true rfl) (hJ _ _ _ _ (by decide)) (xm_le ml_94 rfl) rfl ?_
                  refine xi_iload_n (pc' := 1) (x := 3) kc_94_0 rfl rfl ?_
                  refine xi_iff (pc' := 4) kc_94_1 rfl rfl ?_
                  refine xi_iload_n (pc' := 5) (x := 3) kc_94_4 rfl rfl ?_
                  refine xi_iconst (pc' := 6) (v := 5) kc_94_5 rfl rfl ?_
                  refine xi_cmt (pc' := 11) kc_94_6 rfl rfl ?_
                  refine xi_aload_n (pc' := 12) (x := 20) kc_94_11 rfl rfl ?_
                  refine xi_getfield (pc' := 15) (v := .ref 21) kc_94_12 rfl rfl rfl ((eh1.2.1 20 (by decide)).trans (F 20 _ hl_20)) rfl ?_
                  refine xi_iload_n (pc' := 16) (x := 3) kc_94_15 rfl rfl ?_
                  refine xi_iaload (pc' := 17) (v := 0) kc_94_16 rfl ((eh1.2.1 21 (by decide)).trans (F 21 _ hl_21)) (by decide) rfl (xi_in (n := 5) (by decide) (by decide)) rfl ?_
                  refine xi_istore_n (pc' := 18) (lv' := [(3, .int 0), (0, .ref 20), (1, .int 3), (2, .int a3)]) kc_94_17 rfl rfl (xm_lt ml_94 rfl) ?_
                  refine xi_aload_n (pc' := 19) (x := 20) kc_94_18 rfl rfl ?_
                  refine xi_getfield (pc' := 22) (v := .ref 21) kc_94_19 rfl rfl rfl ((eh1.2.1 20 (by decide)).trans (F 20 _ hl_20)) rfl ?_
                  refine xi_iload_n (pc' := 23) (x := 3) kc_94_22 rfl rfl ?_
                  refine xi_iload_n (pc' := 24) (x := a3) kc_94_23 rfl rfl ?_
                  refine xi_iastore (pc' := 25) (x' := [40, 18, 10, a3, 0]) kc_94_24 rfl ((eh1.2.1 21 (by decide)).trans (F 21 _ hl_21)) rfl (xi_in (n := 5) (by decide) (by decide)) rfl (fun hh2 eh2 => ?_)
                  refine xi_iload_n (pc' := 26) (x := 0) kc_94_25 rfl rfl ?_
                  refine xi_ireturn kc_94_26 mr_94 rfl ?_
                  show xw J ov 98 93 (18, [(0, .ref 1), (1, .int 3), (2, .int 3), (3, .int a3)], [.int 0], hh2) _
                  refine xi_goto (pc' := 22) kc_93_18 rfl ?_
                  refine xi_ireturn kc_93_22 mr_93 rfl ?_
                  show xw J ov 99 89 (107, [(0, .ref 0), (1, .int 3), (2, .int 3), (3, .int a3)], [.int 0], hh2) _
                  refine xi_ireturn kc_89_107 mr_89 rfl ?_
                  show xw J ov 100 196 (214, [(4, .int 0), (3, .ref 167), (2, .ref 115), (1, .ref 0), (0, .ref 1000000)], [.int 0], hh2) _
                  refine xi_aload_n (pc' := 215) (x := 115) kc_196_214 rfl rfl ?_
                  refine xi_aload_n (pc' := 216) (x := 1000000) kc_196_215 rfl rfl ?_
                  refine xi_iload (pc' := 218) (x := 0) kc_196_216 rfl rfl ?_
                  refine xi_iconst (pc' := 219) (v := 1) kc_196_218 rfl rfl ?_
                  refine xi_iadd (pc' := 220) (v := 1) kc_196_219 rfl rfl ?_
                  refine xi_ialoadO (pc' := 221) (v := 3) kc_196_220 rfl (by decide) hov0 (xi_in (n := 6) (by decide) (by decide)) rfl ?_
                  refine xi_aload_n (pc' := 222) (x := 1000000) kc_196_221 rfl rfl ?_
                  refine xi_iload (pc' := 224) (x := 0) kc_196_222 rfl rfl ?_
                  refine xi_iconst (pc' := 225) (v := 2) kc_196_224 rfl rfl ?_
                  refine xi_iadd (pc' := 226) (v := 2) kc_196_225 rfl rfl ?_
                  refine xi_ialoadO (pc' := 227) (v := 3) kc_196_226 rfl (by decide) hov0 (xi_in (n := 6) (by decide) (by decide)) rfl ?_
                  refine xi_aload_n (pc' := 228) (x := 1000000) kc_196_227 rfl rfl ?_
                  refine xi_iload (pc' := 230) (x := 0) kc_196_228 rfl rfl ?_
                  refine xi_iconst (pc' := 231) (v := 3) kc_196_230 rfl rfl ?_
                  refine xi_iadd (pc' := 232) (v := 3) kc_196_231 rfl rfl ?_
                  refine xi_ialoadO (pc' := 233) (v := a3) kc_196_232 rfl (by decide) hov0 (xi_in (n := 6) (by decide) (by decide)) rfl ?_
                  refine xi_virtual (mj := 10) (as := [.int 3, .int 3, .int a3]) (st1 := [.int 0]) (lv0 := [(0, .ref 115), (1, .int 3), (2, .int 3), (3, .int a3)]) kc_196_233 rfl rfl rfl rfl rfl ((eh2.2.1 115 (by decide)).trans ((eh1.2.1 115 (by decide)).trans (F 115 _ hl_115))) (Nat.le_of_ble_eq_true rfl) (hJ _ _ _ _ (by decide)) (xm_le ml_10 rfl) rfl ?_
                  refine xi_aload_n (pc' := 1) (x := 115) kc_10_0 rfl rfl ?_
                  refine xi_iconst (pc' := 2) (v := 0) kc_10_1 rfl rfl ?_
                  refine xi_putfield (pc' := 5) (fs' := [.int 0, .int 0, .ref 116, .ref 117, .ref 118, .ref 119, .ref 120, .ref 121, .ref 122, .ref 123, .ref 124, .ref 125, .ref 126, .ref 127, .ref 128, .ref 129, .int 4, .ref 130, .int 0, .ref 131, .ref 132, .ref 133, .ref 134, .int 0, .ref 135, .ref 136, .ref 137, .ref 138, .ref 139, .ref 140, .ref 141, .ref 142, .int 0, .int 0, .int 0, .ref 143, .ref 144, .ref 145, .ref 146, .ref 147, .ref 148, .int 0, .ref 149, .ref 150, .ref 151, .int 0, .ref 152, .ref 153, .ref 154, .ref 155, .ref 156, .ref 157, .ref 158, .ref 159, .int 0, .ref 160, .int 0, .ref 161, .ref 162, .ref 163, .ref 164, .int 0, .ref 165, .ref 166]) kc_10_2 rfl rfl rfl ((eh2.2.1 115 (by decide)).trans ((eh1.2.1 115 (by decide)).trans (F 115 _ hl_115))) rfl rfl rfl (Nat.le_of_ble_eq_true rfl) rfl (fun hh3 eh3 => ?_)
                  refine xi_iload_n (pc' := 6) (x := 3) kc_10_5 rfl rfl ?_
                  refine xi_static (mj := 11) (as := [.int 3]) (st1 := []) (lv0 := [(0, .int 3)]) kc_10_6 rfl rfl (Nat.le_of_ble_eq_true rfl) rfl rfl (Nat.le_of_ble_eq_true rfl) (hJ _ _ _ _ (by decide)) (xm_le ml_11 rfl) rfl ?_
                  refine xi_iload_n (pc' := 1) (x := 3) kc_11_0 rfl rfl ?_
                  refine xi_iconst (pc' := 2) (v := 0) kc_11_1 rfl rfl ?_
                  refine xi_iconst (pc' := 3) (v := 5) kc_11_2 rfl rfl ?_
                  refine xi_static (mj := 12) (as := [.int 3, .int 0, .int 5]) (st1 := []) (lv0 := [(0, .int 3), (1, .int 0), (2, .int 5)]) kc_11_3 rfl rfl (Nat.le_of_ble_eq_true rfl) rfl rfl (Nat.le_of_ble_eq_true rfl) (hJ _ _ _ _ (by decide)) (xm_le ml_12 rfl) rfl ?_
                  refine xi_iload_n (pc' := 1) (x := 3) kc_12_0 rfl rfl ?_
                  refine xi_iload_n (pc' := 2) (x := 0) kc_12_1 rfl rfl ?_
                  refine xi_cmf (pc' := 5) kc_12_2 rfl rfl ?_
                  refine xi_iload_n (pc' := 6) (x := 3) kc_12_5 rfl rfl ?_
                  refine xi_iload_n (pc' := 7) (x := 5) kc_12_6 rfl rfl ?_
                  refine xi_cmf (pc' := 10) kc_12_7 rfl rfl ?_
                  refine xi_iconst (pc' := 11) (v := 1) kc_12_10 rfl rfl ?_
                  refine xi_goto (pc' := 15) kc_12_11 rfl ?_
                  refine xi_ireturn kc_12_15 mr_12 rfl ?_
                  show xw J ov 98 11 (6, [(0, .int 3)], [.int 1], hh3) _
                  refine xi_ireturn kc_11_6 mr_11 rfl ?_
                  show xw J ov 99 10 (9, [(0, .ref 115), (1, .int 3), (2, .int 3), (3, .int a3)], [.int 1], hh3) _
                  refine xi_ift (pc' := 18) kc_10_9 rfl rfl ?_
                  refine xi_iload_n (pc' := 19) (x := 3) kc_10_18 rfl rfl ?_
                  refine xi_iconst (pc' := 20) (v := 0) kc_10_19 rfl rfl ?_
                  refine xi_iconst (pc' := 21) (v := 5) kc_10_20 rfl rfl ?_
                  refine xi_static (mj := 12) (as := [.int 3, .int 0, .int 5]) (st1 := []) (lv0 := [(0, .int 3), (1, .int 0), (2, .int 5)]) kc_10_21 rfl rfl (Nat.le_of_ble_eq_true rfl) rfl rfl (Nat.le_of_ble_eq_true rfl) (hJ _ _ _ _ (by decide)) (xm_le ml_12 rfl) rfl ?_
                  refine xi_iload_n (pc' := 1) (x := 3) kc_12_0 rfl rfl ?_
                  refine xi_iload_n (pc' := 2) (x := 0) kc_12_1 rfl rfl ?_
                  refine xi_cmf (pc' := 5) kc_12_2 rfl rfl ?_
                  refine xi_iload_n (pc' := 6) (x := 3) kc_12_5 rfl rfl ?_
                  refine xi_iload_n (pc' := 7) (x := 5) kc_12_6 rfl rfl ?_
                  refine xi_cmf (pc' := 10) kc_12_7 rfl rfl ?_
                  refine xi_iconst (pc' := 11) (v := 1) kc_12_10 rfl rfl ?_
                  refine xi_goto (pc' := 15) kc_12_11 rfl ?_
                  refine xi_ireturn kc_12_15 mr_12 rfl ?_
                  show xw J ov 99 10 (24, [(0, .ref 115), (1, .int 3), (2, .int 3), (3, .int a3)], [.int 1], hh3) _
                  refine xi_ift (pc' := 34) kc_10_24 rfl rfl ?_
                  refine xi_iload_n (pc' := 35) (x := a3) kc_10_34 rfl rfl ?_
                  refine xi_iload_n (pc' := 36) (x := 3) kc_10_35 rfl rfl ?_
                  refine xi_ift (pc' := 44) kc_10_36 rfl rfl ?_
                  refine xi_iconst (pc' := 45) (v := 0) kc_10_44 rfl rfl ?_
                  refine xi_cmt (pc' := 55) kc_10_45 rfl (xc_ge_t (X := a3.toInt) (Y := 0) rfl (by decide) (by omega)) ?_
                  refine xi_iload_n (pc' := 56) (x := a3) kc_10_55 rfl rfl ?_
                  refine xi_iload_n (pc' := 57) (x := 3) kc_10_56 rfl rfl ?_
                  refine xi_ift (pc' := 65) kc_10_57 rfl rfl ?_
                  refine xi_iload_n (pc' := 66) (x := 3) kc_10_65 rfl rfl ?_
                  refine xi_iconst (pc' := 67) (v := 1) kc_10_66 rfl rfl ?_
                  refine xi_cmt (pc' := 75) kc_10_67 rfl rfl ?_
                  refine xi_iload_n (pc' := 76) (x := 3) kc_10_75 rfl rfl ?_
                  refine xi_iconst (pc' := 77) (v := 4) kc_10_76 rfl rfl ?_
                  refine xi_cmf (pc' := 80) kc_10_77 rfl rfl ?_
                  refine xi_bipush (pc' := 82) (v := 50) kc_10_80 rfl rfl ?_
                  refine xi_goto (pc' := 96) kc_10_82 rfl ?_
                  refine xi_cmt (pc' := 106) kc_10_96 rfl (xc_le_t (X := a3.toInt) (Y := 50) rfl (by decide) (by omega)) ?_
                  refine xi_aload_n (pc' := 107) (x := 115) kc_10_106 rfl rfl ?_
                  refine xi_iload_n (pc' := 108) (x := 3) kc_10_107 rfl rfl ?_
                  refine xi_iload_n (pc' := 109) (x := 3) kc_10_108 rfl rfl ?_
                  refine xi_virtual (mj := 14) (as := [.int 3, .int 3]) (st1 := []) (lv0 := [(0, .ref 115), (1, .int 3), (2, .int 3)]) kc_10_109 rfl rfl rfl rfl rfl eh3.1 (Nat.le_of_ble_eq_true rfl) (hJ _ _ _ _ (by decide)) (xm_le ml_14 rfl) rfl ?_
                  refine xi_iload_n (pc' := 1) (x := 3) kc_14_0 rfl rfl ?_
                  refine xi_tsi (pc' := 57) (z := 3) kc_14_1 (rfl) rfl (by decide) ?_
                  refine xi_aload_n (pc' := 58) (x := 115) kc_14_57 rfl rfl ?_
                  refine xi_getfield (pc' := 61) (v := .ref 119) kc_14_58 rfl rfl rfl eh3.1 rfl ?_
                  refine xi_iload_n (pc' := 62) (x := 3) kc_14_61 rfl rfl ?_
                  refine xi_iaload (pc' := 63) (v := 0) kc_14_62 rfl ((eh3.2.1 119 (by decide)).trans ((eh2.2.1 119 (by decide)).trans ((eh1.2.1 119 (by decide)).trans (F 119 _ hl_119)))) (by decide) rfl (xi_in (n := 6) (by decide) (by decide)) rfl ?_
                  refine xi_ireturn kc_14_63 mr_14 rfl ?_
                  show xw J ov 99 10 (112, [(0, .ref 115), (1, .int 3), (2, .int 3), (3, .int a3)], [.int 0], hh3) _
                  refine xi_istore (pc' := 114) (lv' := [(4, .int 0), (0, .ref 115), (1, .int 3), (2, .int 3), (3, .int a3)]) kc_10_112 rfl rfl (xm_lt ml_10 rfl) ?_
                  refine xi_aload_n (pc' := 115) (x := 115) kc_10_114 rfl rfl ?_
                  refine xi_iload_n (pc' := 116) (x := 3) kc_10_115 rfl rfl ?_
                  refine xi_iload_n (pc' := 117) (x := 3) kc_10_116 rfl rfl ?_
                  refine xi_iload_n (pc' := 118) (x := a3) kc_10_117 rfl rfl ?_
                  refine xi_virtual (mj := 15) (as := [.int 3, .int 3, .int a3]) (st1 := []) (lv0 := [(0, .ref 115), (1, .int 3), (2, .int 3), (3, .int a3)]) kc_10_118 rfl rfl rfl rfl rfl eh3.1 (Nat.le_of_ble_eq_true rfl) (hJ _ _ _ _ (by decide)) (xm_le ml_15 rfl) rfl ?_
                  refine xi_aload_n (pc' := 1) (x := 115) kc_15_0 rfl rfl ?_
                  refine xi_getfield (pc' := 4) (v := .ref 116) kc_15_1 rfl rfl rfl eh3.1 rfl ?_
                  refine xi_iload_n (pc' := 5) (x := 3) kc_15_4 rfl rfl ?_
                  refine xi_iload_n (pc' := 6) (x := 3) kc_15_5 rfl rfl ?_
                  refine xi_ift (pc' := 13) kc_15_6 rfl rfl ?_
                  refine xi_aload_n (pc' := 14) (x := 115) kc_15_13 rfl rfl ?_
                  refine xi_getfield (pc' := 17) (v := .ref 116) kc_15_14 rfl rfl rfl eh3.1 rfl ?_
                  refine xi_iload_n (pc' := 18) (x := 3) kc_15_17 rfl rfl ?_
                  refine xi_iaload (pc' := 19) (v := 40) kc_15_18 rfl ((eh3.2.1 116 (by decide)).trans ((eh2.2.1 116 (by decide)).trans ((eh1.2.1 116 (by decide)).trans (F 116 _ hl_116)))) (by decide) rfl (xi_in (n := 6) (by decide) (by decide)) rfl ?_
                  refine xi_iastore (pc' := 20) (x' := [40, 40, 40, 40, 40, 40]) kc_15_19 rfl ((eh3.2.1 116 (by decide)).trans ((eh2.2.1 116 (by decide)).trans ((eh1.2.1 116 (by decide)).trans (F 116 _ hl_116)))) rfl (xi_in (n := 6) (by decide) (by decide)) rfl (fun hh4 eh4 => ?_)
                  refine xi_aload_n (pc' := 21) (x := 115) kc_15_20 rfl rfl ?_
                  refine xi_getfield (pc' := 24) (v := .ref 117) kc_15_21 rfl rfl rfl ((eh4.2.1 115 (by decide)).trans eh3.1) rfl ?_
                  refine xi_iload_n (pc' := 25) (x := 3) kc_15_24 rfl rfl ?_
                  refine xi_iload_n (pc' := 26) (x := 3) kc_15_25 rfl rfl ?_
                  refine xi_iconst (pc' := 27) (v := 1) kc_15_26 rfl rfl ?_
                  refine xi_cmt (pc' := 34) kc_15_27 rfl rfl ?_
                  refine xi_aload_n (pc' := 35) (x := 115) kc_15_34 rfl rfl ?_
                  refine xi_getfield (pc' := 38) (v := .ref 117) kc_15_35 rfl rfl rfl ((eh4.2.1 115 (by decide)).trans eh3.1) rfl ?_
                  refine xi_iload_n (pc' := 39) (x := 3) kc_15_38 rfl rfl ?_
                  refine xi_iaload (pc' := 40) (v := 18) kc_15_39 rfl ((eh4.2.1 117 (by decide)).trans ((eh3.2.1 117 (by decide)).trans ((eh2.2.1 117 (by decide)).trans ((eh1.2.1 117 (by decide)).trans (F 117 _ hl_117))))) (by decide) rfl (xi_in (n := 6) (by decide) (by decide)) rfl ?_
                  refine xi_iastore (pc' := 41) (x' := [18, 18, 18, 18, 18, 18]) kc_15_40 rfl ((eh4.2.1 117 (by decide)).trans ((eh3.2.1 117 (by decide)).trans ((eh2.2.1 117 (by decide)).trans ((eh1.2.1 117 (by decide)).trans (F 117 _ hl_117))))) rfl (xi_in (n := 6) (by decide) (by decide)) rfl (fun hh5 eh5 => ?_)
                  refine xi_aload_n (pc' := 42) (x := 115) kc_15_41 rfl rfl ?_
                  refine xi_getfield (pc' := 45) (v := .ref 118) kc_15_42 rfl rfl rfl ((eh5.2.1 115 (by decide)).trans ((eh4.2.1 115 (by decide)).trans eh3.1)) rfl ?_
                  refine xi_iload_n (pc' := 46) (x := 3) kc_15_45 rfl rfl ?_
                  refine xi_iload_n (pc' := 47) (x := 3) kc_15_46 rfl rfl ?_
                  refine xi_iconst (pc' := 48) (v := 2) kc_15_47 rfl rfl ?_
                  refine xi_cmt (pc' := 55) kc_15_48 rfl rfl ?_
                  refine xi_aload_n (pc' := 56) (x := 115) kc_15_55 rfl rfl ?_
                  refine xi_getfield (pc' := 59) (v := .ref 118) kc_15_56 rfl rfl rfl ((eh5.2.1 115 (by decide)).trans ((eh4.2.1 115 (by decide)).trans eh3.1)) rfl ?_
                  refine xi_iload_n (pc' := 60) (x := 3) kc_15_59 rfl rfl ?_
                  refine xi_iaload (pc' := 61) (v := 10) kc_15_60 rfl ((eh5.2.1 118 (by decide)).trans ((eh4.2.1 118 (by decide)).trans ((eh3.2.1 118 (by decide)).trans ((eh2.2.1 118 (by decide)).trans ((eh1.2.1 118 (by decide)).trans (F 118 _ hl_118)))))) (by decide) rfl (xi_in (n := 6) (by decide) (by decide)) rfl ?_
                  refine xi_iastore (pc' := 62) (x' := [10, 10, 10, 10, 10, 10]) kc_15_61 rfl ((eh5.2.1 118 (by decide)).trans ((eh4.2.1 118 (by decide)).trans ((eh3.2.1 118 (by decide)).trans ((eh2.2.1 118 (by decide)).trans ((eh1.2.1 118 (by decide)).trans (F 118 _ hl_118)))))) rfl (xi_in (n := 6) (by decide) (by decide)) rfl (fun hh6 eh6 => ?_)
                  refine xi_aload_n (pc' := 63) (x := 115) kc_15_62 rfl rfl ?_
                  refine xi_getfield (pc' := 66) (v := .ref 119) kc_15_63 rfl rfl rfl ((eh6.2.1 115 (by decide)).trans ((eh5.2.1 115 (by decide)).trans ((eh4.2.1 115 (by decide)).trans eh3.1))) rfl ?_
                  refine xi_iload_n (pc' := 67) (x := 3) kc_15_66 rfl rfl ?_
                  refine xi_iload_n (pc' := 68) (x := 3) kc_15_67 rfl rfl ?_
                  refine xi_iconst (pc' := 69) (v := 3) kc_15_68 rfl rfl ?_
                  refine xi_cmf (pc' := 72) kc_15_69 rfl rfl ?_
                  refine xi_iload_n (pc' := 73) (x := a3) kc_15_72 rfl rfl ?_
                  refine xi_goto (pc' := 82) kc_15_73 rfl ?_
                  refine xi_iastore (pc' := 83) (x' := [0, 0, 0, a3, 0, 0]) kc_15_82 rfl ((eh6.2.1 119 (by decide)).trans ((eh5.2.1 119 (by decide)).trans ((eh4.2.1 119 (by decide)).trans ((eh3.2.1 119 (by decide)).trans ((eh2.2.1 119 (by decide)).trans ((eh1.2.1 119 (by decide)).trans (F 119 _ hl_119))))))) rfl (xi_in (n := 6) (by decide) (by decide)) rfl (fun hh7 eh7 => ?_)
                  refine xi_aload_n (pc' := 84) (x := 115) kc_15_83 rfl rfl ?_
                  refine xi_getfield (pc' := 87) (v := .ref 120) kc_15_84 rfl rfl rfl ((eh7.2.1 115 (by decide)).trans ((eh6.2.1 115 (by decide)).trans ((eh5.2.1 115 (by decide)).trans ((eh4.2.1 115 (by decide)).trans eh3.1)))) rfl ?_
                  refine xi_iload_n (pc' := 88) (x := 3) kc_15_87 rfl rfl ?_
                  refine xi_iload_n (pc' := 89) (x := 3) kc_15_88 rfl rfl ?_
                  refine xi_iconst (pc' := 90) (v := 4) kc_15_89 rfl rfl ?_
                  refine xi_cmt (pc' := 97) kc_15_90 rfl rfl ?_
                  refine xi_aload_n (pc' := 98) (x := 115) kc_15_97 rfl rfl ?_
                  refine xi_getfield (pc' := 101) (v := .ref 120) kc_15_98 rfl rfl rfl ((eh7.2.1 115 (by decide)).trans ((eh6.2.1 115 (by decide)).trans ((eh5.2.1 115 (by decide)).trans ((eh4.2.1 115 (by decide)).trans eh3.1)))) rfl ?_
                  refine xi_iload_n (pc' := 102) (x := 3) kc_15_101 rfl rfl ?_
                  refine xi_iaload (pc' := 103) (v := 0) kc_15_102 rfl ((eh7.2.1 120 (by decide)).trans ((eh6.2.1 120 (by decide)).trans ((eh5.2.1 120 (by decide)).trans ((eh4.2.1 120 (by decide)).trans ((eh3.2.1 120 (by decide)).trans ((eh2.2.1 120 (by decide)).trans ((eh1.2.1 120 (by decide)).trans (F 120 _ hl_120)))))))) (by decide) rfl (xi_in (n := 6) (by decide) (by decide)) rfl ?_
                  refine xi_iastore (pc' := 104) (x' := [0, 0, 0, 0, 0, 0]) kc_15_103 rfl ((eh7.2.1 120 (by decide)).trans ((eh6.2.1 120 (by decide)).trans ((eh5.2.1 120 (by decide)).trans ((eh4.2.1 120 (by decide)).trans ((eh3.2.1 120 (by decide)).trans ((eh2.2.1 120 (by decide)).trans ((eh1.2.1 120 (by decide)).trans (F 120 _ hl_120)))))))) rfl (xi_in (n := 6) (by decide) (by decide)) rfl (fun hh8 eh8 => ?_)
                  refine xi_aload_n (pc' := 105) (x := 115) kc_15_104 rfl rfl ?_
                  refine xi_getfield (pc' := 108) (v := .ref 121) kc_15_105 rfl rfl rfl ((eh8.2.1 115 (by decide)).trans ((eh7.2.1 115 (by decide)).trans ((eh6.2.1 115 (by decide)).trans ((eh5.2.1 115 (by decide)).trans ((eh4.2.1 115 (by decide)).trans eh3.1))))) rfl ?_
                  refine xi_iload_n (pc' := 109) (x := 3) kc_15_108 rfl rfl ?_
                  refine xi_iload_n (pc' := 110) (x := 3) kc_15_109 rfl rfl ?_
                  refine xi_iconst (pc' := 111) (v := 5) kc_15_110 rfl rfl ?_
                  refine xi_cmt (pc' := 118) kc_15_111 rfl rfl ?_
                  refine xi_aload_n (pc' := 119) (x := 115) kc_15_118 rfl rfl ?_
                  refine xi_getfield (pc' := 122) (v := .ref 121) kc_15_119 rfl rfl rfl ((eh8.2.1 115 (by decide)).trans ((eh7.2.1 115 (by decide)).trans ((eh6.2.1 115 (by decide)).trans ((eh5.2.1 115 (by decide)).trans ((eh4.2.1 115 (by decide)).trans eh3.1))))) rfl ?_
                  refine xi_iload_n (pc' := 123) (x := 3) kc_15_122 rfl rfl ?_
                  refine xi_iaload (pc' := 124) (v := 0) kc_15_123 rfl ((eh8.2.1 121 (by decide)).trans ((eh7.2.1 121 (by decide)).trans ((eh6.2.1 121 (by decide)).trans ((eh5.2.1 121 (by decide)).trans ((eh4.2.1 121 (by decide)).trans ((eh3.2.1 121 (by decide)).trans ((eh2.2.1 121 (by decide)).trans ((eh1.2.1 121 (by decide)).trans (F 121 _ hl_121))))))))) (by decide) rfl (xi_in (n := 6) (by decide) (by decide)) rfl ?_
                  refine xi_iastore (pc' := 125) (x' := [0, 0, 0, 0, 0, 0]) kc_15_124 rfl ((eh8.2.1 121 (by decide)).trans ((eh7.2.1 121 (by decide)).trans ((eh6.2.1 121 (by decide)).trans ((eh5.2.1 121 (by decide)).trans ((eh4.2.1 121 (by decide)).trans ((eh3.2.1 121 (by decide)).trans ((eh2.2.1 121 (by decide)).trans ((eh1.2.1 121 (by decide)).trans (F 121 _ hl_121))))))))) rfl (xi_in (n := 6) (by decide) (by decide)) rfl (fun hh9 eh9 => ?_)
                  refine xi_aload_n (pc' := 126) (x := 115) kc_15_125 rfl rfl ?_
                  refine xi_iconst (pc' := 127) (v := 0) kc_15_126 rfl rfl ?_
                  refine xi_putfield (pc' := 130) (fs' := [.int 0, .int 0, .ref 116, .ref 117, .ref 118, .ref 119, .ref 120, .ref 121, .ref 122, .ref 123, .ref 124, .ref 125, .ref 126, .ref 127, .ref 128, .ref 129, .int 4, .ref 130, .int 0, .ref 131, .ref 132, .ref 133, .ref 134, .int 0, .ref 135, .ref 136, .ref 137, .ref 138, .ref 139, .ref 140, .ref 141, .ref 142, .int 0, .int 0, .int 0, .ref 143, .ref 144, .ref 145, .ref 146, .ref 147, .ref 148, .int 0, .ref 149, .ref 150, .ref 151, .int 0, .ref 152, .ref 153, .ref 154, .ref 155, .ref 156, .ref 157, .ref 158, .ref 159, .int 0, .ref 160, .int 0, .ref 161, .ref 162, .ref 163, .ref 164, .int 0, .ref 165, .ref 166]) kc_15_127 rfl rfl rfl ((eh9.2.1 115 (by decide)).trans ((eh8.2.1 115 (by decide)).trans ((eh7.2.1 115 (by decide)).trans ((eh6.2.1 115 (by decide)).trans ((eh5.2.1 115 (by decide)).trans ((eh4.2.1 115 (by decide)).trans eh3.1)))))) rfl rfl rfl (Nat.le_of_ble_eq_true rfl) rfl (fun hh10 eh10 => ?_)
                  refine xi_return kc_15_130 mr_15 ?_
                  show xw J ov 99 10 (121, [(4, .int 0), (0, .ref 115), (1, .int 3), (2, .int 3), (3, .int a3)], [], hh10) _
                  refine xi_iload (pc' := 123) (x := 0) kc_10_121 rfl rfl ?_
                  refine xi_ireturn kc_10_123 mr_10 rfl ?_
                  show xw J ov 100 196 (236, [(4, .int 0), (3, .ref 167), (2, .ref 115), (1, .ref 0), (0, .ref 1000000)], [.int 0, .int 0], hh10) _
                  refine xi_cmt (pc' := 1528) kc_196_236 rfl rfl ?_
                  refine xi_iinc (pc' := 1531) (x := 0) (v := 6) (lv' := [(4, .int 6), (3, .ref 167), (2, .ref 115), (1, .ref 0), (0, .ref 1000000)]) kc_196_1528 rfl rfl rfl rfl (xm_lt ml_196 rfl) ?_
                  refine xi_goto (pc' := 23) kc_196_1531 rfl ?_
                  refine xi_iload (pc' := 25) (x := 6) kc_196_23 rfl rfl ?_
                  refine xi_aload_n (pc' := 26) (x := 1000000) kc_196_25 rfl rfl ?_
                  refine xi_arraylength (pc' := 27) (n := 6) (v := 6) kc_196_26 rfl (xl_lenO (by decide) hov0 rfl) rfl ?_
                  refine xi_bipush (pc' := 29) (v := 6) kc_196_27 rfl rfl ?_
                  refine xi_isub (pc' := 30) (v := 0) kc_196_29 rfl rfl ?_
                  refine xi_cmt (pc' := 1534) kc_196_30 rfl rfl ?_
                  refine xi_iconst (pc' := 1535) (v := 1) kc_196_1534 rfl rfl ?_
                  refine xi_ireturn kc_196_1535 mr_196 rfl ?_
                  refine ⟨rfl, ?_, ?_⟩
                  · rw [eh10.2.2.1, eh9.2.2.1, eh8.2.2.1, eh7.2.2.1, eh6.2.2.1, eh5.2.2.1, eh4.2.2.1, eh3.2.2.1, eh2.2.2.1, eh1.2.2.1]; exact hn0
                  · rw [eh10.2.2.2, eh9.2.2.2, eh8.2.2.2, eh7.2.2.2, eh6.2.2.2, eh5.2.2.2, eh4.2.2.2, eh3.2.2.2, eh2.2.2.2, eh1.2.2.2]; exact hz0
                by_cases c36 : a1.toInt = 4
                · have qa1 : a1 = 4 := xc_of (Eq.trans (by omega) (show (4 : Int) = (4 : Int32).toInt by decide))
                  subst qa1
                  refine xi_aaload (pc' := 13) (b := 23) kc_93_12 rfl ((eh1.2.1 2 (by decide)).trans (F 2 _ hl_2)) rfl (xi_in (n := 6) (by decide) (by decide)) rfl ?_
                  refine xi_iload_n (pc' := 14) (x := 3) kc_93_13 rfl rfl ?_
                  refine xi_iload_n (pc' := 15) (x := a3) kc_93_14 rfl rfl ?_
                  refine xi_virtual (mj := 94) (as := [.int 3, .int a3]) (st1 := []) (lv0 := [(0, .ref 23), (1, .int 3), (2, .int a3)]) kc_93_15 rfl rfl rfl rfl rfl ((eh1.2.1 23 (by decide)).trans (F 23 _ hl_23)) (Nat.le_of_ble_eq_true rfl) (hJ _ _ _ _ (by decide)) (xm_le ml_94 rfl) rfl ?_
                  refine xi_iload_n (pc' := 1) (x := 3) kc_94_0 rfl rfl ?_
                  refine xi_iff (pc' := 4) kc_94_1 rfl rfl ?_
                  refine xi_iload_n (pc' := 5) (x := 3) kc_94_4 rfl rfl ?_
                  refine xi_iconst (pc' := 6) (v := 5) kc_94_5 rfl rfl ?_
                  refine xi_cmt (pc' := 11) kc_94_6 rfl rfl ?_
                  refine xi_aload_n (pc' := 12) (x := 23) kc_94_11 rfl rfl ?_
                  refine xi_getfield (pc' := 15) (v := .ref 24) kc_94_12 rfl rfl rfl ((eh1.2.1 23 (by decide)).trans (F 23 _ hl_23)) rfl ?_
                  refine xi_iload_n (pc' := 16) (x := 3) kc_94_15 rfl rfl ?_
                  refine xi_iaload (pc' := 17) (v := 0) kc_94_16 rfl ((eh1.2.1 24 (by decide)).trans (F 24 _ hl_24)) (by decide) rfl (xi_in (n := 5) (by decide) (by decide)) rfl ?_
                  refine xi_istore_n (pc' := 18) (lv' := [(3, .int 0), (0, .ref 23), (1, .int 3), (2, .int a3)]) kc_94_17 rfl rfl (xm_lt ml_94 rfl) ?_
                  refine xi_aload_n (pc' := 19) (x := 23) kc_94_18 rfl rfl ?_
                  refine xi_getfield (pc' := 22) (v := .ref 24) kc_94_19 rfl rfl rfl ((eh1.2.1 23 (by decide)).trans (F 23 _ hl_23)) rfl ?_
                  refine xi_iload_n (pc' := 23) (x := 3) kc_94_22 rfl rfl ?_
                  refine xi_iload_n (pc' := 24) (x := a3) kc_94_23 rfl rfl ?_
                  refine xi_iastore (pc' := 25) (x' := [40, 18, 10, a3, 0]) kc_94_24 rfl ((eh1.2.1 24 (by decide)).trans (F 24 _ hl_24)) rfl (xi_in (n := 5) (by decide) (by decide)) rfl (fun hh2 eh2 => ?_)
                  refine xi_iload_n (pc' := 26) (x := 0) kc_94_25 rfl rfl ?_
                  refine xi_ireturn kc_94_26 mr_94 rfl ?_
                  show xw J ov 98 93 (18, [(0, .ref 1), (1, .int 4), (2, .int 3), (3, .int a3)], [.int 0], hh2) _
                  refine xi_goto (pc' := 22) kc_93_18 rfl ?_
                  refine xi_ireturn kc_93_22 mr_93 rfl ?_
                  show xw J ov 99 89 (107, [(0, .ref 0), (1, .int 4), (2, .int 3), (3, .int a3)], [.int 0], hh2) _
                  refine xi_ireturn kc_89_107 mr_89 rfl ?_
                  show xw J ov 100 196 (214, [(4, .int 0), (3, .ref 167), (2, .ref 115), (1, .ref 0), (0, .ref 1000000)], [.int 0], hh2) _
                  refine xi_aload_n (pc' := 215) (x := 115) kc_196_214 rfl rfl ?_
                  refine xi_aload_n (pc' := 216) (x := 1000000) kc_196_215 rfl rfl ?_
                  refine xi_iload (pc' := 218) (x := 0) kc_196_216 rfl rfl ?_
                  refine xi_iconst (pc' := 219) (v := 1) kc_196_218 rfl rfl ?_
                  refine xi_iadd (pc' := 220) (v := 1) kc_196_219 rfl rfl ?_
                  refine xi_ialoadO (pc' := 221) (v := 4) kc_196_220 rfl (by decide) hov0 (xi_in (n := 6) (by decide) (by decide)) rfl ?_
                  refine xi_aload_n (pc' := 222) (x := 1000000) kc_196_221 rfl rfl ?_
                  refine xi_iload (pc' := 224) (x := 0) kc_196_222 rfl rfl ?_
                  refine xi_iconst (pc' := 225) (v := 2) kc_196_224 rfl rfl ?_
                  refine xi_iadd (pc' := 226) (v := 2) kc_196_225 rfl rfl ?_
                  refine xi_ialoadO (pc' := 227) (v := 3) kc_196_226 rfl (by decide) hov0 (xi_in (n := 6) (by decide) (by decide)) rfl ?_
                  refine xi_aload_n (pc' := 228) (x := 1000000) kc_196_227 rfl rfl ?_
                  refine xi_iload (pc' := 230) (x := 0) kc_196_228 rfl rfl ?_
                  refine xi_iconst (pc' := 231) (v := 3) kc_196_230 rfl rfl ?_
                  refine xi_iadd (pc' := 232) (v := 3) kc_196_231 rfl rfl ?_
                  refine xi_ialoadO (pc' := 233) (v := a3) kc_196_232 rfl (by decide) hov0 (xi_in (n := 6) (by decide) (by decide)) rfl ?_
                  refine xi_virtual (mj := 10) (as := [.int 4, .int 3, .int a3]) (st1 := [.int 0]) (lv0 := [(0, .ref 115), (1, .int 4), (2, .int 3), (3, .int a3)]) kc_196_233 rfl rfl rfl rfl rfl ((eh2.2.1 115 (by decide)).trans ((eh1.2.1 115 (by decide)).trans (F 115 _ hl_115))) (Nat.le_of_ble_eq_true rfl) (hJ _ _ _ _ (by decide)) (xm_le ml_10 rfl) rfl ?_
                  refine xi_aload_n (pc' := 1) (x := 115) kc_10_0 rfl rfl ?_
                  refine xi_iconst (pc' := 2) (v := 0) kc_10_1 rfl rfl ?_
                  refine xi_putfield (pc' := 5) (fs' := [.int 0, .int 0, .ref 116, .ref 117, .ref 118, .ref 119, .ref 120, .ref 121, .ref 122, .ref 123, .ref 124, .ref 125, .ref 126, .ref 127, .ref 128, .ref 129, .int 4, .ref 130, .int 0, .ref 131, .ref 132, .ref 133, .ref 134, .int 0, .ref 135, .ref 136, .ref 137, .ref 138, .ref 139, .ref 140, .ref 141, .ref 142, .int 0, .int 0, .int 0, .ref 143, .ref 144, .ref 145, .ref 146, .ref 147, .ref 148, .int 0, .ref 149, .ref 150, .ref 151, .int 0, .ref 152, .ref 153, .ref 154, .ref 155, .ref 156, .ref 157, .ref 158, .ref 159, .int 0, .ref 160, .int 0, .ref 161, .ref 162, .ref 163, .ref 164, .int 0, .ref 165, .ref 166]) kc_10_2 rfl rfl rfl ((eh2.2.1 115 (by decide)).trans ((eh1.2.1 115 (by decide)).trans (F 115 _ hl_115))) rfl rfl rfl (Nat.le_of_ble_eq_true rfl) rfl (fun hh3 eh3 => ?_)
                  refine xi_iload_n (pc' := 6) (x := 4) kc_10_5 rfl rfl ?_
                  refine xi_static (mj := 11) (as := [.int 4]) (st1 := []) (lv0 := [(0, .int 4)]) kc_10_6 rfl rfl (Nat.le_of_ble_eq_true rfl) rfl rfl (Nat.le_of_ble_eq_true rfl) (hJ _ _ _ _ (by decide)) (xm_le ml_11 rfl) rfl ?_
                  refine xi_iload_n (pc' := 1) (x := 4) kc_11_0 rfl rfl ?_
                  refine xi_iconst (pc' := 2) (v := 0) kc_11_1 rfl rfl ?_
                  refine xi_iconst (pc' := 3) (v := 5) kc_11_2 rfl rfl ?_
                  refine xi_static (mj := 12) (as := [.int 4, .int 0, .int 5]) (st1 := []) (lv0 := [(0, .int 4), (1, .int 0), (2, .int 5)]) kc_11_3 rfl rfl (Nat.le_of_ble_eq_true rfl) rfl rfl (Nat.le_of_ble_eq_true rfl) (hJ _ _ _ _ (by decide)) (xm_le ml_12 rfl) rfl ?_
                  refine xi_iload_n (pc' := 1) (x := 4) kc_12_0 rfl rfl ?_
                  refine xi_iload_n (pc' := 2) (x := 0) kc_12_1 rfl rfl ?_
                  refine xi_cmf (pc' := 5) kc_12_2 rfl rfl ?_
                  refine xi_iload_n (pc' := 6) (x := 4) kc_12_5 rfl rfl ?_
                  refine xi_iload_n (pc' := 7) (x := 5) kc_12_6 rfl rfl ?_
                  refine xi_cmf (pc' := 10) kc_12_7 rfl rfl ?_
                  refine xi_iconst (pc' := 11) (v := 1) kc_12_10 rfl rfl ?_
                  refine xi_goto (pc' := 15) kc_12_11 rfl ?_
                  refine xi_ireturn kc_12_15 mr_12 rfl ?_
                  show xw J ov 98 11 (6, [(0, .int 4)], [.int 1], hh3) _
                  refine xi_ireturn kc_11_6 mr_11 rfl ?_
                  show xw J ov 99 10 (9, [(0, .ref 115), (1, .int 4), (2, .int 3), (3, .int a3)], [.int 1], hh3) _
                  refine xi_ift (pc' := 18) kc_10_9 rfl rfl ?_
                  refine xi_iload_n (pc' := 19) (x := 3) kc_10_18 rfl rfl ?_
                  refine xi_iconst (pc' := 20) (v := 0) kc_10_19 rfl rfl ?_
                  refine xi_iconst (pc' := 21) (v := 5) kc_10_20 rfl rfl ?_
                  refine xi_static (mj := 12) (as := [.int 3, .int 0, .int 5]) (st1 := []) (lv0 := [(0, .int 3), (1, .int 0), (2, .int 5)]) kc_10_21 rfl rfl (Nat.le_of_ble_eq_true rfl) rfl rfl (Nat.le_of_ble_eq_true rfl) (hJ _ _ _ _ (by decide)) (xm_le ml_12 rfl) rfl ?_
                  refine xi_iload_n (pc' := 1) (x := 3) kc_12_0 rfl rfl ?_
                  refine xi_iload_n (pc' := 2) (x := 0) kc_12_1 rfl rfl ?_
                  refine xi_cmf (pc' := 5) kc_12_2 rfl rfl ?_
                  refine xi_iload_n (pc' := 6) (x := 3) kc_12_5 rfl rfl ?_
                  refine xi_iload_n (pc' := 7) (x := 5) kc_12_6 rfl rfl ?_
                  refine xi_cmf (pc' := 10) kc_12_7 rfl rfl ?_
                  refine xi_iconst (pc' := 11) (v := 1) kc_12_10 rfl rfl ?_
                  refine xi_goto (pc' := 15) kc_12_11 rfl ?_
                  refine xi_ireturn kc_12_15 mr_12 rfl ?_
                  show xw J ov 99 10 (24, [(0, .ref 115), (1, .int 4), (2, .int 3), (3, .int a3)], [.int 1], hh3) _
                  refine xi_ift (pc' := 34) kc_10_24 rfl rfl ?_
                  refine xi_iload_n (pc' := 35) (x := a3) kc_10_34 rfl rfl ?_
                  refine xi_iload_n (pc' := 36) (x := 3) kc_10_35 rfl rfl ?_
                  refine xi_ift (pc' := 44) kc_10_36 rfl rfl ?_
                  refine xi_iconst (pc' := 45) (v := 0) kc_10_44 rfl rfl ?_
                  refine xi_cmt (pc' := 55) kc_10_45 rfl (xc_ge_t (X := a3.toInt) (Y := 0) rfl (by decide) (by omega)) ?_
                  refine xi_iload_n (pc' := 56) (x := a3) kc_10_55 rfl rfl ?_
                  refine xi_iload_n (pc' := 57) (x := 3) kc_10_56 rfl rfl ?_
                  refine xi_ift (pc' := 65) kc_10_57 rfl rfl ?_
                  refine xi_iload_n (pc' := 66) (x := 3) kc_10_65 rfl rfl ?_
                  refine xi_iconst (pc' := 67) (v := 1) kc_10_66 rfl rfl ?_
                  refine xi_cmt (pc' := 75) kc_10_67 rfl rfl ?_
                  refine xi_iload_n (pc' := 76) (x := 3) kc_10_75 rfl rfl ?_
                  refine xi_iconst (pc' := 77) (v := 4) kc_10_76 rfl rfl ?_
                  refine xi_cmf (pc' := 80) kc_10_77 rfl rfl ?_
                  refine xi_bipush (pc' := 82) (v := 50) kc_10_80 rfl rfl ?_
                  refine xi_goto (pc' := 96) kc_10_82 rfl ?_
                  refine xi_cmt (pc' := 106) kc_10_96 rfl (xc_le_t (X := a3.toInt) (Y := 50) rfl (by decide) (by omega)) ?_
                  refine xi_aload_n (pc' := 107) (x := 115) kc_10_106 rfl rfl ?_
                  refine xi_iload_n (pc' := 108) (x := 4) kc_10_107 rfl rfl ?_
                  refine xi_iload_n (pc' := 109) (x := 3) kc_10_108 rfl rfl ?_
                  refine xi_virtual (mj := 14) (as := [.int 4, .int 3]) (st1 := []) (lv0 := [(0, .ref 115), (1, .int 4), (2, .int 3)]) kc_10_109 rfl rfl rfl rfl rfl eh3.1 (Nat.le_of_ble_eq_true rfl) (hJ _ _ _ _ (by decide)) (xm_le ml_14 rfl) rfl ?_
                  refine xi_iload_n (pc' := 1) (x := 3) kc_14_0 rfl rfl ?_
                  refine xi_tsi (pc' := 57) (z := 3) kc_14_1 (rfl) rfl (by decide) ?_
                  refine xi_aload_n (pc' := 58) (x := 115) kc_14_57 rfl rfl ?_
                  refine xi_getfield (pc' := 61) (v := .ref 119) kc_14_58 rfl rfl rfl eh3.1 rfl ?_
                  refine xi_iload_n (pc' := 62) (x := 4) kc_14_61 rfl rfl ?_
                  refine xi_iaload (pc' := 63) (v := 0) kc_14_62 rfl ((eh3.2.1 119 (by decide)).trans ((eh2.2.1 119 (by decide)).trans ((eh1.2.1 119 (by decide)).trans (F 119 _ hl_119)))) (by decide) rfl (xi_in (n := 6) (by decide) (by decide)) rfl ?_
                  refine xi_ireturn kc_14_63 mr_14 rfl ?_
                  show xw J ov 99 10 (112, [(0, .ref 115), (1, .int 4), (2, .int 3), (3, .int a3)], [.int 0], hh3) _
                  refine xi_istore (pc' := 114) (lv' := [(4, .int 0), (0, .ref 115), (1, .int 4), (2, .int 3), (3, .int a3)]) kc_10_112 rfl rfl (xm_lt ml_10 rfl) ?_
                  refine xi_aload_n (pc' := 115) (x := 115) kc_10_114 rfl rfl ?_
                  refine xi_iload_n (pc' := 116) (x := 4) kc_10_115 rfl rfl ?_
                  refine xi_iload_n (pc' := 117) (x := 3) kc_10_116 rfl rfl ?_
                  refine xi_iload_n (pc' := 118) (x := a3) kc_10_117 rfl rfl ?_
                  refine xi_virtual (mj := 15) (as := [.int 4, .int 3, .int a3]) (st1 := []) (lv0 := [(0, .ref 115), (1, .int 4), (2, .int 3), (3, .int a3)]) kc_10_118 rfl rfl rfl rfl rfl eh3.1 (Nat.le_of_ble_eq_true rfl) (hJ _ _ _ _ (by decide)) (xm_le ml_15 rfl) rfl ?_
                  refine xi_aload_n (pc' := 1) (x := 115) kc_15_0 rfl rfl ?_
                  refine xi_getfield (pc' := 4) (v := .ref 116) kc_15_1 rfl rfl rfl eh3.1 rfl ?_
                  refine xi_iload_n (pc' := 5) (x := 4) kc_15_4 rfl rfl ?_
                  refine xi_iload_n (pc' := 6) (x := 3) kc_15_5 rfl rfl ?_
                  refine xi_ift (pc' := 13) kc_15_6 rfl rfl ?_
                  refine xi_aload_n (pc' := 14) (x := 115) kc_15_13 rfl rfl ?_
                  refine xi_getfield (pc' := 17) (v := .ref 116) kc_15_14 rfl rfl rfl eh3.1 rfl ?_
                  refine xi_iload_n (pc' := 18) (x := 4) kc_15_17 rfl rfl ?_
                  refine xi_iaload (pc' := 19) (v := 40) kc_15_18 rfl ((eh3.2.1 116 (by decide)).trans ((eh2.2.1 116 (by decide)).trans ((eh1.2.1 116 (by decide)).trans (F 116 _ hl_116)))) (by decide) rfl (xi_in (n := 6) (by decide) (by decide)) rfl ?_
                  refine xi_iastore (pc' := 20) (x' := [40, 40, 40, 40, 40, 40]) kc_15_19 rfl ((eh3.2.1 116 (by decide)).trans ((eh2.2.1 116 (by decide)).trans ((eh1.2.1 116 (by decide)).trans (F 116 _ hl_116)))) rfl (xi_in (n := 6) (by decide) (by decide)) rfl (fun hh4 eh4 => ?_)
                  refine xi_aload_n (pc' := 21) (x := 115) kc_15_20 rfl rfl ?_
                  refine xi_getfield (pc' := 24) (v := .ref 117) kc_15_21 rfl rfl rfl ((eh4.2.1 115 (by decide)).trans eh3.1) rfl ?_
                  refine xi_iload_n (pc' := 25) (x := 4) kc_15_24 rfl rfl ?_
                  refine xi_iload_n (pc' := 26) (x := 3) kc_15_25 rfl rfl ?_
                  refine xi_iconst (pc' := 27) (v := 1) kc_15_26 rfl rfl ?_
                  refine xi_cmt (pc' := 34) kc_15_27 rfl rfl ?_
                  refine xi_aload_n (pc' := 35) (x := 115) kc_15_34 rfl rfl ?_
                  refine xi_getfield (pc' := 38) (v := .ref 117) kc_15_35 rfl rfl rfl ((eh4.2.1 115 (by decide)).trans eh3.1) rfl ?_
                  refine xi_iload_n (pc' := 39) (x := 4) kc_15_38 rfl rfl ?_
                  refine xi_iaload (pc' := 40) (v := 18) kc_15_39 rfl ((eh4.2.1 117 (by decide)).trans ((eh3.2.1 117 (by decide)).trans ((eh2.2.1 117 (by decide)).trans ((eh1.2.1 117 (by decide)).trans (F 117 _ hl_117))))) (by decide) rfl (xi_in (n := 6) (by decide) (by decide)) rfl ?_
                  refine xi_iastore (pc' := 41) (x' := [18, 18, 18, 18, 18, 18]) kc_15_40 rfl ((eh4.2.1 117 (by decide)).trans ((eh3.2.1 117 (by decide)).trans ((eh2.2.1 117 (by decide)).trans ((eh1.2.1 117 (by decide)).trans (F 117 _ hl_117))))) rfl (xi_in (n := 6) (by decide) (by decide)) rfl (fun hh5 eh5 => ?_)
                  refine xi_aload_n (pc' := 42) (x := 115) kc_15_41 rfl rfl ?_
                  refine xi_getfield (pc' := 45) (v := .ref 118) kc_15_42 rfl rfl rfl ((eh5.2.1 115 (by decide)).trans ((eh4.2.1 115 (by decide)).trans eh3.1)) rfl ?_
                  refine xi_iload_n (pc' := 46) (x := 4) kc_15_45 rfl rfl ?_
                  refine xi_iload_n (pc' := 47) (x := 3) kc_15_46 rfl rfl ?_
                  refine xi_iconst (pc' := 48) (v := 2) kc_15_47 rfl rfl ?_
                  refine xi_cmt (pc' := 55) kc_15_48 rfl rfl ?_
                  refine xi_aload_n (pc' := 56) (x := 115) kc_15_55 rfl rfl ?_
                  refine xi_getfield (pc' := 59) (v := .ref 118) kc_15_56 rfl rfl rfl ((eh5.2.1 115 (by decide)).trans ((eh4.2.1 115 (by decide)).trans eh3.1)) rfl ?_
                  refine xi_iload_n (pc' := 60) (x := 4) kc_15_59 rfl rfl ?_
                  refine xi_iaload (pc' := 61) (v := 10) kc_15_60 rfl ((eh5.2.1 118 (by decide)).trans ((eh4.2.1 118 (by decide)).trans ((eh3.2.1 118 (by decide)).trans ((eh2.2.1 118 (by decide)).trans ((eh1.2.1 118 (by decide)).trans (F 118 _ hl_118)))))) (by decide) rfl (xi_in (n := 6) (by decide) (by decide)) rfl ?_
                  refine xi_iastore (pc' := 62) (x' := [10, 10, 10, 10, 10, 10]) kc_15_61 rfl ((eh5.2.1 118 (by decide)).trans ((eh4.2.1 118 (by decide)).trans ((eh3.2.1 118 (by decide)).trans ((eh2.2.1 118 (by decide)).trans ((eh1.2.1 118 (by decide)).trans (F 118 _ hl_118)))))) rfl (xi_in (n := 6) (by decide) (by decide)) rfl (fun hh6 eh6 => ?_)
                  refine xi_aload_n (pc' := 63) (x := 115) kc_15_62 rfl rfl ?_
                  refine xi_getfield (pc' := 66) (v := .ref 119) kc_15_63 rfl rfl rfl ((eh6.2.1 115 (by decide)).trans ((eh5.2.1 115 (by decide)).trans ((eh4.2.1 115 (by decide)).trans eh3.1))) rfl ?_
                  refine xi_iload_n (pc' := 67) (x := 4) kc_15_66 rfl rfl ?_
                  refine xi_iload_n (pc' := 68) (x := 3) kc_15_67 rfl rfl ?_
                  refine xi_iconst (pc' := 69) (v := 3) kc_15_68 rfl rfl ?_
                  refine xi_cmf (pc' := 72) kc_15_69 rfl rfl ?_
                  refine xi_iload_n (pc' := 73) (x := a3) kc_15_72 rfl rfl ?_
                  refine xi_goto (pc' := 82) kc_15_73 rfl ?_
                  refine xi_iastore (pc' := 83) (x' := [0, 0, 0, 0, a3, 0]) kc_15_82 rfl ((eh6.2.1 119 (by decide)).trans ((eh5.2.1 119 (by decide)).trans ((eh4.2.1 119 (by decide)).trans ((eh3.2.1 119 (by decide)).trans ((eh2.2.1 119 (by decide)).trans ((eh1.2.1 119 (by decide)).trans (F 119 _ hl_119))))))) rfl (xi_in (n := 6) (by decide) (by decide)) rfl (fun hh7 eh7 => ?_)
                  refine xi_aload_n (pc' := 84) (x := 115) kc_15_83 rfl rfl ?_
                  refine xi_getfield (pc' := 87) (v := .ref 120) kc_15_84 rfl rfl rfl ((eh7.2.1 115 (by decide)).trans ((eh6.2.1 115 (by decide)).trans ((eh5.2.1 115 (by decide)).trans ((eh4.2.1 115 (by decide)).trans eh3.1)))) rfl ?_
                  refine xi_iload_n (pc' := 88) (x := 4) kc_15_87 rfl rfl ?_
                  refine xi_iload_n (pc' := 89) (x := 3) kc_15_88 rfl rfl ?_
                  refine xi_iconst (pc' := 90) (v := 4) kc_15_89 rfl rfl ?_
                  refine xi_cmt (pc' := 97) kc_15_90 rfl rfl ?_
                  refine xi_aload_n (pc' := 98) (x := 115) kc_15_97 rfl rfl ?_
                  refine xi_getfield (pc' := 101) (v := .ref 120) kc_15_98 rfl rfl rfl ((eh7.2.1 115 (by decide)).trans ((eh6.2.1 115 (by decide)).trans ((eh5.2.1 115 (by decide)).trans ((eh4.2.1 115 (by decide)).trans eh3.1)))) rfl ?_
                  refine xi_iload_n (pc' := 102) (x := 4) kc_15_101 rfl rfl ?_
                  refine xi_iaload (pc' := 103) (v := 0) kc_15_102 rfl ((eh7.2.1 120 (by decide)).trans ((eh6.2.1 120 (by decide)).trans ((eh5.2.1 120 (by decide)).trans ((eh4.2.1 120 (by decide)).trans ((eh3.2.1 120 (by decide)).trans ((eh2.2.1 120 (by decide)).trans ((eh1.2.1 120 (by decide)).trans (F 120 _ hl_120)))))))) (by decide) rfl (xi_in (n := 6) (by decide) (by decide)) rfl ?_
                  refine xi_iastore (pc' := 104) (x' := [0, 0, 0, 0, 0, 0]) kc_15_103 rfl ((eh7.2.1 120 (by decide)).trans ((eh6.2.1 120 (by decide)).trans ((eh5.2.1 120 (by decide)).trans ((eh4.2.1 120 (by decide)).trans ((eh3.2.1 120 (by decide)).trans ((eh2.2.1 120 (by decide)).trans ((eh1.2.1 120 (by decide)).trans (F 120 _ hl_120)))))))) rfl (xi_in (n := 6) (by decide) (by decide)) rfl (fun hh8 eh8 => ?_)
                  refine xi_aload_n (pc' := 105) (x := 115) kc_15_104 rfl rfl ?_
                  refine xi_getfield (pc' := 108) (v := .ref 121) kc_15_105 rfl rfl rfl ((eh8.2.1 115 (by decide)).trans ((eh7.2.1 115 (by decide)).trans ((eh6.2.1 115 (by decide)).trans ((eh5.2.1 115 (by decide)).trans ((eh4.2.1 115 (by decide)).trans eh3.1))))) rfl ?_
                  refine xi_iload_n (pc' := 109) (x := 4) kc_15_108 rfl rfl ?_
                  refine xi_iload_n (pc' := 110) (x := 3) kc_15_109 rfl rfl ?_
                  refine xi_iconst (pc' := 111) (v := 5) kc_15_110 rfl rfl ?_
                  refine xi_cmt (pc' := 118) kc_15_111 rfl rfl ?_
                  refine xi_aload_n (pc' := 119) (x := 115) kc_15_118 rfl rfl ?_
                  refine xi_getfield (pc' := 122) (v := .ref 121) kc_15_119 rfl rfl rfl ((eh8.2.1 115 (by decide)).trans ((eh7.2.1 115 (by decide)).trans ((eh6.2.1 115 (by decide)).trans ((eh5.2.1 115 (by decide)).trans ((eh4.2.1 115 (by decide)).trans eh3.1))))) rfl ?_
                  refine xi_iload_n (pc' := 123) (x := 4) kc_15_122 rfl rfl ?_
                  refine xi_iaload (pc' := 124) (v := 0) kc_15_123 rfl ((eh8.2.1 121 (by decide)).trans ((eh7.2.1 121 (by decide)).trans ((eh6.2.1 121 (by decide)).trans ((eh5.2.1 121 (by decide)).trans ((eh4.2.1 121 (by decide)).trans ((eh3.2.1 121 (by decide)).trans ((eh2.2.1 121 (by decide)).trans ((eh1.2.1 121 (by decide)).trans (F 121 _ hl_121))))))))) (by decide) rfl (xi_in (n := 6) (by decide) (by decide)) rfl ?_
                  refine xi_iastore (pc' := 125) (x' := [0, 0, 0, 0, 0, 0]) kc_15_124 rfl ((eh8.2.1 121 (by decide)).trans ((eh7.2.1 121 (by decide)).trans ((eh6.2.1 121 (by decide)).trans ((eh5.2.1 121 (by decide)).trans ((eh4.2.1 121 (by decide)).trans ((eh3.2.1 121 (by decide)).trans ((eh2.2.1 121 (by decide)).trans ((eh1.2.1 121 (by decide)).trans (F 121 _ hl_121))))))))) rfl (xi_in (n := 6) (by decide) (by decide)) rfl (fun hh9 eh9 => ?_)
                  refine xi_aload_n (pc' := 126) (x := 115) kc_15_125 rfl rfl ?_
                  refine xi_iconst (pc' := 127) (v := 0) kc_15_126 rfl rfl ?_
                  refine xi_putfield (pc' := 130) (fs' := [.int 0, .int 0, .ref 116, .ref 117, .ref 118, .ref 119, .ref 120, .ref 121, .ref 122, .ref 123, .ref 124, .ref 125, .ref 126, .ref 127, .ref 128, .ref 129, .int 4, .ref 130, .int 0, .ref 131, .ref 132, .ref 133, .ref 134, .int 0, .ref 135, .ref 136, .ref 137, .ref 138, .ref 139, .ref 140, .ref 141, .ref 142, .int 0, .int 0, .int 0, .ref 143, .ref 144, .ref 145, .ref 146, .ref 147, .ref 148, .int 0, .ref 149, .ref 150, .ref 151, .int 0, .ref 152, .ref 153, .ref 154, .ref 155, .ref 156, .ref 157, .ref 158, .ref 159, .int 0, .ref 160, .int 0, .ref 161, .ref 162, .ref 163, .ref 164, .int 0, .ref 165, .ref 166]) kc_15_127 rfl rfl rfl ((eh9.2.1 115 (by decide)).trans ((eh8.2.1 115 (by decide)).trans ((eh7.2.1 115 (by decide)).trans ((eh6.2.1 115 (by decide)).trans ((eh5.2.1 115 (by decide)).trans ((eh4.2.1 115 (by decide)).trans eh3.1)))))) rfl rfl rfl (Nat.le_of_ble_eq_true rfl) rfl (fun hh10 eh10 => ?_)
                  refine xi_return kc_15_130 mr_15 ?_
                  show xw J ov 99 10 (121, [(4, .int 0), (0, .ref 115), (1, .int 4), (2, .int 3), (3, .int a3)], [], hh10) _
                  refine xi_iload (pc' := 123) (x := 0) kc_10_121 rfl rfl ?_
                  refine xi_ireturn kc_10_123 mr_10 rfl ?_
                  show xw J ov 100 196 (236, [(4, .int 0), (3, .ref 167), (2, .ref 115), (1, .ref 0), (0, .ref 1000000)], [.int 0, .int 0], hh10) _
                  refine xi_cmt (pc' := 1528) kc_196_236 rfl rfl ?_
                  refine xi_iinc (pc' := 1531) (x := 0) (v := 6) (lv' := [(4, .int 6), (3, .ref 167), (2, .ref 115), (1, .ref 0), (0, .ref 1000000)]) kc_196_1528 rfl rfl rfl rfl (xm_lt ml_196 rfl) ?_
                  refine xi_goto (pc' := 23) kc_196_1531 rfl ?_
                  refine xi_iload (pc' := 25) (x := 6) kc_196_23 rfl rfl ?_
                  refine xi_aload_n (pc' := 26) (x := 1000000) kc_196_25 rfl rfl ?_
                  refine xi_arraylength (pc' := 27) (n := 6) (v := 6) kc_196_26 rfl (xl_lenO (by decide) hov0 rfl) rfl ?_
                  refine xi_bipush (pc' := 29) (v := 6) kc_196_27 rfl rfl ?_
                  refine xi_isub (pc' := 30) (v := 0) kc_196_29 rfl rfl ?_
                  refine xi_cmt (pc' := 1534) kc_196_30 rfl rfl ?_
                  refine xi_iconst (pc' := 1535) (v := 1) kc_196_1534 rfl rfl ?_
                  refine xi_ireturn kc_196_1535 mr_196 rfl ?_
                  refine ⟨rfl, ?_, ?_⟩
                  · rw [eh10.2.2.1, eh9.2.2.1, eh8.2.2.1, eh7.2.2.1, eh6.2.2.1, eh5.2.2.1, eh4.2.2.1, eh3.2.2.1, eh2.2.2.1, eh1.2.2.1]; exact hn0
                  · rw [eh10.2.2.2, eh9.2.2.2, eh8.2.2.2, eh7.2.2.2, eh6.2.2.2, eh5.2.2.2, eh4.2.2.2, eh3.2.2.2, eh2.2.2.2, eh1.2.2.2]; exact hz0
                have qa1 : a1 = 5 := xc_of (Eq.trans (by omega) (show (5 : Int) = (5 : Int32).toInt by decide))
                subst qa1
                refine xi_aaload (pc' := 13) (b := 26) kc_93_12 rfl ((eh1.2.1 2 (by decide)).trans (F 2 _ hl_2)) rfl (xi_in (n := 6) (by decide) (by decide)) rfl ?_
                refine xi_iload_n (pc' := 14) (x := 3) kc_93_13 rfl rfl ?_
                refine xi_iload_n (pc' := 15) (x := a3) kc_93_14 rfl rfl ?_
                refine xi_virtual (mj := 94) (as := [.int 3, .int a3]) (st1 := []) (lv0 := [(0, .ref 26), (1, .int 3), (2, .int a3)]) kc_93_15 rfl rfl rfl rfl rfl ((eh1.2.1 26 (by decide)).trans (F 26 _ hl_26)) (Nat.le_of_ble_eq_true rfl) (hJ _ _ _ _ (by decide)) (xm_le ml_94 rfl) rfl ?_
                refine xi_iload_n (pc' := 1) (x := 3) kc_94_0 rfl rfl ?_
                refine xi_iff (pc' := 4) kc_94_1 rfl rfl ?_
                refine xi_iload_n (pc' := 5) (x := 3) kc_94_4 rfl rfl ?_
                refine xi_iconst (pc' := 6) (v := 5) kc_94_5 rfl rfl ?_
                refine xi_cmt (pc' := 11) kc_94_6 rfl rfl ?_
                refine xi_aload_n (pc' := 12) (x := 26) kc_94_11 rfl rfl ?_
                refine xi_getfield (pc' := 15) (v := .ref 27) kc_94_12 rfl rfl rfl ((eh1.2.1 26 (by decide)).trans (F 26 _ hl_26)) rfl ?_
                refine xi_iload_n (pc' := 16) (x := 3) kc_94_15 rfl rfl ?_
                refine xi_iaload (pc' := 17) (v := 0) kc_94_16 rfl ((eh1.2.1 27 (by decide)).trans (F 27 _ hl_27)) (by decide) rfl (xi_in (n := 5) (by decide) (by decide)) rfl ?_
                refine xi_istore_n (pc' := 18) (lv' := [(3, .int 0), (0, .ref 26), (1, .int 3), (2, .int a3)]) kc_94_17 rfl rfl (xm_lt ml_94 rfl) ?_
                refine xi_aload_n (pc' := 19) (x := 26) kc_94_18 rfl rfl ?_
                refine xi_getfield (pc' := 22) (v := .ref 27) kc_94_19 rfl rfl rfl ((eh1.2.1 26 (by decide)).trans (F 26 _ hl_26)) rfl ?_
                refine xi_iload_n (pc' := 23) (x := 3) kc_94_22 rfl rfl ?_
                refine xi_iload_n (pc' := 24) (x := a3) kc_94_23 rfl rfl ?_
                refine xi_iastore (pc' := 25) (x' := [40, 18, 10, a3, 0]) kc_94_24 rfl ((eh1.2.1 27 (by decide)).trans (F 27 _ hl_27)) rfl (xi_in (n := 5) (by decide) (by decide)) rfl (fun hh2 eh2 => ?_)
                refine xi_iload_n (pc' := 26) (x := 0) kc_94_25 rfl rfl ?_
                refine xi_ireturn kc_94_26 mr_94 rfl ?_
                show xw J ov 98 93 (18, [(0, .ref 1), (1, .int 5), (2, .int 3), (3, .int a3)], [.int 0], hh2) _
                refine xi_goto (pc' := 22) kc_93_18 rfl ?_
                refine xi_ireturn kc_93_22 mr_93 rfl ?_
                show xw J ov 99 89 (107, [(0, .ref 0), (1, .int 5), (2, .int 3), (3, .int a3)], [.int 0], hh2) _
                refine xi_ireturn kc_89_107 mr_89 rfl ?_
                show xw J ov 100 196 (214, [(4, .int 0), (3, .ref 167), (2, .ref 115), (1, .ref 0), (0, .ref 1000000)], [.int 0], hh2) _
                refine xi_aload_n (pc' := 215) (x := 115) kc_196_214 rfl rfl ?_
                refine xi_aload_n (pc' := 216) (x := 1000000) kc_196_215 rfl rfl ?_
                refine xi_iload (pc' := 218) (x := 0) kc_196_216 rfl rfl ?_
                refine xi_iconst (pc' := 219) (v := 1) kc_196_218 rfl rfl ?_
                refine xi_iadd (pc' := 220) (v := 1) kc_196_219 rfl rfl ?_
                refine xi_ialoadO (pc' := 221) (v := 5) kc_196_220 rfl (by decide) hov0 (xi_in (n := 6) (by decide) (by decide)) rfl ?_
                refine xi_aload_n (pc' := 222) (x := 1000000) kc_196_221 rfl rfl ?_
                refine xi_iload (pc' := 224) (x := 0) kc_196_222 rfl rfl ?_
                refine xi_iconst (pc' := 225) (v := 2) kc_196_224 rfl rfl ?_
                refine xi_iadd (pc' := 226) (v := 2) kc_196_225 rfl rfl ?_
                refine xi_ialoadO (pc' := 227) (v := 3) kc_196_226 rfl (by decide) hov0 (xi_in (n := 6) (by decide) (by decide)) rfl ?_
                refine xi_aload_n (pc' := 228) (x := 1000000) kc_196_227 rfl rfl ?_
                refine xi_iload (pc' := 230) (x := 0) kc_196_228 rfl rfl ?_
                refine xi_iconst (pc' := 231) (v := 3) kc_196_230 rfl rfl ?_
                refine xi_iadd (pc' := 232) (v := 3) kc_196_231 rfl rfl ?_
                refine xi_ialoadO (pc' := 233) (v := a3) kc_196_232 rfl (by decide) hov0 (xi_in (n := 6) (by decide) (by decide)) rfl ?_
                refine xi_virtual (mj := 10) (as := [.int 5, .int 3, .int a3]) (st1 := [.int 0]) (lv0 := [(0, .ref 115), (1, .int 5), (2, .int 3), (3, .int a3)]) kc_196_233 rfl rfl rfl rfl rfl ((eh2.2.1 115 (by decide)).trans ((eh1.2.1 115 (by decide)).trans (F 115 _ hl_115))) (Nat.le_of_ble_eq_true rfl) (hJ _ _ _ _ (by decide)) (xm_le ml_10 rfl) rfl ?_
                refine xi_aload_n (pc' := 1) (x := 115) kc_10_0 rfl rfl ?_
                refine xi_iconst (pc' := 2) (v := 0) kc_10_1 rfl rfl ?_
                refine xi_putfield (pc' := 5) (fs' := [.int 0, .int 0, .ref 116, .ref 117, .ref 118, .ref 119, .ref 120, .ref 121, .ref 122, .ref 123, .ref 124, .ref 125, .ref 126, .ref 127, .ref 128, .ref 129, .int 4, .ref 130, .int 0, .ref 131, .ref 132, .ref 133, .ref 134, .int 0, .ref 135, .ref 136, .ref 137, .ref 138, .ref 139, .ref 140, .ref 141, .ref 142, .int 0, .int 0, .int 0, .ref 143, .ref 144, .ref 145, .ref 146, .ref 147, .ref 148, .int 0, .ref 149, .ref 150, .ref 151, .int 0, .ref 152, .ref 153, .ref 154, .ref 155, .ref 156, .ref 157, .ref 158, .ref 159, .int 0, .ref 160, .int 0, .ref 161, .ref 162, .ref 163, .ref 164, .int 0, .ref 165, .ref 166]) kc_10_2 rfl rfl rfl ((eh2.2.1 115 (by decide)).trans ((eh1.2.1 115 (by decide)).trans (F 115 _ hl_115))) rfl rfl rfl (Nat.le_of_ble_eq_true rfl) rfl (fun hh3 eh3 => ?_)
                refine xi_iload_n (pc' := 6) (x := 5) kc_10_5 rfl rfl ?_
                refine xi_static (mj := 11) (as := [.int 5]) (st1 := []) (lv0 := [(0, .int 5)]) kc_10_6 rfl rfl (Nat.le_of_ble_eq_true rfl) rfl rfl (Nat.le_of_ble_eq_true rfl) (hJ _ _ _ _ (by decide)) (xm_le ml_11 rfl) rfl ?_
                refine xi_iload_n (pc' := 1) (x := 5) kc_11_0 rfl rfl ?_
                refine xi_iconst (pc' := 2) (v := 0) kc_11_1 rfl rfl ?_
                refine xi_iconst (pc' := 3) (v := 5) kc_11_2 rfl rfl ?_
                refine xi_static (mj := 12) (as := [.int 5, .int 0, .int 5]) (st1 := []) (lv0 := [(0, .int 5), (1, .int 0), (2, .int 5)]) kc_11_3 rfl rfl (Nat.le_of_ble_eq_true rfl) rfl rfl (Nat.le_of_ble_eq_true rfl) (hJ _ _ _ _ (by decide)) (xm_le ml_12 rfl) rfl ?_
                refine xi_iload_n (pc' := 1) (x := 5) kc_12_0 rfl rfl ?_
                refine xi_iload_n (pc' := 2) (x := 0) kc_12_1 rfl rfl ?_
                refine xi_cmf (pc' := 5) kc_12_2 rfl rfl ?_
                refine xi_iload_n (pc' := 6) (x := 5) kc_12_5 rfl rfl ?_
                refine xi_iload_n (pc' := 7) (x := 5) kc_12_6 rfl rfl ?_
                refine xi_cmf (pc' := 10) kc_12_7 rfl rfl ?_
                refine xi_iconst (pc' := 11) (v := 1) kc_12_10 rfl rfl ?_
                refine xi_goto (pc' := 15) kc_12_11 rfl ?_
                refine xi_ireturn kc_12_15 mr_12 rfl ?_
                show xw J ov 98 11 (6, [(0, .int 5)], [.int 1], hh3) _
                refine xi_ireturn kc_11_6 mr_11 rfl ?_
                show xw J ov 99 10 (9, [(0, .ref 115), (1, .int 5), (2, .int 3), (3, .int a3)], [.int 1], hh3) _
                refine xi_ift (pc' := 18) kc_10_9 rfl rfl ?_
                refine xi_iload_n (pc' := 19) (x := 3) kc_10_18 rfl rfl ?_
                refine xi_iconst (pc' := 20) (v := 0) kc_10_19 rfl rfl ?_
                refine xi_iconst (pc' := 21) (v := 5) kc_10_20 rfl rfl ?_
                refine xi_static (mj := 12) (as := [.int 3, .int 0, .int 5]) (st1 := []) (lv0 := [(0, .int 3), (1, .int 0), (2, .int 5)]) kc_10_21 rfl rfl (Nat.le_of_ble_eq_true rfl) rfl rfl (Nat.le_of_ble_eq_true rfl) (hJ _ _ _ _ (by decide)) (xm_le ml_12 rfl) rfl ?_
                refine xi_iload_n (pc' := 1) (x := 3) kc_12_0 rfl rfl ?_
                refine xi_iload_n (pc' := 2) (x := 0) kc_12_1 rfl rfl ?_
                refine xi_cmf (pc' := 5) kc_12_2 rfl rfl ?_
                refine xi_iload_n (pc' := 6) (x := 3) kc_12_5 rfl rfl ?_
                refine xi_iload_n (pc' := 7) (x := 5) kc_12_6 rfl rfl ?_
                refine xi_cmf (pc' := 10) kc_12_7 rfl rfl ?_
                refine xi_iconst (pc' := 11) (v := 1) kc_12_10 rfl rfl ?_
                refine xi_goto (pc' := 15) kc_12_11 rfl ?_
                refine xi_ireturn kc_12_15 mr_12 rfl ?_
                show xw J ov 99 10 (24, [(0, .ref 115), (1, .int 5), (2, .int 3), (3, .int a3)], [.int 1], hh3) _
                refine xi_ift (pc' := 34) kc_10_24 rfl rfl ?_
                refine xi_iload_n (pc' := 35) (x := a3) kc_10_34 rfl rfl ?_
                refine xi_iload_n (pc' := 36) (x := 3) kc_10_35 rfl rfl ?_
                refine xi_ift (pc' := 44) kc_10_36 rfl rfl ?_
                refine xi_iconst (pc' := 45) (v := 0) kc_10_44 rfl rfl ?_
                refine xi_cmt (pc' := 55) kc_10_45 rfl (xc_ge_t (X := a3.toInt) (Y := 0) rfl (by decide) (by omega)) ?_
                refine xi_iload_n (pc' := 56) (x := a3) kc_10_55 rfl rfl ?_
                refine xi_iload_n (pc' := 57) (x := 3) kc_10_56 rfl rfl ?_
                refine xi_ift (pc' := 65) kc_10_57 rfl rfl ?_
                refine xi_iload_n (pc' := 66) (x := 3) kc_10_65 rfl rfl ?_
                refine xi_iconst (pc' := 67) (v := 1) kc_10_66 rfl rfl ?_
                refine xi_cmt (pc' := 75) kc_10_67 rfl rfl ?_
                refine xi_iload_n (pc' := 76) (x := 3) kc_10_75 rfl rfl ?_
                refine xi_iconst (pc' := 77) (v := 4) kc_10_76 rfl rfl ?_
                refine xi_cmf (pc' := 80) kc_10_77 rfl rfl ?_
                refine xi_bipush (pc' := 82) (v := 50) kc_10_80 rfl rfl ?_
                refine xi_goto (pc' := 96) kc_10_82 rfl ?_
                refine xi_cmt (pc' := 106) kc_10_96 rfl (xc_le_t (X := a3.toInt) (Y := 50) rfl (by decide) (by omega)) ?_
                refine xi_aload_n (pc' := 107) (x := 115) kc_10_106 rfl rfl ?_
                refine xi_iload_n (pc' := 108) (x := 5) kc_10_107 rfl rfl ?_
                refine xi_iload_n (pc' := 109) (x := 3) kc_10_108 rfl rfl ?_
                refine xi_virtual (mj := 14) (as := [.int 5, .int 3]) (st1 := []) (lv0 := [(0, .ref 115), (1, .int 5), (2, .int 3)]) kc_10_109 rfl rfl rfl rfl rfl eh3.1 (Nat.le_of_ble_eq_true rfl) (hJ _ _ _ _ (by decide)) (xm_le ml_14 rfl) rfl ?_
                refine xi_iload_n (pc' := 1) (x := 3) kc_14_0 rfl rfl ?_
                refine xi_tsi (pc' := 57) (z := 3) kc_14_1 (rfl) rfl (by decide) ?_
                refine xi_aload_n (pc' := 58) (x := 115) kc_14_57 rfl rfl ?_
                refine xi_getfield (pc' := 61) (v := .ref 119) kc_14_58 rfl rfl rfl eh3.1 rfl ?_
                refine xi_iload_n (pc' := 62) (x := 5) kc_14_61 rfl rfl ?_
                refine xi_iaload (pc' := 63) (v := 0) kc_14_62 rfl ((eh3.2.1 119 (by decide)).trans ((eh2.2.1 119 (by decide)).trans ((eh1.2.1 119 (by decide)).trans (F 119 _ hl_119)))) (by decide) rfl (xi_in (n := 6) (by decide) (by decide)) rfl ?_
                refine xi_ireturn kc_14_63 mr_14 rfl ?_
                show xw J ov 99 10 (112, [(0, .ref 115), (1, .int 5), (2, .int 3), (3, .int a3)], [.int 0], hh3) _
                refine xi_istore (pc' := 114) (lv' := [(4, .int 0), (0, .ref 115), (1, .int 5), (2, .int 3), (3, .int a3)]) kc_10_112 rfl rfl (xm_lt ml_10 rfl) ?_
                refine xi_aload_n (pc' := 115) (x := 115) kc_10_114 rfl rfl ?_
                refine xi_iload_n (pc' := 116) (x := 5) kc_10_115 rfl rfl ?_
                refine xi_iload_n (pc' := 117) (x := 3) kc_10_116 rfl rfl ?_
                refine xi_iload_n (pc' := 118) (x := a3) kc_10_117 rfl rfl ?_
                refine xi_virtual (mj := 15) (as := [.int 5, .int 3, .int a3]) (st1 := []) (lv0 := [(0, .ref 115), (1, .int 5), (2, .int 3), (3, .int a3)]) kc_10_118 rfl rfl rfl rfl rfl eh3.1 (Nat.le_of_ble_eq_true rfl) (hJ _ _ _ _ (by decide)) (xm_le ml_15 rfl) rfl ?_
                refine xi_aload_n (pc' := 1) (x := 115) kc_15_0 rfl rfl ?_
                refine xi_getfield (pc' := 4) (v := .ref 116) kc_15_1 rfl rfl rfl eh3.1 rfl ?_
                refine xi_iload_n (pc' := 5) (x := 5) kc_15_4 rfl rfl ?_
                refine xi_iload_n (pc' := 6) (x := 3) kc_15_5 rfl rfl ?_
                refine xi_ift (pc' := 13) kc_15_6 rfl rfl ?_
                refine xi_aload_n (pc' := 14) (x := 115) kc_15_13 rfl rfl ?_
                refine xi_getfield (pc' := 17) (v := .ref 116) kc_15_14 rfl rfl rfl eh3.1 rfl ?_
                refine xi_iload_n (pc' := 18) (x := 5) kc_15_17 rfl rfl ?_
                refine xi_iaload (pc' := 19) (v := 40) kc_15_18 rfl ((eh3.2.1 116 (by decide)).trans ((eh2.2.1 116 (by decide)).trans ((eh1.2.1 116 (by decide)).trans (F 116 _ hl_116)))) (by decide) rfl (xi_in (n := 6) (by decide) (by decide)) rfl ?_
                refine xi_iastore (pc' := 20) (x' := [40, 40, 40, 40, 40, 40]) kc_15_19 rfl ((eh3.2.1 116 (by decide)).trans ((eh2.2.1 116 (by decide)).trans ((eh1.2.1 116 (by decide)).trans (F 116 _ hl_116)))) rfl (xi_in (n := 6) (by decide) (by decide)) rfl (fun hh4 eh4 => ?_)
                refine xi_aload_n (pc' := 21) (x := 115) kc_15_20 rfl rfl ?_
                refine xi_getfield (pc' := 24) (v := .ref 117) kc_15_21 rfl rfl rfl ((eh4.2.1 115 (by decide)).trans eh3.1) rfl ?_
                refine xi_iload_n (pc' := 25) (x := 5) kc_15_24 rfl rfl ?_
                refine xi_iload_n (pc' := 26) (x := 3) kc_15_25 rfl rfl ?_
                refine xi_iconst (pc' := 27) (v := 1) kc_15_26 rfl rfl ?_
                refine xi_cmt (pc' := 34) kc_15_27 rfl rfl ?_
                refine xi_aload_n (pc' := 35) (x := 115) kc_15_34 rfl rfl ?_
                refine xi_getfield (pc' := 38) (v := .ref 117) kc_15_35 rfl rfl rfl ((eh4.2.1 115 (by decide)).trans eh3.1) rfl ?_
                refine xi_iload_n (pc' := 39) (x := 5) kc_15_38 rfl rfl ?_
                refine xi_iaload (pc' := 40) (v := 18) kc_15_39 rfl ((eh4.2.1 117 (by decide)).trans ((eh3.2.1 117 (by decide)).trans ((eh2.2.1 117 (by decide)).trans ((eh1.2.1 117 (by decide)).trans (F 117 _ hl_117))))) (by decide) rfl (xi_in (n := 6) (by decide) (by decide)) rfl ?_
                refine xi_iastore (pc' := 41) (x' := [18, 18, 18, 18, 18, 18]) kc_15_40 rfl ((eh4.2.1 117 (by decide)).trans ((eh3.2.1 117 (by decide)).trans ((eh2.2.1 117 (by decide)).trans ((eh1.2.1 117 (by decide)).trans (F 117 _ hl_117))))) rfl (xi_in (n := 6) (by decide) (by decide)) rfl (fun hh5 eh5 => ?_)
                refine xi_aload_n (pc' := 42) (x := 115) kc_15_41 rfl rfl ?_
                refine xi_getfield (pc' := 45) (v := .ref 118) kc_15_42 rfl rfl rfl ((eh5.2.1 115 (by decide)).trans ((eh4.2.1 115 (by decide)).trans eh3.1)) rfl ?_
                refine xi_iload_n (pc' := 46) (x := 5) kc_15_45 rfl rfl ?_
                refine xi_iload_n (pc' := 47) (x := 3) kc_15_46 rfl rfl ?_
                refine xi_iconst (pc' := 48) (v := 2) kc_15_47 rfl rfl ?_
                refine xi_cmt (pc' := 55) kc_15_48 rfl rfl ?_
                refine xi_aload_n (pc' := 56) (x := 115) kc_15_55 rfl rfl ?_
                refine xi_getfield (pc' := 59) (v := .ref 118) kc_15_56 rfl rfl rfl ((eh5.2.1 115 (by decide)).trans ((eh4.2.1 115 (by decide)).trans eh3.1)) rfl ?_
                refine xi_iload_n (pc' := 60) (x := 5) kc_15_59 rfl rfl ?_
                refine xi_iaload (pc' := 61) (v := 10) kc_15_60 rfl ((eh5.2.1 118 (by decide)).trans ((eh4.2.1 118 (by decide)).trans ((eh3.2.1 118 (by decide)).trans ((eh2.2.1 118 (by decide)).trans ((eh1.2.1 118 (by decide)).trans (F 118 _ hl_118)))))) (by decide) rfl (xi_in (n := 6) (by decide) (by decide)) rfl ?_
                refine xi_iastore (pc' := 62) (x' := [10, 10, 10, 10, 10, 10]) kc_15_61 rfl ((eh5.2.1 118 (by decide)).trans ((eh4.2.1 118 (by decide)).trans ((eh3.2.1 118 (by decide)).trans ((eh2.2.1 118 (by decide)).trans ((eh1.2.1 118 (by decide)).trans (F 118 _ hl_118)))))) rfl (xi_in (n := 6) (by decide) (by decide)) rfl (fun hh6 eh6 => ?_)
                refine xi_aload_n (pc' := 63) (x := 115) kc_15_62 rfl rfl ?_
                refine xi_getfield (pc' := 66) (v := .ref 119) kc_15_63 rfl rfl rfl ((eh6.2.1 115 (by decide)).trans ((eh5.2.1 115 (by decide)).trans ((eh4.2.1 115 (by decide)).trans eh3.1))) rfl ?_
                refine xi_iload_n (pc' := 67) (x := 5) kc_15_66 rfl rfl ?_
                refine xi_iload_n (pc' := 68) (x := 3) kc_15_67 rfl rfl ?_
                refine xi_iconst (pc' := 69) (v := 3) kc_15_68 rfl rfl ?_
                refine xi_cmf (pc' := 72) kc_15_69 rfl rfl ?_
                refine xi_iload_n (pc' := 73) (x := a3) kc_15_72 rfl rfl ?_
                refine xi_goto (pc' := 82) kc_15_73 rfl ?_
                refine xi_iastore (pc' := 83) (x' := [0, 0, 0, 0, 0, a3]) kc_15_82 rfl ((eh6.2.1 119 (by decide)).trans ((eh5.2.1 119 (by decide)).trans ((eh4.2.1 119 (by decide)).trans ((eh3.2.1 119 (by decide)).trans ((eh2.2.1 119 (by decide)).trans ((eh1.2.1 119 (by decide)).trans (F 119 _ hl_119))))))) rfl (xi_in (n := 6) (by decide) (by decide)) rfl (fun hh7 eh7 => ?_)
                refine xi_aload_n (pc' := 84) (x := 115) kc_15_83 rfl rfl ?_
                refine xi_getfield (pc' := 87) (v := .ref 120) kc_15_84 rfl rfl rfl ((eh7.2.1 115 (by decide)).trans ((eh6.2.1 115 (by decide)).trans ((eh5.2.1 115 (by decide)).trans ((eh4.2.1 115 (by decide)).trans eh3.1)))) rfl ?_
                refine xi_iload_n (pc' := 88) (x := 5) kc_15_87 rfl rfl ?_
                refine xi_iload_n (pc' := 89) (x := 3) kc_15_88 rfl rfl ?_
                refine xi_iconst (pc' := 90) (v := 4) kc_15_89 rfl rfl ?_
                refine xi_cmt (pc' := 97) kc_15_90 rfl rfl ?_
                refine xi_aload_n (pc' := 98) (x := 115) kc_15_97 rfl rfl ?_
                refine xi_getfield (pc' := 101) (v := .ref 120) kc_15_98 rfl rfl rfl ((eh7.2.1 115 (by decide)).trans ((eh6.2.1 115 (by decide)).trans ((eh5.2.1 115 (by decide)).trans ((eh4.2.1 115 (by decide)).trans eh3.1)))) rfl ?_
                refine xi_iload_n (pc' := 102) (x := 5) kc_15_101 rfl rfl ?_
                refine xi_iaload (pc' := 103) (v := 0) kc_15_102 rfl ((eh7.2.1 120 (by decide)).trans ((eh6.2.1 120 (by decide)).trans ((eh5.2.1 120 (by decide)).trans ((eh4.2.1 120 (by decide)).trans ((eh3.2.1 120 (by decide)).trans ((eh2.2.1 120 (by decide)).trans ((eh1.2.1 120 (by decide)).trans (F 120 _ hl_120)))))))) (by decide) rfl (xi_in (n := 6) (by decide) (by decide)) rfl ?_
                refine xi_iastore (pc' := 104) (x' := [0, 0, 0, 0, 0, 0]) kc_15_103 rfl ((eh7.2.1 120 (by decide)).trans ((eh6.2.1 120 (by decide)).trans ((eh5.2.1 120 (by decide)).trans ((eh4.2.1 120 (by decide)).trans ((eh3.2.1 120 (by decide)).trans ((eh2.2.1 120 (by decide)).trans ((eh1.2.1 120 (by decide)).trans (F 120 _ hl_120)))))))) rfl (xi_in (n := 6) (by decide) (by decide)) rfl (fun hh8 eh8 => ?_)
                refine xi_aload_n (pc' := 105) (x := 115) kc_15_104 rfl rfl ?_
                refine xi_getfield (pc' := 108) (v := .ref 121) kc_15_105 rfl rfl rfl ((eh8.2.1 115 (by decide)).trans ((eh7.2.1 115 (by decide)).trans ((eh6.2.1 115 (by decide)).trans ((eh5.2.1 115 (by decide)).trans ((eh4.2.1 115 (by decide)).trans eh3.1))))) rfl ?_
                refine xi_iload_n (pc' := 109) (x := 5) kc_15_108 rfl rfl ?_
                refine xi_iload_n (pc' := 110) (x := 3) kc_15_109 rfl rfl ?_
                refine xi_iconst (pc' := 111) (v := 5) kc_15_110 rfl rfl ?_
                refine xi_cmt (pc' := 118) kc_15_111 rfl rfl ?_
                refine xi_aload_n (pc' := 119) (x := 115) kc_15_118 rfl rfl ?_
                refine xi_getfield (pc' := 122) (v := .ref 121) kc_15_119 rfl rfl rfl ((eh8.2.1 115 (by decide)).trans ((eh7.2.1 115 (by decide)).trans ((eh6.2.1 115 (by decide)).trans ((eh5.2.1 115 (by decide)).trans ((eh4.2.1 115 (by decide)).trans eh3.1))))) rfl ?_
                refine xi_iload_n (pc' := 123) (x := 5) kc_15_122 rfl rfl ?_
                refine xi_iaload (pc' := 124) (v := 0) kc_15_123 rfl ((eh8.2.1 121 (by decide)).trans ((eh7.2.1 121 (by decide)).trans ((eh6.2.1 121 (by decide)).trans ((eh5.2.1 121 (by decide)).trans ((eh4.2.1 121 (by decide)).trans ((eh3.2.1 121 (by decide)).trans ((eh2.2.1 121 (by decide)).trans ((eh1.2.1 121 (by decide)).trans (F 121 _ hl_121))))))))) (by decide) rfl (xi_in (n := 6) (by decide) (by decide)) rfl ?_
                refine xi_iastore (pc' := 125) (x' := [0, 0, 0, 0, 0, 0]) kc_15_124 rfl ((eh8.2.1 121 (by decide)).trans ((eh7.2.1 121 (by decide)).trans ((eh6.2.1 121 (by decide)).trans ((eh5.2.1 121 (by decide)).trans ((eh4.2.1 121 (by decide)).trans ((eh3.2.1 121 (by decide)).trans ((eh2.2.1 121 (by decide)).trans ((eh1.2.1 121 (by decide)).trans (F 121 _ hl_121))))))))) rfl (xi_in (n := 6) (by decide) (by decide)) rfl (fun hh9 eh9 => ?_)
                refine xi_aload_n (pc' := 126) (x := 115) kc_15_125 rfl rfl ?_
                refine xi_iconst (pc' := 127) (v := 0) kc_15_126 rfl rfl ?_
                refine xi_putfield (pc' := 130) (fs' := [.int 0, .int 0, .ref 116, .ref 117, .ref 118, .ref 119, .ref 120, .ref 121, .ref 122, .ref 123, .ref 124, .ref 125, .ref 126, .ref 127, .ref 128, .ref 129, .int 4, .ref 130, .int 0, .ref 131, .ref 132, .ref 133, .ref 134, .int 0, .ref 135, .ref 136, .ref 137, .ref 138, .ref 139, .ref 140, .ref 141, .ref 142, .int 0, .int 0, .int 0, .ref 143, .ref 144, .ref 145, .ref 146, .ref 147, .ref 148, .int 0, .ref 149, .ref 150, .ref 151, .int 0, .ref 152, .ref 153, .ref 154, .ref 155, .ref 156, .ref 157, .ref 158, .ref 159, .int 0, .ref 160, .int 0, .ref 161, .ref 162, .ref 163, .ref 164, .int 0, .ref 165, .ref 166]) kc_15_127 rfl rfl rfl ((eh9.2.1 115 (by decide)).trans ((eh8.2.1 115 (by decide)).trans ((eh7.2.1 115 (by decide)).trans ((eh6.2.1 115 (by decide)).trans ((eh5.2.1 115 (by decide)).trans ((eh4.2.1 115 (by decide)).trans eh3.1)))))) rfl rfl rfl (Nat.le_of_ble_eq_true rfl) rfl (fun hh10 eh10 => ?_)
                refine xi_return kc_15_130 mr_15 ?_
                show xw J ov 99 10 (121, [(4, .int 0), (0, .ref 115), (1, .int 5), (2, .int 3), (3, .int a3)], [], hh10) _
                refine xi_iload (pc' := 123) (x := 0) kc_10_121 rfl rfl ?_
                refine xi_ireturn kc_10_123 mr_10 rfl ?_
                show xw J ov 100 196 (236, [(4, .int 0), (3, .ref 167), (2, .ref 115), (1, .ref 0), (0, .ref 1000000)], [.int 0, .int 0], hh10) _
                refine xi_cmt (pc' := 1528) kc_196_236 rfl rfl ?_
                refine xi_iinc (pc' := 1531) (x := 0) (v := 6) (lv' := [(4, .int 6), (3, .ref 167), (2, .ref 115), (1, .ref 0), (0, .ref 1000000)]) kc_196_1528 rfl rfl rfl rfl (xm_lt ml_196 rfl) ?_
                refine xi_goto (pc' := 23) kc_196_1531 rfl ?_
                refine xi_iload (pc' := 25) (x := 6) kc_196_23 rfl rfl ?_
                refine xi_aload_n (pc' := 26) (x := 1000000) kc_196_25 rfl rfl ?_
                refine xi_arraylength (pc' := 27) (n := 6) (v := 6) kc_196_26 rfl (xl_lenO (by decide) hov0 rfl) rfl ?_
                refine xi_bipush (pc' := 29) (v := 6) kc_196_27 rfl rfl ?_
                refine xi_isub (pc' := 30) (v := 0) kc_196_29 rfl rfl ?_
                refine xi_cmt (pc' := 1534) kc_196_30 rfl rfl ?_
                refine xi_iconst (pc' := 1535) (v := 1) kc_196_1534 rfl rfl ?_
                refine xi_ireturn kc_196_1535 mr_196 rfl ?_
                refine ⟨rfl, ?_, ?_⟩
                · rw [eh10.2.2.1, eh9.2.2.1, eh8.2.2.1, eh7.2.2.1, eh6.2.2.1, eh5.2.2.1, eh4.2.2.1, eh3.2.2.1, eh2.2.2.1, eh1.2.2.1]; exact hn0
                · rw [eh10.2.2.2, eh9.2.2.2, eh8.2.2.2, eh7.2.2.2, eh6.2.2.2, eh5.2.2.2, eh4.2.2.2, eh3.2.2.2, eh2.2.2.2, eh1.2.2.2]; exact hz0
              · refine xi_cmf (pc' := 54) kc_89_51 rfl (xc_le_f (X := a3.toInt) (Y := 50) rfl (by decide) (by omega)) ?_
                refine xi_aload_n (pc' := 55) (x := 0) kc_89_54 rfl rfl ?_
                refine xi_bipush (pc' := 57) (v := (-6)) kc_89_55 rfl rfl ?_
                refine xi_virtual (mj := 91) (as := [.int (-6)]) (st1 := []) (lv0 := [(0, .ref 0), (1, .int (-6))]) kc_89_57 rfl rfl rfl rfl rfl (F 0 _ hl_0) (Nat.le_of_ble_eq_true rfl) (hJ _ _ _ _ (by decide)) (xm_le ml_91 rfl) rfl ?_
                refine xi_iload_n (pc' := 1) (x := (-6)) kc_91_0 rfl rfl ?_
                refine xi_ineg (pc' := 2) (v := 6) kc_91_1 rfl rfl ?_
                refine xi_istore_n (pc' := 3) (lv' := [(2, .int 6), (0, .ref 0), (1, .int (-6))]) kc_91_2 rfl rfl (xm_lt ml_91 rfl) ?_
                refine xi_iload_n (pc' := 4) (x := 6) kc_91_3 rfl rfl ?_
                refine xi_iff (pc' := 7) kc_91_4 rfl rfl ?_
                refine xi_iload_n (pc' := 8) (x := 6) kc_91_7 rfl rfl ?_
                refine xi_aload_n (pc' := 9) (x := 0) kc_91_8 rfl rfl ?_
                refine xi_getfield (pc' := 12) (v := .ref 94) kc_91_9 rfl rfl rfl (F 0 _ hl_0) rfl ?_
                refine xi_arraylength (pc' := 13) (n := 7) (v := 7) kc_91_12 rfl (xl_lenI (by decide) (by decide) (F 94 _ hl_94) (by simp only [List.length_replicate, List.length_cons, List.length_nil])) rfl ?_
                refine xi_cmf (pc' := 16) kc_91_13 rfl rfl ?_
                refine xi_aload_n (pc' := 17) (x := 0) kc_91_16 rfl rfl ?_
                refine xi_getfield (pc' := 20) (v := .ref 94) kc_91_17 rfl rfl rfl (F 0 _ hl_0) rfl ?_
                refine xi_iload_n (pc' := 21) (x := 6) kc_91_20 rfl rfl ?_
                refine xi_dup2 (pc' := 22) kc_91_21 rfl ⟨rfl, rfl⟩ ?_
                refine xi_iaload (pc' := 23) (v := 0) kc_91_22 rfl (F 94 _ hl_94) (by decide) rfl (xi_in (n := 7) (by decide) (by decide)) rfl ?_
                refine xi_iconst (pc' := 24) (v := 1) kc_91_23 rfl rfl ?_
                refine xi_iadd (pc' := 25) (v := 1) kc_91_24 rfl rfl ?_
                refine xi_iastore (pc' := 26) (x' := [0, 0, 0, 0, 0, 0, 1]) kc_91_25 rfl (F 94 _ hl_94) rfl (xi_in (n := 7) (by decide) (by decide)) rfl (fun hh1 eh1 => ?_)
                refine xi_iload_n (pc' := 27) (x := (-6)) kc_91_26 rfl rfl ?_
                refine xi_ireturn kc_91_27 mr_91 rfl ?_
                show xw J ov 99 89 (60, [(0, .ref 0), (1, .int a1), (2, .int 3), (3, .int a3)], [.int (-6)], hh1) _
                refine xi_ireturn kc_89_60 mr_89 rfl ?_
                show xw J ov 100 196 (214, [(4, .int 0), (3, .ref 167), (2, .ref 115), (1, .ref 0), (0, .ref 1000000)], [.int (-6)], hh1) _
                refine xi_aload_n (pc' := 215) (x := 115) kc_196_214 rfl rfl ?_
                refine xi_aload_n (pc' := 216) (x := 1000000) kc_196_215 rfl rfl ?_
                refine xi_iload (pc' := 218) (x := 0) kc_196_216 rfl rfl ?_
                refine xi_iconst (pc' := 219) (v := 1) kc_196_218 rfl rfl ?_
                refine xi_iadd (pc' := 220) (v := 1) kc_196_219 rfl rfl ?_
                refine xi_ialoadO (pc' := 221) (v := a1) kc_196_220 rfl (by decide) hov0 (xi_in (n := 6) (by decide) (by decide)) rfl ?_
                refine xi_aload_n (pc' := 222) (x := 1000000) kc_196_221 rfl rfl ?_
                refine xi_iload (pc' := 224) (x := 0) kc_196_222 rfl rfl ?_
                refine xi_iconst (pc' := 225) (v := 2) kc_196_224 rfl rfl ?_
                refine xi_iadd (pc' := 226) (v := 2) kc_196_225 rfl rfl ?_
                refine xi_ialoadO (pc' := 227) (v := 3) kc_196_226 rfl (by decide) hov0 (xi_in (n := 6) (by decide) (by decide)) rfl ?_
                refine xi_aload_n (pc' := 228) (x := 1000000) kc_196_227 rfl rfl ?_
                refine xi_iload (pc' := 230) (x := 0) kc_196_228 rfl rfl ?_
                refine xi_iconst (pc' := 231) (v := 3) kc_196_230 rfl rfl ?_
                refine xi_iadd (pc' := 232) (v := 3) kc_196_231 rfl rfl ?_
                refine xi_ialoadO (pc' := 233) (v := a3) kc_196_232 rfl (by decide) hov0 (xi_in (n := 6) (by decide) (by decide)) rfl ?_
                refine xi_virtual (mj := 10) (as := [.int a1, .int 3, .int a3]) (st1 := [.int (-6)]) (lv0 := [(0, .ref 115), (1, .int a1), (2, .int 3), (3, .int a3)]) kc_196_233 rfl rfl rfl rfl rfl ((eh1.2.1 115 (by decide)).trans (F 115 _ hl_115)) (Nat.le_of_ble_eq_true rfl) (hJ _ _ _ _ (by decide)) (xm_le ml_10 rfl) rfl ?_
                refine xi_aload_n (pc' := 1) (x := 115) kc_10_0 rfl rfl ?_
                refine xi_iconst (pc' := 2) (v := 0) kc_10_1 rfl rfl ?_
                refine xi_putfield (pc' := 5) (fs' := [.int 0, .int 0, .ref 116, .ref 117, .ref 118, .ref 119, .ref 120, .ref 121, .ref 122, .ref 123, .ref 124, .ref 125, .ref 126, .ref 127, .ref 128, .ref 129, .int 4, .ref 130, .int 0, .ref 131, .ref 132, .ref 133, .ref 134, .int 0, .ref 135, .ref 136, .ref 137, .ref 138, .ref 139, .ref 140, .ref 141, .ref 142, .int 0, .int 0, .int 0, .ref 143, .ref 144, .ref 145, .ref 146, .ref 147, .ref 148, .int 0, .ref 149, .ref 150, .ref 151, .int 0, .ref 152, .ref 153, .ref 154, .ref 155, .ref 156, .ref 157, .ref 158, .ref 159, .int 0, .ref 160, .int 0, .ref 161, .ref 162, .ref 163, .ref 164, .int 0, .ref 165, .ref 166]) kc_10_2 rfl rfl rfl ((eh1.2.1 115 (by decide)).trans (F 115 _ hl_115)) rfl rfl rfl (Nat.le_of_ble_eq_true rfl) rfl (fun hh2 eh2 => ?_)
                refine xi_iload_n (pc' := 6) (x := a1) kc_10_5 rfl rfl ?_
                refine xi_static (mj := 11) (as := [.int a1]) (st1 := []) (lv0 := [(0, .int a1)]) kc_10_6 rfl rfl (Nat.le_of_ble_eq_true rfl) rfl rfl (Nat.le_of_ble_eq_true rfl) (hJ _ _ _ _ (by decide)) (xm_le ml_11 rfl) rfl ?_
                refine xi_iload_n (pc' := 1) (x := a1) kc_11_0 rfl rfl ?_
                refine xi_iconst (pc' := 2) (v := 0) kc_11_1 rfl rfl ?_
                refine xi_iconst (pc' := 3) (v := 5) kc_11_2 rfl rfl ?_
                refine xi_static (mj := 12) (as := [.int a1, .int 0, .int 5]) (st1 := []) (lv0 := [(0, .int a1), (1, .int 0), (2, .int 5)]) kc_11_3 rfl rfl (Nat.le_of_ble_eq_true rfl) rfl rfl (Nat.le_of_ble_eq_true rfl) (hJ _ _ _ _ (by decide)) (xm_le ml_12 rfl) rfl ?_
                refine xi_iload_n (pc' := 1) (x := a1) kc_12_0 rfl rfl ?_
                refine xi_iload_n (pc' := 2) (x := 0) kc_12_1 rfl rfl ?_
                refine xi_cmf (pc' := 5) kc_12_2 rfl (xc_lt_f (X := a1.toInt) (Y := 0) rfl (by decide) (by omega)) ?_
                refine xi_iload_n (pc' := 6) (x := a1) kc_12_5 rfl rfl ?_
                refine xi_iload_n (pc' := 7) (x := 5) kc_12_6 rfl rfl ?_
                refine xi_cmf (pc' := 10) kc_12_7 rfl (xc_gt_f (X := a1.toInt) (Y := 5) rfl (by decide) (by omega)) ?_
                refine xi_iconst (pc' := 11) (v := 1) kc_12_10 rfl rfl ?_
                refine xi_goto (pc' := 15) kc_12_11 rfl ?_
                refine xi_ireturn kc_12_15 mr_12 rfl ?_
                show xw J ov 98 11 (6, [(0, .int a1)], [.int 1], hh2) _
                refine xi_ireturn kc_11_6 mr_11 rfl ?_
                show xw J ov 99 10 (9, [(0, .ref 115), (1, .int a1), (2, .int 3), (3, .int a3)], [.int 1], hh2) _
                refine xi_ift (pc' := 18) kc_10_9 rfl rfl ?_
                refine xi_iload_n (pc' := 19) (x := 3) kc_10_18 rfl rfl ?_
                refine xi_iconst (pc' := 20) (v := 0) kc_10_19 rfl rfl ?_
                refine xi_iconst (pc' := 21) (v := 5) kc_10_20 rfl rfl ?_
                refine xi_static (mj := 12) (as := [.int 3, .int 0, .int 5]) (st1 := []) (lv0 := [(0, .int 3), (1, .int 0), (2, .int 5)]) kc_10_21 rfl rfl (Nat.le_of_ble_eq_true rfl) rfl rfl (Nat.le_of_ble_eq_true rfl) (hJ _ _ _ _ (by decide)) (xm_le ml_12 rfl) rfl ?_
                refine xi_iload_n (pc' := 1) (x := 3) kc_12_0 rfl rfl ?_
                refine xi_iload_n (pc' := 2) (x := 0) kc_12_1 rfl rfl ?_
                refine xi_cmf (pc' := 5) kc_12_2 rfl rfl ?_
                refine xi_iload_n (pc' := 6) (x := 3) kc_12_5 rfl rfl ?_
                refine xi_iload_n (pc' := 7) (x := 5) kc_12_6 rfl rfl ?_
                refine xi_cmf (pc' := 10) kc_12_7 rfl rfl ?_
                refine xi_iconst (pc' := 11) (v := 1) kc_12_10 rfl rfl ?_
                refine xi_goto (pc' := 15) kc_12_11 rfl ?_
                refine xi_ireturn kc_12_15 mr_12 rfl ?_
                show xw J ov 99 10 (24, [(0, .ref 115), (1, .int a1), (2, .int 3), (3, .int a3)], [.int 1], hh2) _
                refine xi_ift (pc' := 34) kc_10_24 rfl rfl ?_
                refine xi_iload_n (pc' := 35) (x := a3) kc_10_34 rfl rfl ?_
                refine xi_iload_n (pc' := 36) (x := 3) kc_10_35 rfl rfl ?_
                refine xi_ift (pc' := 44) kc_10_36 rfl rfl ?_
                refine xi_iconst (pc' := 45) (v := 0) kc_10_44 rfl rfl ?_
                refine xi_cmt (pc' := 55) kc_10_45 rfl (xc_ge_t (X := a3.toInt) (Y := 0) rfl (by decide) (by omega)) ?_
                refine xi_iload_n (pc' := 56) (x := a3) kc_10_55 rfl rfl ?_
                refine xi_iload_n (pc' := 57) (x := 3) kc_10_56 rfl rfl ?_
                refine xi_ift (pc' := 65) kc_10_57 rfl rfl ?_
                refine xi_iload_n (pc' := 66) (x := 3) kc_10_65 rfl rfl ?_
                refine xi_iconst (pc' := 67) (v := 1) kc_10_66 rfl rfl ?_
                refine xi_cmt (pc' := 75) kc_10_67 rfl rfl ?_
                refine xi_iload_n (pc' := 76) (x := 3) kc_10_75 rfl rfl ?_
                refine xi_iconst (pc' := 77) (v := 4) kc_10_76 rfl rfl ?_
                refine xi_cmf (pc' := 80) kc_10_77 rfl rfl ?_
                refine xi_bipush (pc' := 82) (v := 50) kc_10_80 rfl rfl ?_
                refine xi_goto (pc' := 96) kc_10_82 rfl ?_
                refine xi_cmf (pc' := 99) kc_10_96 rfl (xc_le_f (X := a3.toInt) (Y := 50) rfl (by decide) (by omega)) ?_
                refine xi_aload_n (pc' := 100) (x := 115) kc_10_99 rfl rfl ?_
                refine xi_bipush (pc' := 102) (v := (-6)) kc_10_100 rfl rfl ?_
                refine xi_virtual (mj := 13) (as := [.int (-6)]) (st1 := []) (lv0 := [(0, .ref 115), (1, .int (-6))]) kc_10_102 rfl rfl rfl rfl rfl eh2.1 (Nat.le_of_ble_eq_true rfl) (hJ _ _ _ _ (by decide)) (xm_le ml_13 rfl) rfl ?_
                refine xi_aload_n (pc' := 1) (x := 115) kc_13_0 rfl rfl ?_
                refine xi_getfield (pc' := 4) (v := .ref 140) kc_13_1 rfl rfl rfl eh2.1 rfl ?_
                refine xi_iload_n (pc' := 5) (x := (-6)) kc_13_4 rfl rfl ?_
                refine xi_ineg (pc' := 6) (v := 6) kc_13_5 rfl rfl ?_
                refine xi_dup2 (pc' := 7) kc_13_6 rfl ⟨rfl, rfl⟩ ?_
                refine xi_iaload (pc' := 8) (v := 0) kc_13_7 rfl ((eh2.2.1 140 (by decide)).trans ((eh1.2.1 140 (by decide)).trans (F 140 _ hl_140))) (by decide) rfl (xi_in (n := 7) (by decide) (by decide)) rfl ?_
                refine xi_iconst (pc' := 9) (v := 1) kc_13_8 rfl rfl ?_
                refine xi_iadd (pc' := 10) (v := 1) kc_13_9 rfl rfl ?_
                refine xi_iastore (pc' := 11) (x' := [0, 0, 0, 0, 0, 0, 1]) kc_13_10 rfl ((eh2.2.1 140 (by decide)).trans ((eh1.2.1 140 (by decide)).trans (F 140 _ hl_140))) rfl (xi_in (n := 7) (by decide) (by decide)) rfl (fun hh3 eh3 => ?_)
                refine xi_iload_n (pc' := 12) (x := (-6)) kc_13_11 rfl rfl ?_
                refine xi_ireturn kc_13_12 mr_13 rfl ?_
                show xw J ov 99 10 (105, [(0, .ref 115), (1, .int a1), (2, .int 3), (3, .int a3)], [.int (-6)], hh3) _
                refine xi_ireturn kc_10_105 mr_10 rfl ?_
                show xw J ov 100 196 (236, [(4, .int 0), (3, .ref 167), (2, .ref 115), (1, .ref 0), (0, .ref 1000000)], [.int (-6), .int (-6)], hh3) _
                refine xi_cmt (pc' := 1528) kc_196_236 rfl rfl ?_
                refine xi_iinc (pc' := 1531) (x := 0) (v := 6) (lv' := [(4, .int 6), (3, .ref 167), (2, .ref 115), (1, .ref 0), (0, .ref 1000000)]) kc_196_1528 rfl rfl rfl rfl (xm_lt ml_196 rfl) ?_
                refine xi_goto (pc' := 23) kc_196_1531 rfl ?_
                refine xi_iload (pc' := 25) (x := 6) kc_196_23 rfl rfl ?_
                refine xi_aload_n (pc' := 26) (x := 1000000) kc_196_25 rfl rfl ?_
                refine xi_arraylength (pc' := 27) (n := 6) (v := 6) kc_196_26 rfl (xl_lenO (by decide) hov0 rfl) rfl ?_
                refine xi_bipush (pc' := 29) (v := 6) kc_196_27 rfl rfl ?_
                refine xi_isub (pc' := 30) (v := 0) kc_196_29 rfl rfl ?_
                refine xi_cmt (pc' := 1534) kc_196_30 rfl rfl ?_
                refine xi_iconst (pc' := 1535) (v := 1) kc_196_1534 rfl rfl ?_
                refine xi_ireturn kc_196_1535 mr_196 rfl ?_
                refine ⟨rfl, ?_, ?_⟩
                · rw [eh3.2.2.1, eh2.2.2.1, eh1.2.2.1]; exact hn0
                · rw [eh3.2.2.2, eh2.2.2.2, eh1.2.2.2]; exact hz0
            · refine xi_cmf (pc' := 38) kc_89_35 rfl (xc_ge_f (X := a3.toInt) (Y := 0) rfl (by decide) (by omega)) ?_
              refine xi_aload_n (pc' := 39) (x := 0) kc_89_38 rfl rfl ?_
              refine xi_bipush (pc' := 41) (v := (-4)) kc_89_39 rfl rfl ?_
              refine xi_virtual (mj := 91) (as := [.int (-4)]) (st1 := []) (lv0 := [(0, .ref 0), (1, .int (-4))]) kc_89_41 rfl rfl rfl rfl rfl (F 0 _ hl_0) (Nat.le_of_ble_eq_true rfl) (hJ _ _ _ _ (by decide)) (xm_le ml_91 rfl) rfl ?_
              refine xi_iload_n (pc' := 1) (x := (-4)) kc_91_0 rfl rfl ?_
              refine xi_ineg (pc' := 2) (v := 4) kc_91_1 rfl rfl ?_
              refine xi_istore_n (pc' := 3) (lv' := [(2, .int 4), (0, .ref 0), (1, .int (-4))]) kc_91_2 rfl rfl (xm_lt ml_91 rfl) ?_
              refine xi_iload_n (pc' := 4) (x := 4) kc_91_3 rfl rfl ?_
              refine xi_iff (pc' := 7) kc_91_4 rfl rfl ?_
              refine xi_iload_n (pc' := 8) (x := 4) kc_91_7 rfl rfl ?_
              refine xi_aload_n (pc' := 9) (x := 0) kc_91_8 rfl rfl ?_
              refine xi_getfield (pc' := 12) (v := .ref 94) kc_91_9 rfl rfl rfl (F 0 _ hl_0) rfl ?_
              refine xi_arraylength (pc' := 13) (n := 7) (v := 7) kc_91_12 rfl (xl_lenI (by decide) (by decide) (F 94 _ hl_94) (by simp only [List.length_replicate, List.length_cons, List.length_nil])) rfl ?_
              refine xi_cmf (pc' := 16) kc_91_13 rfl rfl ?_
              refine xi_aload_n (pc' := 17) (x := 0) kc_91_16 rfl rfl ?_
              refine xi_getfield (pc' := 20) (v := .ref 94) kc_91_17 rfl rfl rfl (F 0 _ hl_0) rfl ?_
              refine xi_iload_n (pc' := 21) (x := 4) kc_91_20 rfl rfl ?_
              refine xi_dup2 (pc' := 22) kc_91_21 rfl ⟨rfl, rfl⟩ ?_
              refine xi_iaload (pc' := 23) (v := 0) kc_91_22 rfl (F 94 _ hl_94) (by decide) rfl (xi_in (n := 7) (by decide) (by decide)) rfl ?_
              refine xi_iconst (pc' := 24) (v := 1) kc_91_23 rfl rfl ?_
              refine xi_iadd (pc' := 25) (v := 1) kc_91_24 rfl rfl ?_
              refine xi_iastore (pc' := 26) (x' := [0, 0, 0, 0, 1, 0, 0]) kc_91_25 rfl (F 94 _ hl_94) rfl (xi_in (n := 7) (by decide) (by decide)) rfl (fun hh1 eh1 => ?_)
              refine xi_iload_n (pc' := 27) (x := (-4)) kc_91_26 rfl rfl ?_
              refine xi_ireturn kc_91_27 mr_91 rfl ?_
              show xw J ov 99 89 (44, [(0, .ref 0), (1, .int a1), (2, .int 3), (3, .int a3)], [.int (-4)], hh1) _
              refine xi_ireturn kc_89_44 mr_89 rfl ?_
              show xw J ov 100 196 (214, [(4, .int 0), (3, .ref 167), (2, .ref 115), (1, .ref 0), (0, .ref 1000000)], [.int (-4)], hh1) _
              refine xi_aload_n (pc' := 215) (x := 115) kc_196_214 rfl rfl ?_
              refine xi_aload_n (pc' := 216) (x := 1000000) kc_196_215 rfl rfl ?_
              refine xi_iload (pc' := 218) (x := 0) kc_196_216 rfl rfl ?_
              refine xi_iconst (pc' := 219) (v := 1) kc_196_218 rfl rfl ?_
              refine xi_iadd (pc' := 220) (v := 1) kc_196_219 rfl rfl ?_
              refine xi_ialoadO (pc' := 221) (v := a1) kc_196_220 rfl (by decide) hov0 (xi_in (n := 6) (by decide) (by decide)) rfl ?_
              refine xi_aload_n (pc' := 222) (x := 1000000) kc_196_221 rfl rfl ?_
              refine xi_iload (pc' := 224) (x := 0) kc_196_222 rfl rfl ?_
              refine xi_iconst (pc' := 225) (v := 2) kc_196_224 rfl rfl ?_
              refine xi_iadd (pc' := 226) (v := 2) kc_196_225 rfl rfl ?_
              refine xi_ialoadO (pc' := 227) (v := 3) kc_196_226 rfl (by decide) hov0 (xi_in (n := 6) (by decide) (by decide)) rfl ?_
              refine xi_aload_n (pc' := 228) (x := 1000000) kc_196_227 rfl rfl ?_
              refine xi_iload (pc' := 230) (x := 0) kc_196_228 rfl rfl ?_
              refine xi_iconst (pc' := 231) (v := 3) kc_196_230 rfl rfl ?_
              refine xi_iadd (pc' := 232) (v := 3) kc_196_231 rfl rfl ?_
              refine xi_ialoadO (pc' := 233) (v := a3) kc_196_232 rfl (by decide) hov0 (xi_in (n := 6) (by decide) (by decide)) rfl ?_
              refine xi_virtual (mj := 10) (as := [.int a1, .int 3, .int a3]) (st1 := [.int (-4)]) (lv0 := [(0, .ref 115), (1, .int a1), (2, .int 3), (3, .int a3)]) kc_196_233 rfl rfl rfl rfl rfl ((eh1.2.1 115 (by decide)).trans (F 115 _ hl_115)) (Nat.le_of_ble_eq_true rfl) (hJ _ _ _ _ (by decide)) (xm_le ml_10 rfl) rfl ?_
              refine xi_aload_n (pc' := 1) (x := 115) kc_10_0 rfl rfl ?_
              refine xi_iconst (pc' := 2) (v := 0) kc_10_1 rfl rfl ?_
              refine xi_putfield (pc' := 5) (fs' := [.int 0, .int 0, .ref 116, .ref 117, .ref 118, .ref 119, .ref 120, .ref 121, .ref 122, .ref 123, .ref 124, .ref 125, .ref 126, .ref 127, .ref 128, .ref 129, .int 4, .ref 130, .int 0, .ref 131, .ref 132, .ref 133, .ref 134, .int 0, .ref 135, .ref 136, .ref 137, .ref 138, .ref 139, .ref 140, .ref 141, .ref 142, .int 0, .int 0, .int 0, .ref 143, .ref 144, .ref 145, .ref 146, .ref 147, .ref 148, .int 0, .ref 149, .ref 150, .ref 151, .int 0, .ref 152, .ref 153, .ref 154, .ref 155, .ref 156, .ref 157, .ref 158, .ref 159, .int 0, .ref 160, .int 0, .ref 161, .ref 162, .ref 163, .ref 164, .int 0, .ref 165, .ref 166]) kc_10_2 rfl rfl rfl ((eh1.2.1 115 (by decide)).trans (F 115 _ hl_115)) rfl rfl rfl (Nat.le_of_ble_eq_true rfl) rfl (fun hh2 eh2 => ?_)
              refine xi_iload_n (pc' := 6) (x := a1) kc_10_5 rfl rfl ?_
              refine xi_static (mj := 11) (as := [.int a1]) (st1 := []) (lv0 := [(0, .int a1)]) kc_10_6 rfl rfl (Nat.le_of_ble_eq_true rfl) rfl rfl (Nat.le_of_ble_eq_true rfl) (hJ _ _ _ _ (by decide)) (xm_le ml_11 rfl) rfl ?_
              refine xi_iload_n (pc' := 1) (x := a1) kc_11_0 rfl rfl ?_
              refine xi_iconst (pc' := 2) (v := 0) kc_11_1 rfl rfl ?_
              refine xi_iconst (pc' := 3) (v := 5) kc_11_2 rfl rfl ?_
              refine xi_static (mj := 12) (as := [.int a1, .int 0, .int 5]) (st1 := []) (lv0 := [(0, .int a1), (1, .int 0), (2, .int 5)]) kc_11_3 rfl rfl (Nat.le_of_ble_eq_true rfl) rfl rfl (Nat.le_of_ble_eq_true rfl) (hJ _ _ _ _ (by decide)) (xm_le ml_12 rfl) rfl ?_
              refine xi_iload_n (pc' := 1) (x := a1) kc_12_0 rfl rfl ?_
              refine xi_iload_n (pc' := 2) (x := 0) kc_12_1 rfl rfl ?_
              refine xi_cmf (pc' := 5) kc_12_2 rfl (xc_lt_f (X := a1.toInt) (Y := 0) rfl (by decide) (by omega)) ?_
              refine xi_iload_n (pc' := 6) (x := a1) kc_12_5 rfl rfl ?_
              refine xi_iload_n (pc' := 7) (x := 5) kc_12_6 rfl rfl ?_
              refine xi_cmf (pc' := 10) kc_12_7 rfl (xc_gt_f (X := a1.toInt) (Y := 5) rfl (by decide) (by omega)) ?_
              refine xi_iconst (pc' := 11) (v := 1) kc_12_10 rfl rfl ?_
              refine xi_goto (pc' := 15) kc_12_11 rfl ?_
              refine xi_ireturn kc_12_15 mr_12 rfl ?_
              show xw J ov 98 11 (6, [(0, .int a1)], [.int 1], hh2) _
              refine xi_ireturn kc_11_6 mr_11 rfl ?_
              show xw J ov 99 10 (9, [(0, .ref 115), (1, .int a1), (2, .int 3), (3, .int a3)], [.int 1], hh2) _
              refine xi_ift (pc' := 18) kc_10_9 rfl rfl ?_
              refine xi_iload_n (pc' := 19) (x := 3) kc_10_18 rfl rfl ?_
              refine xi_iconst (pc' := 20) (v := 0) kc_10_19 rfl rfl ?_
              refine xi_iconst (pc' := 21) (v := 5) kc_10_20 rfl rfl ?_
              refine xi_static (mj := 12) (as := [.int 3, .int 0, .int 5]) (st1 := []) (lv0 := [(0, .int 3), (1, .int 0), (2, .int 5)]) kc_10_21 rfl rfl (Nat.le_of_ble_eq_true rfl) rfl rfl (Nat.le_of_ble_eq_true rfl) (hJ _ _ _ _ (by decide)) (xm_le ml_12 rfl) rfl ?_
              refine xi_iload_n (pc' := 1) (x := 3) kc_12_0 rfl rfl ?_
              refine xi_iload_n (pc' := 2) (x := 0) kc_12_1 rfl rfl ?_
              refine xi_cmf (pc' := 5) kc_12_2 rfl rfl ?_
              refine xi_iload_n (pc' := 6) (x := 3) kc_12_5 rfl rfl ?_
              refine xi_iload_n (pc' := 7) (x := 5) kc_12_6 rfl rfl ?_
              refine xi_cmf (pc' := 10) kc_12_7 rfl rfl ?_
              refine xi_iconst (pc' := 11) (v := 1) kc_12_10 rfl rfl ?_
              refine xi_goto (pc' := 15) kc_12_11 rfl ?_
              refine xi_ireturn kc_12_15 mr_12 rfl ?_
              show xw J ov 99 10 (24, [(0, .ref 115), (1, .int a1), (2, .int 3), (3, .int a3)], [.int 1], hh2) _
              refine xi_ift (pc' := 34) kc_10_24 rfl rfl ?_
              refine xi_iload_n (pc' := 35) (x := a3) kc_10_34 rfl rfl ?_
              refine xi_iload_n (pc' := 36) (x := 3) kc_10_35 rfl rfl ?_
              refine xi_ift (pc' := 44) kc_10_36 rfl rfl ?_
              refine xi_iconst (pc' := 45) (v := 0) kc_10_44 rfl rfl ?_
              refine xi_cmf (pc' := 48) kc_10_45 rfl (xc_ge_f (X := a3.toInt) (Y := 0) rfl (by decide) (by omega)) ?_
              refine xi_aload_n (pc' := 49) (x := 115) kc_10_48 rfl rfl ?_
              refine xi_bipush (pc' := 51) (v := (-4)) kc_10_49 rfl rfl ?_
              refine xi_virtual (mj := 13) (as := [.int (-4)]) (st1 := []) (lv0 := [(0, .ref 115), (1, .int (-4))]) kc_10_51 rfl rfl rfl rfl rfl eh2.1 (Nat.le_of_ble_eq_true rfl) (hJ _ _ _ _ (by decide)) (xm_le ml_13 rfl) rfl ?_
              refine xi_aload_n (pc' := 1) (x := 115) kc_13_0 rfl rfl ?_
              refine xi_getfield (pc' := 4) (v := .ref 140) kc_13_1 rfl rfl rfl eh2.1 rfl ?_
              refine xi_iload_n (pc' := 5) (x := (-4)) kc_13_4 rfl rfl ?_
              refine xi_ineg (pc' := 6) (v := 4) kc_13_5 rfl rfl ?_
              refine xi_dup2 (pc' := 7) kc_13_6 rfl ⟨rfl, rfl⟩ ?_
              refine xi_iaload (pc' := 8) (v := 0) kc_13_7 rfl ((eh2.2.1 140 (by decide)).trans ((eh1.2.1 140 (by decide)).trans (F 140 _ hl_140))) (by decide) rfl (xi_in (n := 7) (by decide) (by decide)) rfl ?_
              refine xi_iconst (pc' := 9) (v := 1) kc_13_8 rfl rfl ?_
              refine xi_iadd (pc' := 10) (v := 1) kc_13_9 rfl rfl ?_
              refine xi_iastore (pc' := 11) (x' := [0, 0, 0, 0, 1, 0, 0]) kc_13_10 rfl ((eh2.2.1 140 (by decide)).trans ((eh1.2.1 140 (by decide)).trans (F 140 _ hl_140))) rfl (xi_in (n := 7) (by decide) (by decide)) rfl (fun hh3 eh3 => ?_)
              refine xi_iload_n (pc' := 12) (x := (-4)) kc_13_11 rfl rfl ?_
              refine xi_ireturn kc_13_12 mr_13 rfl ?_
              show xw J ov 99 10 (54, [(0, .ref 115), (1, .int a1), (2, .int 3), (3, .int a3)], [.int (-4)], hh3) _
              refine xi_ireturn kc_10_54 mr_10 rfl ?_
              show xw J ov 100 196 (236, [(4, .int 0), (3, .ref 167), (2, .ref 115), (1, .ref 0), (0, .ref 1000000)], [.int (-4), .int (-4)], hh3) _
              refine xi_cmt (pc' := 1528) kc_196_236 rfl rfl ?_
              refine xi_iinc (pc' := 1531) (x := 0) (v := 6) (lv' := [(4, .int 6), (3, .ref 167), (2, .ref 115), (1, .ref 0), (0, .ref 1000000)]) kc_196_1528 rfl rfl rfl rfl (xm_lt ml_196 rfl) ?_
              refine xi_goto (pc' := 23) kc_196_1531 rfl ?_
              refine xi_iload (pc' := 25) (x := 6) kc_196_23 rfl rfl ?_
              refine xi_aload_n (pc' := 26) (x := 1000000) kc_196_25 rfl rfl ?_
              refine xi_arraylength (pc' := 27) (n := 6) (v := 6) kc_196_26 rfl (xl_lenO (by decide) hov0 rfl) rfl ?_
              refine xi_bipush (pc' := 29) (v := 6) kc_196_27 rfl rfl ?_
              refine xi_isub (pc' := 30) (v := 0) kc_196_29 rfl rfl ?_
              refine xi_cmt (pc' := 1534) kc_196_30 rfl rfl ?_
              refine xi_iconst (pc' := 1535) (v := 1) kc_196_1534 rfl rfl ?_
              refine xi_ireturn kc_196_1535 mr_196 rfl ?_
              refine ⟨rfl, ?_, ?_⟩
              · rw [eh3.2.2.1, eh2.2.2.1, eh1.2.2.1]; exact hn0
              · rw [eh3.2.2.2, eh2.2.2.2, eh1.2.2.2]; exact hz0
          by_cases c37 : a2.toInt = 4
          · have qa2 : a2 = 4 := xc_of (Eq.trans (by omega) (show (4 : Int) = (4 : Int32).toInt by decide))
            subst qa2
            refine xi_ialoadO (pc' := 35) (v := 0) kc_89_34 rfl (by decide) hov1 (xi_in (n := 6) (by decide) (by decide)) rfl ?_
            by_cases c38 : 0 ≤ a3.toInt
            · refine xi_cmt (pc' := 45) kc_89_35 rfl (xc_ge_t (X := a3.toInt) (Y := 0) rfl (by decide) (by omega)) ?_
              refine xi_iload_n (pc' := 46) (x := a3) kc_89_45 rfl rfl ?_
              refine xi_getstatic (pc' := 49) (j := 1000002) kc_89_46 rfl rfl ?_
              refine xi_iload_n (pc' := 50) (x := 4) kc_89_49 rfl rfl ?_
              refine xi_ialoadO (pc' := 51) (v := 1) kc_89_50 rfl (by decide) hov2 (xi_in (n := 6) (by decide) (by decide)) rfl ?_
              by_cases c39 : a3.toInt ≤ 1
              · refine xi_cmt (pc' := 61) kc_89_51 rfl (xc_le_t (X := a3.toInt) (Y := 1) rfl (by decide) (by omega)) ?_
                refine xi_iload_n (pc' := 62) (x := 4) kc_89_61 rfl rfl ?_
                refine xi_iconst (pc' := 63) (v := 5) kc_89_62 rfl rfl ?_
                refine xi_cmt (pc' := 90) kc_89_63 rfl rfl ?_
                refine xi_aload_n (pc' := 91) (x := 0) kc_89_90 rfl rfl ?_
                refine xi_getfield (pc' := 94) (v := .ref 66) kc_89_91 rfl rfl rfl (F 0 _ hl_0) rfl ?_
                refine xi_virtual (mj := 92) (as := []) (st1 := []) (lv0 := [(0, .ref 66)]) kc_89_94 rfl rfl rfl rfl rfl (F 66 _ hl_66) (Nat.le_of_ble_eq_true rfl) (hJ _ _ _ _ (by decide)) (xm_le ml_92 rfl) rfl ?_
                refine xi_aload_n (pc' := 1) (x := 66) kc_92_0 rfl rfl ?_
                refine xi_lconst (pc' := 2) (v := 0) kc_92_1 rfl rfl ?_
                refine xi_putfield (pc' := 5) (fs' := [.ref 1, .ref 67, .ref 70, .ref 71, .ref 72, .ref 73, .ref 74, .long 0, .int 0]) kc_92_2 rfl rfl rfl (F 66 _ hl_66) rfl rfl rfl (Nat.le_of_ble_eq_true rfl) rfl (fun hh1 eh1 => ?_)
                refine xi_return kc_92_5 mr_92 ?_
                show xw J ov 99 89 (97, [(0, .ref 0), (1, .int a1), (2, .int 4), (3, .int a3)], [], hh1) _
                refine xi_aload_n (pc' := 98) (x := 0) kc_89_97 rfl rfl ?_
                refine xi_getfield (pc' := 101) (v := .ref 1) kc_89_98 rfl rfl rfl ((eh1.2.1 0 (by decide)).trans (F 0 _ hl_0)) rfl ?_
                refine xi_iload_n (pc' := 102) (x := a1) kc_89_101 rfl rfl ?_
                refine xi_iload_n (pc' := 103) (x := 4) kc_89_102 rfl rfl ?_
                refine xi_iload_n (pc' := 104) (x := a3) kc_89_103 rfl rfl ?_
                refine xi_virtual (mj := 93) (as := [.int a1, .int 4, .int a3]) (st1 := []) (lv0 := [(0, .ref 1), (1, .int a1), (2, .int 4), (3, .int a3)]) kc_89_104 rfl rfl rfl rfl rfl ((eh1.2.1 1 (by decide)).trans (F 1 _ hl_1)) (Nat.le_of_ble_eq_true rfl) (hJ _ _ _ _ (by decide)) (xm_le ml_93 rfl) rfl ?_
                refine xi_iload_n (pc' := 1) (x := a1) kc_93_0 rfl rfl ?_
                refine xi_static (mj := 90) (as := [.int a1]) (st1 := []) (lv0 := [(0, .int a1)]) kc_93_1 rfl rfl (Nat.le_of_ble_eq_true rfl) rfl rfl (Nat.le_of_ble_eq_true rfl) (hJ _ _ _ _ (by decide)) (xm_le ml_90 rfl) rfl ?_
                refine xi_iload_n (pc' := 1) (x := a1) kc_90_0 rfl rfl ?_
                refine xi_iff (pc' := 4) kc_90_1 rfl (xc_lt_f (X := a1.toInt) (Y := 0) rfl (by decide) (by omega)) ?_
                refine xi_iload_n (pc' := 5) (x := a1) kc_90_4 rfl rfl ?_
                refine xi_bipush (pc' := 7) (v := 6) kc_90_5 rfl rfl ?_
                refine xi_cmf (pc' := 10) kc_90_7 rfl (xc_ge_f (X := a1.toInt) (Y := 6) rfl (by decide) (by omega)) ?_
                refine xi_iconst (pc' := 11) (v := 1) kc_90_10 rfl rfl ?_
                refine xi_goto (pc' := 15) kc_90_11 rfl ?_
                refine xi_ireturn kc_90_15 mr_90 rfl ?_
                show xw J ov 98 93 (4, [(0, .ref 1), (1, .int a1), (2, .int 4), (3, .int a3)], [.int 1], hh1) _
                refine xi_iff (pc' := 7) kc_93_4 rfl rfl ?_
                refine xi_aload_n (pc' := 8) (x := 1) kc_93_7 rfl rfl ?_
                refine xi_getfield (pc' := 11) (v := .ref 2) kc_93_8 rfl rfl rfl ((eh1.2.1 1 (by decide)).trans (F 1 _ hl_1)) rfl ?_
                refine xi_iload_n (pc' := 12) (x := a1) kc_93_11 rfl rfl ?_
                by_cases c40 : a1.toInt = 0
                · have qa1 : a1 = 0 := xc_of (Eq.trans (by omega) (show (0 : Int) = (0 : Int32).toInt by decide))
                  subst qa1
                  refine xi_aaload (pc' := 13) (b := 11) kc_93_12 rfl ((eh1.2.1 2 (by decide)).trans (F 2 _ hl_2)) rfl (xi_in (n := 6) (by decide) (by decide)) rfl ?_
                  refine xi_iload_n (pc' := 14) (x := 4) kc_93_13 rfl rfl ?_
                  refine xi_iload_n (pc' := 15) (x := a3) kc_93_14 rfl rfl ?_
                  refine xi_virtual (mj := 94) (as := [.int 4, .int a3]) (st1 := []) (lv0 := [(0, .ref 11), (1, .int 4), (2, .int a3)]) kc_93_15 rfl rfl rfl rfl rfl ((eh1.2.1 11 (by decide)).trans (F 11 _ hl_11)) (Nat.le_of_ble_eq_true rfl) (hJ _ _ _ _ (by decide)) (xm_le ml_94 rfl) rfl ?_
                  refine xi_iload_n (pc' := 1) (x := 4) kc_94_0 rfl rfl ?_
                  refine xi_iff (pc' := 4) kc_94_1 rfl rfl ?_
                  refine xi_iload_n (pc' := 5) (x := 4) kc_94_4 rfl rfl ?_
                  refine xi_iconst (pc' := 6) (v := 5) kc_94_5 rfl rfl ?_
                  refine xi_cmt (pc' := 11) kc_94_6 rfl rfl ?_
                  refine xi_aload_n (pc' := 12) (x := 11) kc_94_11 rfl rfl ?_
                  refine xi_getfield (pc' := 15) (v := .ref 12) kc_94_12 rfl rfl rfl ((eh1.2.1 11 (by decide)).trans (F 11 _ hl_11)) rfl ?_
                  refine xi_iload_n (pc' := 16) (x := 4) kc_94_15 rfl rfl ?_
                  refine xi_iaload (pc' := 17) (v := 0) kc_94_16 rfl ((eh1.2.1 12 (by decide)).trans (F 12 _ hl_12)) (by decide) rfl (xi_in (n := 5) (by decide) (by decide)) rfl ?_
                  refine xi_istore_n (pc' := 18) (lv' := [(3, .int 0), (0, .ref 11), (1, .int 4), (2, .int a3)]) kc_94_17 rfl rfl (xm_lt ml_94 rfl) ?_
                  refine xi_aload_n (pc' := 19) (x := 11) kc_94_18 rfl rfl ?_
                  refine xi_getfield (pc' := 22) (v := .ref 12) kc_94_19 rfl rfl rfl ((eh1.2.1 11 (by decide)).trans (F 11 _ hl_11)) rfl ?_
                  refine xi_iload_n (pc' := 23) (x := 4) kc_94_22 rfl rfl ?_
                  refine xi_iload_n (pc' := 24) (x := a3) kc_94_23 rfl rfl ?_
                  refine xi_iastore (pc' := 25) (x' := [40, 18, 10, 0, a3]) kc_94_24 rfl ((eh1.2.1 12 (by decide)).trans (F 12 _ hl_12)) rfl (xi_in (n := 5) (by decide) (by decide)) rfl (fun hh2 eh2 => ?_)
                  refine xi_iload_n (pc' := 26) (x := 0) kc_94_25 rfl rfl ?_
                  refine xi_ireturn kc_94_26 mr_94 rfl ?_
                  show xw J ov 98 93 (18, [(0, .ref 1), (1, .int 0), (2, .int 4), (3, .int a3)], [.int 0], hh2) _
                  refine xi_goto (pc' := 22) kc_93_18 rfl ?_
                  refine xi_ireturn kc_93_22 mr_93 rfl ?_
                  show xw J ov 99 89 (107, [(0, .ref 0), (1, .int 0), (2, .int 4), (3, .int a3)], [.int 0], hh2) _
                  refine xi_ireturn kc_89_107 mr_89 rfl ?_
                  show xw J ov 100 196 (214, [(4, .int 0), (3, .ref 167), (2, .ref 115), (1, .ref 0), (0, .ref 1000000)], [.int 0], hh2) _
                  refine xi_aload_n (pc' := 215) (x := 115) kc_196_214 rfl rfl ?_
                  refine xi_aload_n (pc' := 216) (x := 1000000) kc_196_215 rfl rfl ?_
                  refine xi_iload (pc' := 218) (x := 0) kc_196_216 rfl rfl ?_
                  refine xi_iconst (pc' := 219) (v := 1) kc_196_218 rfl rfl ?_
                  refine xi_iadd (pc' := 220) (v := 1) kc_196_219 rfl rfl ?_
                  refine xi_ialoadO (pc' := 221) (v := 0) kc_196_220 rfl (by decide) hov0 (xi_in (n := 6) (by decide) (by decide)) rfl ?_
                  refine xi_aload_n (pc' := 222) (x := 1000000) kc_196_221 rfl rfl ?_
                  refine xi_iload (pc' := 224) (x := 0) kc_196_222 rfl rfl ?_
                  refine xi_iconst (pc' := 225) (v := 2) kc_196_224 rfl rfl ?_
                  refine xi_iadd (pc' := 226) (v := 2) kc_196_225 rfl rfl ?_
                  refine xi_ialoadO (pc' := 227) (v := 4) kc_196_226 rfl (by decide) hov0 (xi_in (n := 6) (by decide) (by decide)) rfl ?_
                  refine xi_aload_n (pc' := 228) (x := 1000000) kc_196_227 rfl rfl ?_
                  refine xi_iload (pc' := 230) (x := 0) kc_196_228 rfl rfl ?_
                  refine xi_iconst (pc' := 231) (v := 3) kc_196_230 rfl rfl ?_
                  refine xi_iadd (pc' := 232) (v := 3) kc_196_231 rfl rfl ?_
                  refine xi_ialoadO (pc' := 233) (v := a3) kc_196_232 rfl (by decide) hov0 (xi_in (n := 6) (by decide) (by decide)) rfl ?_
                  refine xi_virtual (mj := 10) (as := [.int 0, .int 4, .int a3]) (st1 := [.int 0]) (lv0 := [(0, .ref 115), (1, .int 0), (2, .int 4), (3, .int a3)]) kc_196_233 rfl rfl rfl rfl rfl ((eh2.2.1 115 (by decide)).trans ((eh1.2.1 115 (by decide)).trans (F 115 _ hl_115))) (Nat.le_of_ble_eq_true rfl) (hJ _ _ _ _ (by decide)) (xm_le ml_10 rfl) rfl ?_
                  refine xi_aload_n (pc' := 1) (x := 115) kc_10_0 rfl rfl ?_
                  refine xi_iconst (pc' := 2) (v := 0) kc_10_1 rfl rfl ?_
                  refine xi_putfield (pc' := 5) (fs' := [.int 0, .int 0, .ref 116, .ref 117, .ref 118, .ref 119, .ref 120, .ref 121, .ref 122, .ref 123, .ref 124, .ref 125, .ref 126, .ref 127, .ref 128, .ref 129, .int 4, .ref 130, .int 0, .ref 131, .ref 132, .ref 133, .ref 134, .int 0, .ref 135, .ref 136, .ref 137, .ref 138, .ref 139, .ref 140, .ref 141, .ref 142, .int 0, .int 0, .int 0, .ref 143, .ref 144, .ref 145, .ref 146, .ref 147, .ref 148, .int 0, .ref 149, .ref 150, .ref 151, .int 0, .ref 152, .ref 153, .ref 154, .ref 155, .ref 156, .ref 157, .ref 158, .ref 159, .int 0, .ref 160, .int 0, .ref 161, .ref 162, .ref 163, .ref 164, .int 0, .ref 165, .ref 166]) kc_10_2 rfl rfl rfl ((eh2.2.1 115 (by decide)).trans ((eh1.2.1 115 (by decide)).trans (F 115 _ hl_115))) rfl rfl rfl (Nat.le_of_ble_eq_true rfl) rfl (fun hh3 eh3 => ?_)
                  refine xi_iload_n (pc' := 6) (x := 0) kc_10_5 rfl rfl ?_
                  refine xi_static (mj := 11) (as := [.int 0]) (st1 := []) (lv0 := [(0, .int 0)]) kc_10_6 rfl rfl (Nat.le_of_ble_eq_true rfl) rfl rfl (Nat.le_of_ble_eq_true rfl) (hJ _ _ _ _ (by decide)) (xm_le ml_11 rfl) rfl ?_
                  refine xi_iload_n (pc' := 1) (x := 0) kc_11_0 rfl rfl ?_
                  refine xi_iconst (pc' := 2) (v := 0) kc_11_1 rfl rfl ?_
                  refine xi_iconst (pc' := 3) (v := 5) kc_11_2 rfl rfl ?_
                  refine xi_static (mj := 12) (as := [.int 0, .int 0, .int 5]) (st1 := []) (lv0 := [(0, .int 0), (1, .int 0), (2, .int 5)]) kc_11_3 rfl rfl (Nat.le_of_ble_eq_true rfl) rfl rfl (Nat.le_of_ble_eq_true rfl) (hJ _ _ _ _ (by decide)) (xm_le ml_12 rfl) rfl ?_
                  refine xi_iload_n (pc' := 1) (x := 0) kc_12_0 rfl rfl ?_
                  refine xi_iload_n (pc' := 2) (x := 0) kc_12_1 rfl rfl ?_
                  refine xi_cmf (pc' := 5) kc_12_2 rfl rfl ?_
                  refine xi_iload_n (pc' := 6) (x := 0) kc_12_5 rfl rfl ?_
                  refine xi_iload_n (pc' := 7) (x := 5) kc_12_6 rfl rfl ?_
                  refine xi_cmf (pc' := 10) kc_12_7 rfl rfl ?_
                  refine xi_iconst (pc' := 11) (v := 1) kc_12_10 rfl rfl ?_
                  refine xi_goto (pc' := 15) kc_12_11 rfl ?_
                  refine xi_ireturn kc_12_15 mr_12 rfl ?_
                  show xw J ov 98 11 (6, [(0, .int 0)], [.int 1], hh3) _
                  refine xi_ireturn kc_11_6 mr_11 rfl ?_
                  show xw J ov 99 10 (9, [(0, .ref 115), (1, .int 0), (2, .int 4), (3, .int a3)], [.int 1], hh3) _
                  refine xi_ift (pc' := 18) kc_10_9 rfl rfl ?_
                  refine xi_iload_n (pc' := 19) (x := 4) kc_10_18 rfl rfl ?_
                  refine xi_iconst (pc' := 20) (v := 0) kc_10_19 rfl rfl ?_
                  refine xi_iconst (pc' := 21) (v := 5) kc_10_20 rfl rfl ?_
                  refine xi_static (mj := 12) (as := [.int 4, .int 0, .int 5]) (st1 := []) (lv0 := [(0, .int 4), (1, .int 0), (2, .int 5)]) kc_10_21 rfl rfl (Nat.le_of_ble_eq_true rfl) rfl rfl (Nat.le_of_ble_eq_true rfl) (hJ _ _ _ _ (by decide)) (xm_le ml_12 rfl) rfl ?_
                  refine xi_iload_n (pc' := 1) (x := 4) kc_12_0 rfl rfl ?_
                  refine xi_iload_n (pc' := 2) (x := 0) kc_12_1 rfl rfl ?_
                  refine xi_cmf (pc' := 5) kc_12_2 rfl rfl ?_
                  refine xi_iload_n (pc' := 6) (x := 4) kc_12_5 rfl rfl ?_
                  refine xi_iload_n (pc' := 7) (x := 5) kc_12_6 rfl rfl ?_
                  refine xi_cmf (pc' := 10) kc_12_7 rfl rfl ?_
                  refine xi_iconst (pc' := 11) (v := 1) kc_12_10 rfl rfl ?_
                  refine xi_goto (pc' := 15) kc_12_11 rfl ?_
                  refine xi_ireturn kc_12_15 mr_12 rfl ?_
                  show xw J ov 99 10 (24, [(0, .ref 115), (1, .int 0), (2, .int 4), (3, .int a3)], [.int 1], hh3) _
                  refine xi_ift (pc' := 34) kc_10_24 rfl rfl ?_
                  refine xi_iload_n (pc' := 35) (x := a3) kc_10_34 rfl rfl ?_
                  refine xi_iload_n (pc' := 36) (x := 4) kc_10_35 rfl rfl ?_
                  refine xi_ift (pc' := 44) kc_10_36 rfl rfl ?_
                  refine xi_iconst (pc' := 45) (v := 0) kc_10_44 rfl rfl ?_
                  refine xi_cmt (pc' := 55) kc_10_45 rfl (xc_ge_t (X := a3.toInt) (Y := 0) rfl (by decide) (by omega)) ?_
                  refine xi_iload_n (pc' := 56) (x := a3) kc_10_55 rfl rfl ?_
                  refine xi_iload_n (pc' := 57) (x := 4) kc_10_56 rfl rfl ?_
                  refine xi_ift (pc' := 65) kc_10_57 rfl rfl ?_
                  refine xi_iload_n (pc' := 66) (x := 4) kc_10_65 rfl rfl ?_
                  refine xi_iconst (pc' := 67) (v := 1) kc_10_66 rfl rfl ?_
                  refine xi_cmt (pc' := 75) kc_10_67 rfl rfl ?_
                  refine xi_iload_n (pc' := 76) (x := 4) kc_10_75 rfl rfl ?_
                  refine xi_iconst (pc' := 77) (v := 4) kc_10_76 rfl rfl ?_
                  refine xi_cmt (pc' := 85) kc_10_77 rfl rfl ?_
                  refine xi_iload_n (pc' := 86) (x := 4) kc_10_85 rfl rfl ?_
                  refine xi_iconst (pc' := 87) (v := 4) kc_10_86 rfl rfl ?_
                  refine xi_cmf (pc' := 90) kc_10_87 rfl rfl ?_
                  refine xi_iconst (pc' := 91) (v := 1) kc_10_90 rfl rfl ?_
                  refine xi_goto (pc' := 96) kc_10_91 rfl ?_
                  refine xi_cmt (pc' := 106) kc_10_96 rfl (xc_le_t (X := a3.toInt) (Y := 1) rfl (by decide) (by omega)) ?_
                  refine xi_aload_n (pc' := 107) (x := 115) kc_10_106 rfl rfl ?_
                  refine xi_iload_n (pc' := 108) (x := 0) kc_10_107 rfl rfl ?_
                  refine xi_iload_n (pc' := 109) (x := 4) kc_10_108 rfl rfl ?_
                  refine xi_virtual (mj := 14) (as := [.int 0, .int 4]) (st1 := []) (lv0 := [(0, .ref 115), (1, .int 0), (2, .int 4)]) kc_10_109 rfl rfl rfl rfl rfl eh3.1 (Nat.le_of_ble_eq_true rfl) (hJ _ _ _ _ (by decide)) (xm_le ml_14 rfl) rfl ?_
                  refine xi_iload_n (pc' := 1) (x := 4) kc_14_0 rfl rfl ?_
                  refine xi_tsi (pc' := 64) (z := 4) kc_14_1 (rfl) rfl (by decide) ?_
                  refine xi_aload_n (pc' := 65) (x := 115) kc_14_64 rfl rfl ?_
                  refine xi_getfield (pc' := 68) (v := .ref 120) kc_14_65 rfl rfl rfl eh3.1 rfl ?_
                  refine xi_iload_n (pc' := 69) (x := 0) kc_14_68 rfl rfl ?_
                  refine xi_iaload (pc' := 70) (v := 0) kc_14_69 rfl ((eh3.2.1 120 (by decide)).trans ((eh2.2.1 120 (by decide)).trans ((eh1.2.1 120 (by decide)).trans (F 120 _ hl_120)))) (by decide) rfl (xi_in (n := 6) (by decide) (by decide)) rfl ?_
                  refine xi_ireturn kc_14_70 mr_14 rfl ?_
                  show xw J ov 99 10 (112, [(0, .ref 115), (1, .int 0), (2, .int 4), (3, .int a3)], [.int 0], hh3) _
                  refine xi_istore (pc' := 114) (lv' := [(4, .int 0), (0, .ref 115), (1, .int 0), (2, .int 4), (3, .int a3)]) kc_10_112 rfl rfl (xm_lt ml_10 rfl) ?_
                  refine xi_aload_n (pc' := 115) (x := 115) kc_10_114 rfl rfl ?_
                  refine xi_iload_n (pc' := 116) (x := 0) kc_10_115 rfl rfl ?_
                  refine xi_iload_n (pc' := 117) (x := 4) kc_10_116 rfl rfl ?_
                  refine xi_iload_n (pc' := 118) (x := a3) kc_10_117 rfl rfl ?_
                  refine xi_virtual (mj := 15) (as := [.int 0, .int 4, .int a3]) (st1 := []) (lv0 := [(0, .ref 115), (1, .int 0), (2, .int 4), (3, .int a3)]) kc_10_118 rfl rfl rfl rfl rfl eh3.1 (Nat.le_of_ble_eq_true rfl) (hJ _ _ _ _ (by decide)) (xm_le ml_15 rfl) rfl ?_
                  refine xi_aload_n (pc' := 1) (x := 115) kc_15_0 rfl rfl ?_
                  refine xi_getfield (pc' := 4) (v := .ref 116) kc_15_1 rfl rfl rfl eh3.1 rfl ?_
                  refine xi_iload_n (pc' := 5) (x := 0) kc_15_4 rfl rfl ?_
                  refine xi_iload_n (pc' := 6) (x := 4) kc_15_5 rfl rfl ?_
                  refine xi_ift (pc' := 13) kc_15_6 rfl rfl ?_
                  refine xi_aload_n (pc' := 14) (x := 115) kc_15_13 rfl rfl ?_
                  refine xi_getfield (pc' := 17) (v := .ref 116) kc_15_14 rfl rfl rfl eh3.1 rfl ?_
                  refine xi_iload_n (pc' := 18) (x := 0) kc_15_17 rfl rfl ?_
                  refine xi_iaload (pc' := 19) (v := 40) kc_15_18 rfl ((eh3.2.1 116 (by decide)).trans ((eh2.2.1 116 (by decide)).trans ((eh1.2.1 116 (by decide)).trans (F 116 _ hl_116)))) (by decide) rfl (xi_in (n := 6) (by decide) (by decide)) rfl ?_
                  refine xi_iastore (pc' := 20) (x' := [40, 40, 40, 40, 40, 40]) kc_15_19 rfl ((eh3.2.1 116 (by decide)).trans ((eh2.2.1 116 (by decide)).trans ((eh1.2.1 116 (by decide)).trans (F 116 _ hl_116)))) rfl (xi_in (n := 6) (by decide) (by decide)) rfl (fun hh4 eh4 => ?_)
                  refine xi_aload_n (pc' := 21) (x := 115) kc_15_20 rfl rfl ?_
                  refine xi_getfield (pc' := 24) (v := .ref 117) kc_15_21 rfl rfl rfl ((eh4.2.1 115 (by decide)).trans eh3.1) rfl ?_
                  refine xi_iload_n (pc' := 25) (x := 0) kc_15_24 rfl rfl ?_
                  refine xi_iload_n (pc' := 26) (x := 4) kc_15_25 rfl rfl ?_
                  refine xi_iconst (pc' := 27) (v := 1) kc_15_26 rfl rfl ?_
                  refine xi_cmt (pc' := 34) kc_15_27 rfl rfl ?_
                  refine xi_aload_n (pc' := 35) (x := 115) kc_15_34 rfl rfl ?_
                  refine xi_getfield (pc' := 38) (v := .ref 117) kc_15_35 rfl rfl rfl ((eh4.2.1 115 (by decide)).trans eh3.1) rfl ?_
                  refine xi_iload_n (pc' := 39) (x := 0) kc_15_38 rfl rfl ?_
                  refine xi_iaload (pc' := 40) (v := 18) kc_15_39 rfl ((eh4.2.1 117 (by decide)).trans ((eh3.2.1 117 (by decide)).trans ((eh2.2.1 117 (by decide)).trans ((eh1.2.1 117 (by decide)).trans (F 117 _ hl_117))))) (by decide) rfl (xi_in (n := 6) (by decide) (by decide)) rfl ?_
                  refine xi_iastore (pc' := 41) (x' := [18, 18, 18, 18, 18, 18]) kc_15_40 rfl ((eh4.2.1 117 (by decide)).trans ((eh3.2.1 117 (by decide)).trans ((eh2.2.1 117 (by decide)).trans ((eh1.2.1 117 (by decide)).trans (F 117 _ hl_117))))) rfl (xi_in (n := 6) (by decide) (by decide)) rfl (fun hh5 eh5 => ?_)
                  refine xi_aload_n (pc' := 42) (x := 115) kc_15_41 rfl rfl ?_
                  refine xi_getfield (pc' := 45) (v := .ref 118) kc_15_42 rfl rfl rfl ((eh5.2.1 115 (by decide)).trans ((eh4.2.1 115 (by decide)).trans eh3.1)) rfl ?_
                  refine xi_iload_n (pc' := 46) (x := 0) kc_15_45 rfl rfl ?_
                  refine xi_iload_n (pc' := 47) (x := 4) kc_15_46 rfl rfl ?_
                  refine xi_iconst (pc' := 48) (v := 2) kc_15_47 rfl rfl ?_
                  refine xi_cmt (pc' := 55) kc_15_48 rfl rfl ?_
                  refine xi_aload_n (pc' := 56) (x := 115) kc_15_55 rfl rfl ?_
                  refine xi_getfield (pc' := 59) (v := .ref 118) kc_15_56 rfl rfl rfl ((eh5.2.1 115 (by decide)).trans ((eh4.2.1 115 (by decide)).trans eh3.1)) rfl ?_
                  refine xi_iload_n (pc' := 60) (x := 0) kc_15_59 rfl rfl ?_
                  refine xi_iaload (pc' := 61) (v := 10) kc_15_60 rfl ((eh5.2.1 118 (by decide)).trans ((eh4.2.1 118 (by decide)).trans ((eh3.2.1 118 (by decide)).trans ((eh2.2.1 118 (by decide)).trans ((eh1.2.1 118 (by decide)).trans (F 118 _ hl_118)))))) (by decide) rfl (xi_in (n := 6) (by decide) (by decide)) rfl ?_
                  refine xi_iastore (pc' := 62) (x' := [10, 10, 10, 10, 10, 10]) kc_15_61 rfl ((eh5.2.1 118 (by decide)).trans ((eh4.2.1 118 (by decide)).trans ((eh3.2.1 118 (by decide)).trans ((eh2.2.1 118 (by decide)).trans ((eh1.2.1 118 (by decide)).trans (F 118 _ hl_118)))))) rfl (xi_in (n := 6) (by decide) (by decide)) rfl (fun hh6 eh6 => ?_)
                  refine xi_aload_n (pc' := 63) (x := 115) kc_15_62 rfl rfl ?_
                  refine xi_getfield (pc' := 66) (v := .ref 119) kc_15_63 rfl rfl rfl ((eh6.2.1 115 (by decide)).trans ((eh5.2.1 115 (by decide)).trans ((eh4.2.1 115 (by decide)).trans eh3.1))) rfl ?_
                  refine xi_iload_n (pc' := 67) (x := 0) kc_15_66 rfl rfl ?_
                  refine xi_iload_n (pc' := 68) (x := 4) kc_15_67 rfl rfl ?_
                  refine xi_iconst (pc' := 69) (v := 3) kc_15_68 rfl rfl ?_
                  refine xi_cmt (pc' := 76) kc_15_69 rfl rfl ?_
                  refine xi_aload_n (pc' := 77) (x := 115) kc_15_76 rfl rfl ?_
                  refine xi_getfield (pc' := 80) (v := .ref 119) kc_15_77 rfl rfl rfl ((eh6.2.1 115 (by decide)).trans ((eh5.2.1 115 (by decide)).trans ((eh4.2.1 115 (by decide)).trans eh3.1))) rfl ?_
                  refine xi_iload_n (pc' := 81) (x := 0) kc_15_80 rfl rfl ?_
                  refine xi_iaload (pc' := 82) (v := 0) kc_15_81 rfl ((eh6.2.1 119 (by decide)).trans ((eh5.2.1 119 (by decide)).trans ((eh4.2.1 119 (by decide)).trans ((eh3.2.1 119 (by decide)).trans ((eh2.2.1 119 (by decide)).trans ((eh1.2.1 119 (by decide)).trans (F 119 _ hl_119))))))) (by decide) rfl (xi_in (n := 6) (by decide) (by decide)) rfl ?_
                  refine xi_iastore (pc' := 83) (x' := [0, 0, 0, 0, 0, 0]) kc_15_82 rfl ((eh6.2.1 119 (by decide)).trans ((eh5.2.1 119 (by decide)).trans ((eh4.2.1 119 (by decide)).trans ((eh3.2.1 119 (by decide)).trans ((eh2.2.1 119 (by decide)).trans ((eh1.2.1 119 (by decide)).trans (F 119 _ hl_119))))))) rfl (xi_in (n := 6) (by decide) (by decide)) rfl (fun hh7 eh7 => ?_)
                  refine xi_aload_n (pc' := 84) (x := 115) kc_15_83 rfl rfl ?_
                  refine xi_getfield (pc' := 87) (v := .ref 120) kc_15_84 rfl rfl rfl ((eh7.2.1 115 (by decide)).trans ((eh6.2.1 115 (by decide)).trans ((eh5.2.1 115 (by decide)).trans ((eh4.2.1 115 (by decide)).trans eh3.1)))) rfl ?_
                  refine xi_iload_n (pc' := 88) (x := 0) kc_15_87 rfl rfl ?_
                  refine xi_iload_n (pc' := 89) (x := 4) kc_15_88 rfl rfl ?_
                  refine xi_iconst (pc' := 90) (v := 4) kc_15_89 rfl rfl ?_
                  refine xi_cmf (pc' := 93) kc_15_90 rfl rfl ?_
                  refine xi_iload_n (pc' := 94) (x := a3) kc_15_93 rfl rfl ?_
                  refine xi_goto (pc' := 103) kc_15_94 rfl ?_
                  refine xi_iastore (pc' := 104) (x' := [a3, 0, 0, 0, 0, 0]) kc_15_103 rfl ((eh7.2.1 120 (by decide)).trans ((eh6.2.1 120 (by decide)).trans ((eh5.2.1 120 (by decide)).trans ((eh4.2.1 120 (by decide)).trans ((eh3.2.1 120 (by decide)).trans ((eh2.2.1 120 (by decide)).trans ((eh1.2.1 120 (by decide)).trans (F 120 _ hl_120)))))))) rfl (xi_in (n := 6) (by decide) (by decide)) rfl (fun hh8 eh8 => ?_)
                  refine xi_aload_n (pc' := 105) (x := 115) kc_15_104 rfl rfl ?_
                  refine xi_getfield (pc' := 108) (v := .ref 121) kc_15_105 rfl rfl rfl ((eh8.2.1 115 (by decide)).trans ((eh7.2.1 115 (by decide)).trans ((eh6.2.1 115 (by decide)).trans ((eh5.2.1 115 (by decide)).trans ((eh4.2.1 115 (by decide)).trans eh3.1))))) rfl ?_
                  refine xi_iload_n (pc' := 109) (x := 0) kc_15_108 rfl rfl ?_
                  refine xi_iload_n (pc' := 110) (x := 4) kc_15_109 rfl rfl ?_
                  refine xi_iconst (pc' := 111) (v := 5) kc_15_110 rfl rfl ?_
                  refine xi_cmt (pc' := 118) kc_15_111 rfl rfl ?_
                  refine xi_aload_n (pc' := 119) (x := 115) kc_15_118 rfl rfl ?_
                  refine xi_getfield (pc' := 122) (v := .ref 121) kc_15_119 rfl rfl rfl ((eh8.2.1 115 (by decide)).trans ((eh7.2.1 115 (by decide)).trans ((eh6.2.1 115 (by decide)).trans ((eh5.2.1 115 (by decide)).trans ((eh4.2.1 115 (by decide)).trans eh3.1))))) rfl ?_
                  refine xi_iload_n (pc' := 123) (x := 0) kc_15_122 rfl rfl ?_
                  refine xi_iaload (pc' := 124) (v := 0) kc_15_123 rfl ((eh8.2.1 121 (by decide)).trans ((eh7.2.1 121 (by decide)).trans ((eh6.2.1 121 (by decide)).trans ((eh5.2.1 121 (by decide)).trans ((eh4.2.1 121 (by decide)).trans ((eh3.2.1 121 (by decide)).trans ((eh2.2.1 121 (by decide)).trans ((eh1.2.1 121 (by decide)).trans (F 121 _ hl_121))))))))) (by decide) rfl (xi_in (n := 6) (by decide) (by decide)) rfl ?_
                  refine xi_iastore (pc' := 125) (x' := [0, 0, 0, 0, 0, 0]) kc_15_124 rfl ((eh8.2.1 121 (by decide)).trans ((eh7.2.1 121 (by decide)).trans ((eh6.2.1 121 (by decide)).trans ((eh5.2.1 121 (by decide)).trans ((eh4.2.1 121 (by decide)).trans ((eh3.2.1 121 (by decide)).trans ((eh2.2.1 121 (by decide)).trans ((eh1.2.1 121 (by decide)).trans (F 121 _ hl_121))))))))) rfl (xi_in (n := 6) (by decide) (by decide)) rfl (fun hh9 eh9 => ?_)
                  refine xi_aload_n (pc' := 126) (x := 115) kc_15_125 rfl rfl ?_
                  refine xi_iconst (pc' := 127) (v := 0) kc_15_126 rfl rfl ?_
                  refine xi_putfield (pc' := 130) (fs' := [.int 0, .int 0, .ref 116, .ref 117, .ref 118, .ref 119, .ref 120, .ref 121, .ref 122, .ref 123, .ref 124, .ref 125, .ref 126, .ref 127, .ref 128, .ref 129, .int 4, .ref 130, .int 0, .ref 131, .ref 132, .ref 133, .ref 134, .int 0, .ref 135, .ref 136, .ref 137, .ref 138, .ref 139, .ref 140, .ref 141, .ref 142, .int 0, .int 0, .int 0, .ref 143, .ref 144, .ref 145, .ref 146, .ref 147, .ref 148, .int 0, .ref 149, .ref 150, .ref 151, .int 0, .ref 152, .ref 153, .ref 154, .ref 155, .ref 156, .ref 157, .ref 158, .ref 159, .int 0, .ref 160, .int 0, .ref 161, .ref 162, .ref 163, .ref 164, .int 0, .ref 165, .ref 166]) kc_15_127 rfl rfl rfl ((eh9.2.1 115 (by decide)).trans ((eh8.2.1 115 (by decide)).trans ((eh7.2.1 115 (by decide)).trans ((eh6.2.1 115 (by decide)).trans ((eh5.2.1 115 (by decide)).trans ((eh4.2.1 115 (by decide)).trans eh3.1)))))) rfl rfl rfl (Nat.le_of_ble_eq_true rfl) rfl (fun hh10 eh10 => ?_)
                  refine xi_return kc_15_130 mr_15 ?_
                  show xw J ov 99 10 (121, [(4, .int 0), (0, .ref 115), (1, .int 0), (2, .int 4), (3, .int a3)], [], hh10) _
                  refine xi_iload (pc' := 123) (x := 0) kc_10_121 rfl rfl ?_
                  refine xi_ireturn kc_10_123 mr_10 rfl ?_
                  show xw J ov 100 196 (236, [(4, .int 0), (3, .ref 167), (2, .ref 115), (1, .ref 0), (0, .ref 1000000)], [.int 0, .int 0], hh10) _
                  refine xi_cmt (pc' := 1528) kc_196_236 rfl rfl ?_
                  refine xi_iinc (pc' := 1531) (x := 0) (v := 6) (lv' := [(4, .int 6), (3, .ref 167), (2, .ref 115), (1, .ref 0), (0, .ref 1000000)]) kc_196_1528 rfl rfl rfl rfl (xm_lt ml_196 rfl) ?_
                  refine xi_goto (pc' := 23) kc_196_1531 rfl ?_
                  refine xi_iload (pc' := 25) (x := 6) kc_196_23 rfl rfl ?_
                  refine xi_aload_n (pc' := 26) (x := 1000000) kc_196_25 rfl rfl ?_
                  refine xi_arraylength (pc' := 27) (n := 6) (v := 6) kc_196_26 rfl (xl_lenO (by decide) hov0 rfl) rfl ?_
                  refine xi_bipush (pc' := 29) (v := 6) kc_196_27 rfl rfl ?_
                  refine xi_isub (pc' := 30) (v := 0) kc_196_29 rfl rfl ?_
                  refine xi_cmt (pc' := 1534) kc_196_30 rfl rfl ?_
                  refine xi_iconst (pc' := 1535) (v := 1) kc_196_1534 rfl rfl ?_
                  refine xi_ireturn kc_196_1535 mr_196 rfl ?_
                  refine ⟨rfl, ?_, ?_⟩
                  · rw [eh10.2.2.1, eh9.2.2.1, eh8.2.2.1, eh7.2.2.1, eh6.2.2.1, eh5.2.2.1, eh4.2.2.1, eh3.2.2.1, eh2.2.2.1, eh1.2.2.1]; exact hn0
                  · rw [eh10.2.2.2, eh9.2.2.2, eh8.2.2.2, eh7.2.2.2, eh6.2.2.2, eh5.2.2.2, eh4.2.2.2, eh3.2.2.2, eh2.2.2.2, eh1.2.2.2]; exact hz0
                by_cases c41 : a1.toInt = 1
                · have qa1 : a1 = 1 := xc_of (Eq.trans (by omega) (show (1 : Int) = (1 : Int32).toInt by decide))
                  subst qa1
                  refine xi_aaload (pc' := 13) (b := 14) kc_93_12 rfl ((eh1.2.1 2 (by decide)).trans (F 2 _ hl_2)) rfl (xi_in (n := 6) (by decide) (by decide)) rfl ?_
                  refine xi_iload_n (pc' := 14) (x := 4) kc_93_13 rfl rfl ?_
                  refine xi_iload_n (pc' := 15) (x := a3) kc_93_14 rfl rfl ?_
                  refine xi_virtual (mj := 94) (as := [.int 4, .int a3]) (st1 := []) (lv0 := [(0, .ref 14), (1, .int 4), (2, .int a3)]) kc_93_15 rfl rfl rfl rfl rfl ((eh1.2.1 14 (by decide)).trans (F 14 _ hl_14)) (Nat.le_of_ble_eq_true rfl) (hJ _ _ _ _ (by decide)) (xm_le ml_94 rfl) rfl ?_
                  refine xi_iload_n (pc' := 1) (x := 4) kc_94_0 rfl rfl ?_
                  refine xi_iff (pc' := 4) kc_94_1 rfl rfl ?_
                  refine xi_iload_n (pc' := 5) (x := 4) kc_94_4 rfl rfl ?_
                  refine xi_iconst (pc' := 6) (v := 5) kc_94_5 rfl rfl ?_
                  refine xi_cmt (pc' := 11) kc_94_6 rfl rfl ?_
                  refine xi_aload_n (pc' := 12) (x := 14) kc_94_11 rfl rfl ?_
                  refine xi_getfield (pc' := 15) (v := .ref 15) kc_94_12 rfl rfl rfl ((eh1.2.1 14 (by decide)).trans (F 14 _ hl_14)) rfl ?_
                  refine xi_iload_n (pc' := 16) (x := 4) kc_94_15 rfl rfl ?_
                  refine xi_iaload (pc' := 17) (v := 0) kc_94_16 rfl ((eh1.2.1 15 (by decide)).trans (F 15 _ hl_15)) (by decide) rfl (xi_in (n := 5) (by decide) (by decide)) rfl ?_
                  refine xi_istore_n (pc' := 18) (lv' := [(3, .int 0), (0, .ref 14), (1, .int 4), (2, .int a3)]) kc_94_17 rfl rfl (xm_lt ml_94 rfl) ?_
                  refine xi_aload_n (pc' := 19) (x := 14) kc_94_18 rfl rfl ?_
                  refine xi_getfield (pc' := 22) (v := .ref 15) kc_94_19 rfl rfl rfl ((eh1.2.1 14 (by decide)).trans (F 14 _ hl_14)) rfl ?_
                  refine xi_iload_n (pc' := 23) (x := 4) kc_94_22 rfl rfl ?_
                  refine xi_iload_n (pc' := 24) (x := a3) kc_94_23 rfl rfl ?_
                  refine xi_iastore (pc' := 25) (x' := [40, 18, 10, 0, a3]) kc_94_24 rfl ((eh1.2.1 15 (by decide)).trans (F 15 _ hl_15)) rfl (xi_in (n := 5) (by decide) (by decide)) rfl (fun hh2 eh2 => ?_)
                  refine xi_iload_n (pc' := 26) (x := 0) kc_94_25 rfl rfl ?_
                  refine xi_ireturn kc_94_26 mr_94 rfl ?_
                  show xw J ov 98 93 (18, [(0, .ref 1), (1, .int 1), (2, .int 4), (3, .int a3)], [.int 0], hh2) _
                  refine xi_goto (pc' := 22) kc_93_18 rfl ?_
                  refine xi_ireturn kc_93_22 mr_93 rfl ?_
                  show xw J ov 99 89 (107, [(0, .ref 0), (1, .int 1), (2, .int 4), (3, .int a3)], [.int 0], hh2) _
                  refine xi_ireturn kc_89_107 mr_89 rfl ?_
                  show xw J ov 100 196 (214, [(4, .int 0), (3, .ref 167), (2, .ref 115), (1, .ref 0), (0, .ref 1000000)], [.int 0], hh2) _
                  refine xi_aload_n (pc' := 215) (x := 115) kc_196_214 rfl rfl ?_
                  refine xi_aload_n (pc' := 216) (x := 1000000) kc_196_215 rfl rfl ?_
                  refine xi_iload (pc' := 218) (x := 0) kc_196_216 rfl rfl ?_
                  refine xi_iconst (pc' := 219) (v := 1) kc_196_218 rfl rfl ?_
                  refine xi_iadd (pc' := 220) (v := 1) kc_196_219 rfl rfl ?_
                  refine xi_ialoadO (pc' := 221) (v := 1) kc_196_220 rfl (by decide) hov0 (xi_in (n := 6) (by decide) (by decide)) rfl ?_
                  refine xi_aload_n (pc' := 222) (x := 1000000) kc_196_221 rfl rfl ?_
                  refine xi_iload (pc' := 224) (x := 0) kc_196_222 rfl rfl ?_
                  refine xi_iconst (pc' := 225) (v := 2) kc_196_224 rfl rfl ?_
                  refine xi_iadd (pc' := 226) (v := 2) kc_196_225 rfl rfl ?_
                  refine xi_ialoadO (pc' := 227) (v := 4) kc_196_226 rfl (by decide) hov0 (xi_in (n := 6) (by decide) (by decide)) rfl ?_
                  refine xi_aload_n (pc' := 228) (x := 1000000) kc_196_227 rfl rfl ?_
                  refine xi_iload (pc' := 230) (x := 0) kc_196_228 rfl rfl ?_
                  refine xi_iconst (pc' := 231) (v := 3) kc_196_230 rfl rfl ?_
                  refine xi_iadd (pc' := 232) (v := 3) kc_196_231 rfl rfl ?_
                  refine xi_ialoadO (pc' := 233) (v := a3) kc_196_232 rfl (by decide) hov0 (xi_in (n := 6) (by decide) (by decide)) rfl ?_
                  refine xi_virtual (mj := 10) (as := [.int 1, .int 4, .int a3]) (st1 := [.int 0]) (lv0 := [(0, .ref 115), (1, .int 1), (2, .int 4), (3, .int a3)]) kc_196_233 rfl rfl rfl rfl rfl ((eh2.2.1 115 (by decide)).trans ((eh1.2.1 115 (by decide)).trans (F 115 _ hl_115))) (Nat.le_of_ble_eq_true rfl) (hJ _ _ _ _ (by decide)) (xm_le ml_10 rfl) rfl ?_
                  refine xi_aload_n (pc' := 1) (x := 115) kc_10_0 rfl rfl ?_
                  refine xi_iconst (pc' := 2) (v := 0) kc_10_1 rfl rfl ?_
                  refine xi_putfield (pc' := 5) (fs' := [.int 0, .int 0, .ref 116, .ref 117, .ref 118, .ref 119, .ref 120, .ref 121, .ref 122, .ref 123, .ref 124, .ref 125, .ref 126, .ref 127, .ref 128, .ref 129, .int 4, .ref 130, .int 0, .ref 131, .ref 132, .ref 133, .ref 134, .int 0, .ref 135, .ref 136, .ref 137, .ref 138, .ref 139, .ref 140, .ref 141, .ref 142, .int 0, .int 0, .int 0, .ref 143, .ref 144, .ref 145, .ref 146, .ref 147, .ref 148, .int 0, .ref 149, .ref 150, .ref 151, .int 0, .ref 152, .ref 153, .ref 154, .ref 155, .ref 156, .ref 157, .ref 158, .ref 159, .int 0, .ref 160, .int 0, .ref 161, .ref 162, .ref 163, .ref 164, .int 0, .ref 165, .ref 166]) kc_10_2 rfl rfl rfl ((eh2.2.1 115 (by decide)).trans ((eh1.2.1 115 (by decide)).trans (F 115 _ hl_115))) rfl rfl rfl (Nat.le_of_ble_eq_true rfl) rfl (fun hh3 eh3 => ?_)
                  refine xi_iload_n (pc' := 6) (x := 1) kc_10_5 rfl rfl ?_
                  refine xi_static (mj := 11) (as := [.int 1]) (st1 := []) (lv0 := [(0, .int 1)]) kc_10_6 rfl rfl (Nat.le_of_ble_eq_true rfl) rfl rfl (Nat.le_of_ble_eq_true rfl) (hJ _ _ _ _ (by decide)) (xm_le ml_11 rfl) rfl ?_
                  refine xi_iload_n (pc' := 1) (x := 1) kc_11_0 rfl rfl ?_
                  refine xi_iconst (pc' := 2) (v := 0) kc_11_1 rfl rfl ?_
                  refine xi_iconst (pc' := 3) (v := 5) kc_11_2 rfl rfl ?_
                  refine xi_static (mj := 12) (as := [.int 1, .int 0, .int 5]) (st1 := []) (lv0 := [(0, .int 1), (1, .int 0), (2, .int 5)]) kc_11_3 rfl rfl (Nat.le_of_ble_eq_true rfl) rfl rfl (Nat.le_of_ble_eq_true rfl) (hJ _ _ _ _ (by decide)) (xm_le ml_12 rfl) rfl ?_
                  refine xi_iload_n (pc' := 1) (x := 1) kc_12_0 rfl rfl ?_
                  refine xi_iload_n (pc' := 2) (x := 0) kc_12_1 rfl rfl ?_
                  refine xi_cmf (pc' := 5) kc_12_2 rfl rfl ?_
                  refine xi_iload_n (pc' := 6) (x := 1) kc_12_5 rfl rfl ?_
                  refine xi_iload_n (pc' := 7) (x := 5) kc_12_6 rfl rfl ?_
                  refine xi_cmf (pc' := 10) kc_12_7 rfl rfl ?_
                  refine xi_iconst (pc' := 11) (v := 1) kc_12_10 rfl rfl ?_
                  refine xi_goto (pc' := 15) kc_12_11 rfl ?_
                  refine xi_ireturn kc_12_15 mr_12 rfl ?_
                  show xw J ov 98 11 (6, [(0, .int 1)], [.int 1], hh3) _
                  refine xi_ireturn kc_11_6 mr_11 rfl ?_
                  show xw J ov 99 10 (9, [(0, .ref 115), (1, .int 1), (2, .int 4), (3, .int a3)], [.int 1], hh3) _
                  refine xi_ift (pc' := 18) kc_10_9 rfl rfl ?_
                  refine xi_iload_n (pc' := 19) (x := 4) kc_10_18 rfl rfl ?_
                  refine xi_iconst (pc' := 20) (v := 0) kc_10_19 rfl rfl ?_
                  refine xi_iconst (pc' := 21) (v := 5) kc_10_20 rfl rfl ?_
                  refine xi_static (mj := 12) (as := [.int 4, .int 0, .int 5]) (st1 := []) (lv0 := [(0, .int 4), (1, .int 0), (2, .int 5)]) kc_10_21 rfl rfl (Nat.le_of_ble_eq_true rfl) rfl rfl (Nat.le_of_ble_eq_true rfl) (hJ _ _ _ _ (by decide)) (xm_le ml_12 rfl) rfl ?_
                  refine xi_iload_n (pc' := 1) (x := 4) kc_12_0 rfl rfl ?_
                  refine xi_iload_n (pc' := 2) (x := 0) kc_12_1 rfl rfl ?_
                  refine xi_cmf (pc' := 5) kc_12_2 rfl rfl ?_
                  refine xi_iload_n (pc' := 6) (x := 4) kc_12_5 rfl rfl ?_
                  refine xi_iload_n (pc' := 7) (x := 5) kc_12_6 rfl rfl ?_
                  refine xi_cmf (pc' := 10) kc_12_7 rfl rfl ?_
                  refine xi_iconst (pc' := 11) (v := 1) kc_12_10 rfl rfl ?_
                  refine xi_goto (pc' := 15) kc_12_11 rfl ?_
                  refine xi_ireturn kc_12_15 mr_12 rfl ?_
                  show xw J ov 99 10 (24, [(0, .ref 115), (1, .int 1), (2, .int 4), (3, .int a3)], [.int 1], hh3) _
                  refine xi_ift (pc' := 34) kc_10_24 rfl rfl ?_
                  refine xi_iload_n (pc' := 35) (x := a3) kc_10_34 rfl rfl ?_
                  refine xi_iload_n (pc' := 36) (x := 4) kc_10_35 rfl rfl ?_
                  refine xi_ift (pc' := 44) kc_10_36 rfl rfl ?_
                  refine xi_iconst (pc' := 45) (v := 0) kc_10_44 rfl rfl ?_
                  refine xi_cmt (pc' := 55) kc_10_45 rfl (xc_ge_t (X := a3.toInt) (Y := 0) rfl (by decide) (by omega)) ?_
                  refine xi_iload_n (pc' := 56) (x := a3) kc_10_55 rfl rfl ?_
                  refine xi_iload_n (pc' := 57) (x := 4) kc_10_56 rfl rfl ?_
                  refine xi_ift (pc' := 65) kc_10_57 rfl rfl ?_
                  refine xi_iload_n (pc' := 66) (x := 4) kc_10_65 rfl rfl ?_
                  refine xi_iconst (pc' := 67) (v := 1) kc_10_66 rfl rfl ?_
                  refine xi_cmt (pc' := 75) kc_10_67 rfl rfl ?_
                  refine xi_iload_n (pc' := 76) (x := 4) kc_10_75 rfl rfl ?_
                  refine xi_iconst (pc' := 77) (v := 4) kc_10_76 rfl rfl ?_
                  refine xi_cmt (pc' := 85) kc_10_77 rfl rfl ?_
                  refine xi_iload_n (pc' := 86) (x := 4) kc_10_85 rfl rfl ?_
                  refine xi_iconst (pc' := 87) (v := 4) kc_10_86 rfl rfl ?_
                  refine xi_cmf (pc' := 90) kc_10_87 rfl rfl ?_
                  refine xi_iconst (pc' := 91) (v := 1) kc_10_90 rfl rfl ?_
                  refine xi_goto (pc' := 96) kc_10_91 rfl ?_
                  refine xi_cmt (pc' := 106) kc_10_96 rfl (xc_le_t (X := a3.toInt) (Y := 1) rfl (by decide) (by omega)) ?_
                  refine xi_aload_n (pc' := 107) (x := 115) kc_10_106 rfl rfl ?_
                  refine xi_iload_n (pc' := 108) (x := 1) kc_10_107 rfl rfl ?_
                  refine xi_iload_n (pc' := 109) (x := 4) kc_10_108 rfl rfl ?_
                  refine xi_virtual (mj := 14) (as := [.int 1, .int 4]) (st1 := []) (lv0 := [(0, .ref 115), (1, .int 1), (2, .int 4)]) kc_10_109 rfl rfl rfl rfl rfl eh3.1 (Nat.le_of_ble_eq_true rfl) (hJ _ _ _ _ (by decide)) (xm_le ml_14 rfl) rfl ?_
                  refine xi_iload_n (pc' := 1) (x := 4) kc_14_0 rfl rfl ?_
                  refine xi_tsi (pc' := 64) (z := 4) kc_14_1 (rfl) rfl (by decide) ?_
                  refine xi_aload_n (pc' := 65) (x := 115) kc_14_64 rfl rfl ?_
                  refine xi_getfield (pc' := 68) (v := .ref 120) kc_14_65 rfl rfl rfl eh3.1 rfl ?_
                  refine xi_iload_n (pc' := 69) (x := 1) kc_14_68 rfl rfl ?_
                  refine xi_iaload (pc' := 70) (v := 0) kc_14_69 rfl ((eh3.2.1 120 (by decide)).trans ((eh2.2.1 120 (by decide)).trans ((eh1.2.1 120 (by decide)).trans (F 120 _ hl_120)))) (by decide) rfl (xi_in (n := 6) (by decide) (by decide)) rfl ?_
                  refine xi_ireturn kc_14_70 mr_14 rfl ?_
                  show xw J ov 99 10 (112, [(0, .ref 115), (1, .int 1), (2, .int 4), (3, .int a3)], [.int 0], hh3) _
                  refine xi_istore (pc' := 114) (lv' := [(4, .int 0), (0, .ref 115), (1, .int 1), (2, .int 4), (3, .int a3)]) kc_10_112 rfl rfl (xm_lt ml_10 rfl) ?_
                  refine xi_aload_n (pc' := 115) (x := 115) kc_10_114 rfl rfl ?_
                  refine xi_iload_n (pc' := 116) (x := 1) kc_10_115 rfl rfl ?_
                  refine xi_iload_n (pc' := 117) (x := 4) kc_10_116 rfl rfl ?_
                  refine xi_iload_n (pc' := 118) (x := a3) kc_10_117 rfl rfl ?_
                  refine xi_virtual (mj := 15) (as := [.int 1, .int 4, .int a3]) (st1 := []) (lv0 := [(0, .ref 115), (1, .int 1), (2, .int 4), (3, .int a3)]) kc_10_118 rfl rfl rfl rfl rfl eh3.1 (Nat.le_of_ble_eq_true rfl) (hJ _ _ _ _ (by decide)) (xm_le ml_15 rfl) rfl ?_
                  refine xi_aload_n (pc' := 1) (x := 115) kc_15_0 rfl rfl ?_
                  refine xi_getfield (pc' := 4) (v := .ref 116) kc_15_1 rfl rfl rfl eh3.1 rfl ?_
                  refine xi_iload_n (pc' := 5) (x := 1) kc_15_4 rfl rfl ?_
                  refine xi_iload_n (pc' := 6) (x := 4) kc_15_5 rfl rfl ?_
                  refine xi_ift (pc' := 13) kc_15_6 rfl rfl ?_
                  refine xi_aload_n (pc' := 14) (x := 115) kc_15_13 rfl rfl ?_
                  refine xi_getfield (pc' := 17) (v := .ref 116) kc_15_14 rfl rfl rfl eh3.1 rfl ?_
                  refine xi_iload_n (pc' := 18) (x := 1) kc_15_17 rfl rfl ?_
                  refine xi_iaload (pc' := 19) (v := 40) kc_15_18 rfl ((eh3.2.1 116 (by decide)).trans ((eh2.2.1 116 (by decide)).trans ((eh1.2.1 116 (by decide)).trans (F 116 _ hl_116)))) (by decide) rfl (xi_in (n := 6) (by decide) (by decide)) rfl ?_
                  refine xi_iastore (pc' := 20) (x' := [40, 40, 40, 40, 40, 40]) kc_15_19 rfl ((eh3.2.1 116 (by decide)).trans ((eh2.2.1 116 (by decide)).trans ((eh1.2.1 116 (by decide)).trans (F 116 _ hl_116)))) rfl (xi_in (n := 6) (by decide) (by decide)) rfl (fun hh4 eh4 => ?_)
                  refine xi_aload_n (pc' := 21) (x := 115) kc_15_20 rfl rfl ?_
                  refine xi_getfield (pc' := 24) (v := .ref 117) kc_15_21 rfl rfl rfl ((eh4.2.1 115 (by decide)).trans eh3.1) rfl ?_
                  refine xi_iload_n (pc' := 25) (x := 1) kc_15_24 rfl rfl ?_
                  refine xi_iload_n (pc' := 26) (x := 4) kc_15_25 rfl rfl ?_
                  refine xi_iconst (pc' := 27) (v := 1) kc_15_26 rfl rfl ?_
                  refine xi_cmt (pc' := 34) kc_15_27 rfl rfl ?_
                  refine xi_aload_n (pc' := 35) (x := 115) kc_15_34 rfl rfl ?_
                  refine xi_getfield (pc' := 38) (v := .ref 117) kc_15_35 rfl rfl rfl ((eh4.2.1 115 (by decide)).trans eh3.1) rfl ?_
                  refine xi_iload_n (pc' := 39) (x := 1) kc_15_38 rfl rfl ?_
                  refine xi_iaload (pc' := 40) (v := 18) kc_15_39 rfl ((eh4.2.1 117 (by decide)).trans ((eh3.2.1 117 (by decide)).trans ((eh2.2.1 117 (by decide)).trans ((eh1.2.1 117 (by decide)).trans (F 117 _ hl_117))))) (by decide) rfl (xi_in (n := 6) (by decide) (by decide)) rfl ?_
                  refine xi_iastore (pc' := 41) (x' := [18, 18, 18, 18, 18, 18]) kc_15_40 rfl ((eh4.2.1 117 (by decide)).trans ((eh3.2.1 117 (by decide)).trans ((eh2.2.1 117 (by decide)).trans ((eh1.2.1 117 (by decide)).trans (F 117 _ hl_117))))) rfl (xi_in (n := 6) (by decide) (by decide)) rfl (fun hh5 eh5 => ?_)
                  refine xi_aload_n (pc' := 42) (x := 115) kc_15_41 rfl rfl ?_
                  refine xi_getfield (pc' := 45) (v := .ref 118) kc_15_42 rfl rfl rfl ((eh5.2.1 115 (by decide)).trans ((eh4.2.1 115 (by decide)).trans eh3.1)) rfl ?_
                  refine xi_iload_n (pc' := 46) (x := 1) kc_15_45 rfl rfl ?_
                  refine xi_iload_n (pc' := 47) (x := 4) kc_15_46 rfl rfl ?_
                  refine xi_iconst (pc' := 48) (v := 2) kc_15_47 rfl rfl ?_
                  refine xi_cmt (pc' := 55) kc_15_48 rfl rfl ?_
                  refine xi_aload_n (pc' := 56) (x := 115) kc_15_55 rfl rfl ?_
                  refine xi_getfield (pc' := 59) (v := .ref 118) kc_15_56 rfl rfl rfl ((eh5.2.1 115 (by decide)).trans ((eh4.2.1 115 (by decide)).trans eh3.1)) rfl ?_
                  refine xi_iload_n (pc' := 60) (x := 1) kc_15_59 rfl rfl ?_
                  refine xi_iaload (pc' := 61) (v := 10) kc_15_60 rfl ((eh5.2.1 118 (by decide)).trans ((eh4.2.1 118 (by decide)).trans ((eh3.2.1 118 (by decide)).trans ((eh2.2.1 118 (by decide)).trans ((eh1.2.1 118 (by decide)).trans (F 118 _ hl_118)))))) (by decide) rfl (xi_in (n := 6) (by decide) (by decide)) rfl ?_
                  refine xi_iastore (pc' := 62) (x' := [10, 10, 10, 10, 10, 10]) kc_15_61 rfl ((eh5.2.1 118 (by decide)).trans ((eh4.2.1 118 (by decide)).trans ((eh3.2.1 118 (by decide)).trans ((eh2.2.1 118 (by decide)).trans ((eh1.2.1 118 (by decide)).trans (F 118 _ hl_118)))))) rfl (xi_in (n := 6) (by decide) (by decide)) rfl (fun hh6 eh6 => ?_)
                  refine xi_aload_n (pc' := 63) (x := 115) kc_15_62 rfl rfl ?_
                  refine xi_getfield (pc' := 66) (v := .ref 119) kc_15_63 rfl rfl rfl ((eh6.2.1 115 (by decide)).trans ((eh5.2.1 115 (by decide)).trans ((eh4.2.1 115 (by decide)).trans eh3.1))) rfl ?_
                  refine xi_iload_n (pc' := 67) (x := 1) kc_15_66 rfl rfl ?_
                  refine xi_iload_n (pc' := 68) (x := 4) kc_15_67 rfl rfl ?_
                  refine xi_iconst (pc' := 69) (v := 3) kc_15_68 rfl rfl ?_
                  refine xi_cmt (pc' := 76) kc_15_69 rfl rfl ?_
                  refine xi_aload_n (pc' := 77) (x := 115) kc_15_76 rfl rfl ?_
                  refine xi_getfield (pc' := 80) (v := .ref 119) kc_15_77 rfl rfl rfl ((eh6.2.1 115 (by decide)).trans ((eh5.2.1 115 (by decide)).trans ((eh4.2.1 115 (by decide)).trans eh3.1))) rfl ?_
                  refine xi_iload_n (pc' := 81) (x := 1) kc_15_80 rfl rfl ?_
                  refine xi_iaload (pc' := 82) (v := 0) kc_15_81 rfl ((eh6.2.1 119 (by decide)).trans ((eh5.2.1 119 (by decide)).trans ((eh4.2.1 119 (by decide)).trans ((eh3.2.1 119 (by decide)).trans ((eh2.2.1 119 (by decide)).trans ((eh1.2.1 119 (by decide)).trans (F 119 _ hl_119))))))) (by decide) rfl (xi_in (n := 6) (by decide) (by decide)) rfl ?_
                  refine xi_iastore (pc' := 83) (x' := [0, 0, 0, 0, 0, 0]) kc_15_82 rfl ((eh6.2.1 119 (by decide)).trans ((eh5.2.1 119 (by decide)).trans ((eh4.2.1 119 (by decide)).trans ((eh3.2.1 119 (by decide)).trans ((eh2.2.1 119 (by decide)).trans ((eh1.2.1 119 (by decide)).trans (F 119 _ hl_119))))))) rfl (xi_in (n := 6) (by decide) (by decide)) rfl (fun hh7 eh7 => ?_)
                  refine xi_aload_n (pc' := 84) (x := 115) kc_15_83 rfl rfl ?_
                  refine xi_getfield (pc' := 87) (v := .ref 120) kc_15_84 rfl rfl rfl ((eh7.2.1 115 (by decide)).trans ((eh6.2.1 115 (by decide)).trans ((eh5.2.1 115 (by decide)).trans ((eh4.2.1 115 (by decide)).trans eh3.1)))) rfl ?_
                  refine xi_iload_n (pc' := 88) (x := 1) kc_15_87 rfl rfl ?_
                  refine xi_iload_n (pc' := 89) (x := 4) kc_15_88 rfl rfl ?_
                  refine xi_iconst (pc' := 90) (v := 4) kc_15_89 rfl rfl ?_
                  refine xi_cmf (pc' := 93) kc_15_90 rfl rfl ?_
                  refine xi_iload_n (pc' := 94) (x := a3) kc_15_93 rfl rfl ?_
                  refine xi_goto (pc' := 103) kc_15_94 rfl ?_
                  refine xi_iastore (pc' := 104) (x' := [0, a3, 0, 0, 0, 0]) kc_15_103 rfl ((eh7.2.1 120 (by decide)).trans ((eh6.2.1 120 (by decide)).trans ((eh5.2.1 120 (by decide)).trans ((eh4.2.1 120 (by decide)).trans ((eh3.2.1 120 (by decide)).trans ((eh2.2.1 120 (by decide)).trans ((eh1.2.1 120 (by decide)).trans (F 120 _ hl_120)))))))) rfl (xi_in (n := 6) (by decide) (by decide)) rfl (fun hh8 eh8 => ?_)
                  refine xi_aload_n (pc' := 105) (x := 115) kc_15_104 rfl rfl ?_
                  refine xi_getfield (pc' := 108) (v := .ref 121) kc_15_105 rfl rfl rfl ((eh8.2.1 115 (by decide)).trans ((eh7.2.1 115 (by decide)).trans ((eh6.2.1 115 (by decide)).trans ((eh5.2.1 115 (by decide)).trans ((eh4.2.1 115 (by decide)).trans eh3.1))))) rfl ?_
                  refine xi_iload_n (pc' := 109) (x := 1) kc_15_108 rfl rfl ?_
                  refine xi_iload_n (pc' := 110) (x := 4) kc_15_109 rfl rfl ?_
                  refine xi_iconst (pc' := 111) (v := 5) kc_15_110 rfl rfl ?_
                  refine xi_cmt (pc' := 118) kc_15_111 rfl rfl ?_
                  refine xi_aload_n (pc' := 119) (x := 115) kc_15_118 rfl rfl ?_
                  refine xi_getfield (pc' := 122) (v := .ref 121) kc_15_119 rfl rfl rfl ((eh8.2.1 115 (by decide)).trans ((eh7.2.1 115 (by decide)).trans ((eh6.2.1 115 (by decide)).trans ((eh5.2.1 115 (by decide)).trans ((eh4.2.1 115 (by decide)).trans eh3.1))))) rfl ?_
                  refine xi_iload_n (pc' := 123) (x := 1) kc_15_122 rfl rfl ?_
                  refine xi_iaload (pc' := 124) (v := 0) kc_15_123 rfl ((eh8.2.1 121 (by decide)).trans ((eh7.2.1 121 (by decide)).trans ((eh6.2.1 121 (by decide)).trans ((eh5.2.1 121 (by decide)).trans ((eh4.2.1 121 (by decide)).trans ((eh3.2.1 121 (by decide)).trans ((eh2.2.1 121 (by decide)).trans ((eh1.2.1 121 (by decide)).trans (F 121 _ hl_121))))))))) (by decide) rfl (xi_in (n := 6) (by decide) (by decide)) rfl ?_
                  refine xi_iastore (pc' := 125) (x' := [0, 0, 0, 0, 0, 0]) kc_15_124 rfl ((eh8.2.1 121 (by decide)).trans ((eh7.2.1 121 (by decide)).trans ((eh6.2.1 121 (by decide)).trans ((eh5.2.1 121 (by decide)).trans ((eh4.2.1 121 (by decide)).trans ((eh3.2.1 121 (by decide)).trans ((eh2.2.1 121 (by decide)).trans ((eh1.2.1 121 (by decide)).trans (F 121 _ hl_121))))))))) rfl (xi_in (n := 6) (by decide) (by decide)) rfl (fun hh9 eh9 => ?_)
                  refine xi_aload_n (pc' := 126) (x := 115) kc_15_125 rfl rfl ?_
                  refine xi_iconst (pc' := 127) (v := 0) kc_15_126 rfl rfl ?_
                  refine xi_putfield (pc' := 130) (fs' := [.int 0, .int 0, .ref 116, .ref 117, .ref 118, .ref 119, .ref 120, .ref 121, .ref 122, .ref 123, .ref 124, .ref 125, .ref 126, .ref 127, .ref 128, .ref 129, .int 4, .ref 130, .int 0, .ref 131, .ref 132, .ref 133, .ref 134, .int 0, .ref 135, .ref 136, .ref 137, .ref 138, .ref 139, .ref 140, .ref 141, .ref 142, .int 0, .int 0, .int 0, .ref 143, .ref 144, .ref 145, .ref 146, .ref 147, .ref 148, .int 0, .ref 149, .ref 150, .ref 151, .int 0, .ref 152, .ref 153, .ref 154, .ref 155, .ref 156, .ref 157, .ref 158, .ref 159, .int 0, .ref 160, .int 0, .ref 161, .ref 162, .ref 163, .ref 164, .int 0, .ref 165, .ref 166]) kc_15_127 rfl rfl rfl ((eh9.2.1 115 (by decide)).trans ((eh8.2.1 115 (by decide)).trans ((eh7.2.1 115 (by decide)).trans ((eh6.2.1 115 (by decide)).trans ((eh5.2.1 115 (by decide)).trans ((eh4.2.1 115 (by decide)).trans eh3.1)))))) rfl rfl rfl (Nat.le_of_ble_eq_true rfl) rfl (fun hh10 eh10 => ?_)
                  refine xi_return kc_15_130 mr_15 ?_
                  show xw J ov 99 10 (121, [(4, .int 0), (0, .ref 115), (1, .int 1), (2, .int 4), (3, .int a3)], [], hh10) _
                  refine xi_iload (pc' := 123) (x := 0) kc_10_121 rfl rfl ?_
                  refine xi_ireturn kc_10_123 mr_10 rfl ?_
                  show xw J ov 100 196 (236, [(4, .int 0), (3, .ref 167), (2, .ref 115), (1, .ref 0), (0, .ref 1000000)], [.int 0, .int 0], hh10) _
                  refine xi_cmt (pc' := 1528) kc_196_236 rfl rfl ?_
                  refine xi_iinc (pc' := 1531) (x := 0) (v := 6) (lv' := [(4, .int 6), (3, .ref 167), (2, .ref 115), (1, .ref 0), (0, .ref 1000000)]) kc_196_1528 rfl rfl rfl rfl (xm_lt ml_196 rfl) ?_
                  refine xi_goto (pc' := 23) kc_196_1531 rfl ?_
                  refine xi_iload (pc' := 25) (x := 6) kc_196_23 rfl rfl ?_
                  refine xi_aload_n (pc' := 26) (x := 1000000) kc_196_25 rfl rfl ?_
                  refine xi_arraylength (pc' := 27) (n := 6) (v := 6) kc_196_26 rfl (xl_lenO (by decide) hov0 rfl) rfl ?_
                  refine xi_bipush (pc' := 29) (v := 6) kc_196_27 rfl rfl ?_
                  refine xi_isub (pc' := 30) (v := 0) kc_196_29 rfl rfl ?_
                  refine xi_cmt (pc' := 1534) kc_196_30 rfl rfl ?_
                  refine xi_iconst (pc' := 1535) (v := 1) kc_196_1534 rfl rfl ?_
                  refine xi_ireturn kc_196_1535 mr_196 rfl ?_
                  refine ⟨rfl, ?_, ?_⟩
                  · rw [eh10.2.2.1, eh9.2.2.1, eh8.2.2.1, eh7.2.2.1, eh6.2.2.1, eh5.2.2.1, eh4.2.2.1, eh3.2.2.1, eh2.2.2.1, eh1.2.2.1]; exact hn0
                  · rw [eh10.2.2.2, eh9.2.2.2, eh8.2.2.2, eh7.2.2.2, eh6.2.2.2, eh5.2.2.2, eh4.2.2.2, eh3.2.2.2, eh2.2.2.2, eh1.2.2.2]; exact hz0
                by_cases c42 : a1.toInt = 2
                · have qa1 : a1 = 2 := xc_of (Eq.trans (by omega) (show (2 : Int) = (2 : Int32).toInt by decide))
                  subst qa1
                  refine xi_aaload (pc' := 13) (b := 17) kc_93_12 rfl ((eh1.2.1 2 (by decide)).trans (F 2 _ hl_2)) rfl (xi_in (n := 6) (by decide) (by decide)) rfl ?_
                  refine xi_iload_n (pc' := 14) (x := 4) kc_93_13 rfl rfl ?_
                  refine xi_iload_n (pc' := 15) (x := a3) kc_93_14 rfl rfl ?_
                  refine xi_virtual (mj := 94) (as := [.int 4, .int a3]) (st1 := []) (lv0 := [(0, .ref 17), (1, .int 4), (2, .int a3)]) kc_93_15 rfl rfl rfl rfl rfl ((eh1.2.1 17 (by decide)).trans (F 17 _ hl_17)) (Nat.le_of_ble_eq_true rfl) (hJ _ _ _ _ (by decide)) (xm_le ml_94 rfl) rfl ?_
                  refine xi_iload_n (pc' := 1) (x := 4) kc_94_0 rfl rfl ?_
                  refine xi_iff (pc' := 4) kc_94_1 rfl rfl ?_
                  refine xi_iload_n (pc' := 5) (x := 4) kc_94_4 rfl rfl ?_
                  refine xi_iconst (pc' := 6) (v := 5) kc_94_5 rfl rfl ?_
                  refine xi_cmt (pc' := 11) kc_94_6 rfl rfl ?_
                  refine xi_aload_n (pc' := 12) (x := 17) kc_94_11 rfl rfl ?_
                  refine xi_getfield (pc' := 15) (v := .ref 18) kc_94_12 rfl rfl rfl ((eh1.2.1 17 (by decide)).trans (F 17 _ hl_17)) rfl ?_
                  refine xi_iload_n (pc' := 16) (x := 4) kc_94_15 rfl rfl ?_
                  refine xi_iaload (pc' := 17) (v := 0) kc_94_16 rfl ((eh1.2.1 18 (by decide)).trans (F 18 _ hl_18)) (by decide) rfl (xi_in (n := 5) (by decide) (by decide)) rfl ?_
                  refine xi_istore_n (pc' := 18) (lv' := [(3, .int 0), (0, .ref 17), (1, .int 4), (2, .int a3)]) kc_94_17 rfl rfl (xm_lt ml_94 rfl) ?_
                  refine xi_aload_n (pc' := 19) (x := 17) kc_94_18 rfl rfl ?_
                  refine xi_getfield (pc' := 22) (v := .ref 18) kc_94_19 rfl rfl rfl ((eh1.2.1 17 (by decide)).trans (F 17 _ hl_17)) rfl ?_
                  refine xi_iload_n (pc' := 23) (x := 4) kc_94_22 rfl rfl ?_
                  refine xi_iload_n (pc' := 24) (x := a3) kc_94_23 rfl rfl ?_
                  refine xi_iastore (pc' := 25) (x' := [40, 18, 10, 0, a3]) kc_94_24 rfl ((eh1.2.1 18 (by decide)).trans (F 18 _ hl_18)) rfl (xi_in (n := 5) (by decide) (by decide)) rfl (fun hh2 eh2 => ?_)
                  refine xi_iload_n (pc' := 26) (x := 0) kc_94_25 rfl rfl ?_
                  refine xi_ireturn kc_94_26 mr_94 rfl ?_
                  show xw J ov 98 93 (18, [(0, .ref 1), (1, .int 2), (2, .int 4), (3, .int a3)], [.int 0], hh2) _
                  refine xi_goto (pc' := 22) kc_93_18 rfl ?_
                  refine xi_ireturn kc_93_22 mr_93 rfl ?_
                  show xw J ov 99 89 (107, [(0, .ref 0), (1, .int 2), (2, .int 4), (3, .int a3)], [.int 0], hh2) _
                  refine xi_ireturn kc_89_107 mr_89 rfl ?_
                  show xw J ov 100 196 (214, [(4, .int 0), (3, .ref 167), (2, .ref 115), (1, .ref 0), (0, .ref 1000000)], [.int 0], hh2) _
                  refine xi_aload_n (pc' := 215) (x := 115) kc_196_214 rfl rfl ?_
                  refine xi_aload_n (pc' := 216) (x := 1000000) kc_196_215 rfl rfl ?_
                  refine xi_iload (pc' := 218) (x := 0) kc_196_216 rfl rfl ?_
                  refine xi_iconst (pc' := 219) (v := 1) kc_196_218 rfl rfl ?_
                  refine xi_iadd (pc' := 220) (v := 1) kc_196_219 rfl rfl ?_
                  refine xi_ialoadO (pc' := 221) (v := 2) kc_196_220 rfl (by decide) hov0 (xi_in (n := 6) (by decide) (by decide)) rfl ?_
                  refine xi_aload_n (pc' := 222) (x := 1000000) kc_196_221 rfl rfl ?_
                  refine xi_iload (pc' := 224) (x := 0) kc_196_222 rfl rfl ?_
                  refine xi_iconst (pc' := 225) (v := 2) kc_196_224 rfl rfl ?_
                  refine xi_iadd (pc' := 226) (v := 2) kc_196_225 rfl rfl ?_
                  refine xi_ialoadO (pc' := 227) (v := 4) kc_196_226 rfl (by decide) hov0 (xi_in (n := 6) (by decide) (by decide)) rfl ?_
                  refine xi_aload_n (pc' := 228) (x := 1000000) kc_196_227 rfl rfl ?_
                  refine xi_iload (pc' := 230) (x := 0) kc_196_228 rfl rfl ?_
                  refine xi_iconst (pc' := 231) (v := 3) kc_196_230 rfl rfl ?_
                  refine xi_iadd (pc' := 232) (v := 3) kc_196_231 rfl rfl ?_
                  refine xi_ialoadO (pc' := 233) (v := a3) kc_196_232 rfl (by decide) hov0 (xi_in (n := 6) (by decide) (by decide)) rfl ?_
                  refine xi_virtual (mj := 10) (as := [.int 2, .int 4, .int a3]) (st1 := [.int 0]) (lv0 := [(0, .ref 115), (1, .int 2), (2, .int 4), (3, .int a3)]) kc_196_233 rfl rfl rfl rfl rfl ((eh2.2.1 115 (by decide)).trans ((eh1.2.1 115 (by decide)).trans (F 115 _ hl_115))) (Nat.le_of_ble_eq_true rfl) (hJ _ _ _ _ (by decide)) (xm_le ml_10 rfl) rfl ?_
                  refine xi_aload_n (pc' := 1) (x := 115) kc_10_0 rfl rfl ?_
                  refine xi_iconst (pc' := 2) (v := 0) kc_10_1 rfl rfl ?_
                  refine xi_putfield (pc' := 5) (fs' := [.int 0, .int 0, .ref 116, .ref 117, .ref 118, .ref 119, .ref 120, .ref 121, .ref 122, .ref 123, .ref 124, .ref 125, .ref 126, .ref 127, .ref 128, .ref 129, .int 4, .ref 130, .int 0, .ref 131, .ref 132, .ref 133, .ref 134, .int 0, .ref 135, .ref 136, .ref 137, .ref 138, .ref 139, .ref 140, .ref 141, .ref 142, .int 0, .int 0, .int 0, .ref 143, .ref 144, .ref 145, .ref 146, .ref 147, .ref 148, .int 0, .ref 149, .ref 150, .ref 151, .int 0, .ref 152, .ref 153, .ref 154, .ref 155, .ref 156, .ref 157, .ref 158, .ref 159, .int 0, .ref 160, .int 0, .ref 161, .ref 162, .ref 163, .ref 164, .int 0, .ref 165, .ref 166]) kc_10_2 rfl rfl rfl ((eh2.2.1 115 (by decide)).trans ((eh1.2.1 115 (by decide)).trans (F 115 _ hl_115))) rfl rfl rfl (Nat.le_of_ble_eq_true rfl) rfl (fun hh3 eh3 => ?_)
                  refine xi_iload_n (pc' := 6) (x := 2) kc_10_5 rfl rfl ?_
                  refine xi_static (mj := 11) (as := [.int 2]) (st1 := []) (lv0 := [(0, .int 2)]) kc_10_6 rfl rfl (Nat.le_of_ble_eq_true rfl) rfl rfl (Nat.le_of_ble_eq_true rfl) (hJ _ _ _ _ (by decide)) (xm_le ml_11 rfl) rfl ?_
                  refine xi_iload_n (pc' := 1) (x := 2) kc_11_0 rfl rfl ?_
                  refine xi_iconst (pc' := 2) (v := 0) kc_11_1 rfl rfl ?_
                  refine xi_iconst (pc' := 3) (v := 5) kc_11_2 rfl rfl ?_
                  refine xi_static (mj := 12) (as := [.int 2, .int 0, .int 5]) (st1 := []) (lv0 := [(0, .int 2), (1, .int 0), (2, .int 5)]) kc_11_3 rfl rfl (Nat.le_of_ble_eq_true rfl) rfl rfl (Nat.le_of_ble_eq_true rfl) (hJ _ _ _ _ (by decide)) (xm_le ml_12 rfl) rfl ?_
                  refine xi_iload_n (pc' := 1) (x := 2) kc_12_0 rfl rfl ?_
                  refine xi_iload_n (pc' := 2) (x := 0) kc_12_1 rfl rfl ?_
                  refine xi_cmf (pc' := 5) kc_12_2 rfl rfl ?_
                  refine xi_iload_n (pc' := 6) (x := 2) kc_12_5 rfl rfl ?_
                  refine xi_iload_n (pc' := 7) (x := 5) kc_12_6 rfl rfl ?_
                  refine xi_cmf (pc' := 10) kc_12_7 rfl rfl ?_
                  refine xi_iconst (pc' := 11) (v := 1) kc_12_10 rfl rfl ?_
                  refine xi_goto (pc' := 15) kc_12_11 rfl ?_
                  refine xi_ireturn kc_12_15 mr_12 rfl ?_
                  show xw J ov 98 11 (6, [(0, .int 2)], [.int 1], hh3) _
                  refine xi_ireturn kc_11_6 mr_11 rfl ?_
                  show xw J ov 99 10 (9, [(0, .ref 115), (1, .int 2), (2, .int 4), (3, .int a3)], [.int 1], hh3) _
                  refine xi_ift (pc' := 18) kc_10_9 rfl rfl ?_
                  refine xi_iload_n (pc' := 19) (x := 4) kc_10_18 rfl rfl ?_
                  refine xi_iconst (pc' := 20) (v := 0) kc_10_19 rfl rfl ?_
                  refine xi_iconst (pc' := 21) (v := 5) kc_10_20 rfl rfl ?_
                  refine xi_static (mj := 12) (as := [.int 4, .int 0, .int 5]) (st1 := []) (lv0 := [(0, .int 4), (1, .int 0), (2, .int 5)]) kc_10_21 rfl rfl (Nat.le_of_ble_eq_true rfl) rfl rfl (Nat.le_of_ble_eq_true rfl) (hJ _ _ _ _ (by decide)) (xm_le ml_12 rfl) rfl ?_
                  refine xi_iload_n (pc' := 1) (x := 4) kc_12_0 rfl rfl ?_
                  refine xi_iload_n (pc' := 2) (x := 0) kc_12_1 rfl rfl ?_
                  refine xi_cmf (pc' := 5) kc_12_2 rfl rfl ?_
                  refine xi_iload_n (pc' := 6) (x := 4) kc_12_5 rfl rfl ?_
                  refine xi_iload_n (pc' := 7) (x := 5) kc_12_6 rfl rfl ?_
                  refine xi_cmf (pc' := 10) kc_12_7 rfl rfl ?_
                  refine xi_iconst (pc' := 11) (v := 1) kc_12_10 rfl rfl ?_
                  refine xi_goto (pc' := 15) kc_12_11 rfl ?_
                  refine xi_ireturn kc_12_15 mr_12 rfl ?_
                  show xw J ov 99 10 (24, [(0, .ref 115), (1, .int 2), (2, .int 4), (3, .int a3)], [.int 1], hh3) _
                  refine xi_ift (pc' := 34) kc_10_24 rfl rfl ?_
                  refine xi_iload_n (pc' := 35) (x := a3) kc_10_34 rfl rfl ?_
                  refine xi_iload_n (pc' := 36) (x := 4) kc_10_35 rfl rfl ?_
                  refine xi_ift (pc' := 44) kc_10_36 rfl rfl ?_
                  refine xi_iconst (pc' := 45) (v := 0) kc_10_44 rfl rfl ?_
                  refine xi_cmt (pc' := 55) kc_10_45 rfl (xc_ge_t (X := a3.toInt) (Y := 0) rfl (by decide) (by omega)) ?_
                  refine xi_iload_n (pc' := 56) (x := a3) kc_10_55 rfl rfl ?_
                  refine xi_iload_n (pc' := 57) (x := 4) kc_10_56 rfl rfl ?_
                  refine xi_ift (pc' := 65) kc_10_57 rfl rfl ?_
                  refine xi_iload_n (pc' := 66) (x := 4) kc_10_65 rfl rfl ?_
                  refine xi_iconst (pc' := 67) (v := 1) kc_10_66 rfl rfl ?_
                  refine xi_cmt (pc' := 75) kc_10_67 rfl rfl ?_
                  refine xi_iload_n (pc' := 76) (x := 4) kc_10_75 rfl rfl ?_
                  refine xi_iconst (pc' := 77) (v := 4) kc_10_76 rfl rfl ?_
                  refine xi_cmt (pc' := 85) kc_10_77 rfl rfl ?_
                  refine xi_iload_n (pc' := 86) (x := 4) kc_10_85 rfl rfl ?_
                  refine xi_iconst (pc' := 87) (v := 4) kc_10_86 rfl rfl ?_
                  refine xi_cmf (pc' := 90) kc_10_87 rfl rfl ?_
                  refine xi_iconst (pc' := 91) (v := 1) kc_10_90 rfl rfl ?_
                  refine xi_goto (pc' := 96) kc_10_91 rfl ?_
                  refine xi_cmt (pc' := 106) kc_10_96 rfl (xc_le_t (X := a3.toInt) (Y := 1) rfl (by decide) (by omega)) ?_
                  refine xi_aload_n (pc' := 107) (x := 115) kc_10_106 rfl rfl ?_
                  refine xi_iload_n (pc' := 108) (x := 2) kc_10_107 rfl rfl ?_
                  refine xi_iload_n (pc' := 109) (x := 4) kc_10_108 rfl rfl ?_
                  refine xi_virtual (mj := 14) (as := [.int 2, .int 4]) (st1 := []) (lv0 := [(0, .ref 115), (1, .int 2), (2, .int 4)]) kc_10_109 rfl rfl rfl rfl rfl eh3.1 (Nat.le_of_ble_eq_true rfl) (hJ _ _ _ _ (by decide)) (xm_le ml_14 rfl) rfl ?_
                  refine xi_iload_n (pc' := 1) (x := 4) kc_14_0 rfl rfl ?_
                  refine xi_tsi (pc' := 64) (z := 4) kc_14_1 (rfl) rfl (by decide) ?_
                  refine xi_aload_n (pc' := 65) (x := 115) kc_14_64 rfl rfl ?_
                  refine xi_getfield (pc' := 68) (v := .ref 120) kc_14_65 rfl rfl rfl eh3.1 rfl ?_
                  refine xi_iload_n (pc' := 69) (x := 2) kc_14_68 rfl rfl ?_
                  refine xi_iaload (pc' := 70) (v := 0) kc_14_69 rfl ((eh3.2.1 120 (by decide)).trans ((eh2.2.1 120 (by decide)).trans ((eh1.2.1 120 (by decide)).trans (F 120 _ hl_120)))) (by decide) rfl (xi_in (n := 6) (by decide) (by decide)) rfl ?_
                  refine xi_ireturn kc_14_70 mr_14 rfl ?_
                  show xw J ov 99 10 (112, [(0, .ref 115), (1, .int 2), (2, .int 4), (3, .int a3)], [.int 0], hh3) _
                  refine xi_istore (pc' := 114) (lv' := [(4, .int 0), (0, .ref 115), (1, .int 2), (2, .int 4), (3, .int a3)]) kc_10_112 rfl rfl (xm_lt ml_10 rfl) ?_
                  refine xi_aload_n (pc' := 115) (x := 115) kc_10_114 rfl rfl ?_
                  refine xi_iload_n (pc' := 116) (x := 2) kc_10_115 rfl rfl ?_
                  refine xi_iload_n (pc' := 117) (x := 4) kc_10_116 rfl rfl ?_
                  refine xi_iload_n (pc' := 118) (x := a3) kc_10_117 rfl rfl ?_
                  refine xi_virtual (mj := 15) (as := [.int 2, .int 4, .int a3]) (st1 := []) (lv0 := [(0, .ref 115), (1, .int 2), (2, .int 4), (3, .int a3)]) kc_10_118 rfl rfl rfl rfl rfl eh3.1 (Nat.le_of_ble_eq_true rfl) (hJ _ _ _ _ (by decide)) (xm_le ml_15 rfl) rfl ?_
                  refine xi_aload_n (pc' := 1) (x := 115) kc_15_0 rfl rfl ?_
                  refine xi_getfield (pc' := 4) (v := .ref 116) kc_15_1 rfl rfl rfl eh3.1 rfl ?_
                  refine xi_iload_n (pc' := 5) (x := 2) kc_15_4 rfl rfl ?_
                  refine xi_iload_n (pc' := 6) (x := 4) kc_15_5 rfl rfl ?_
                  refine xi_ift (pc' := 13) kc_15_6 rfl rfl ?_
                  refine xi_aload_n (pc' := 14) (x := 115) kc_15_13 rfl rfl ?_
                  refine xi_getfield (pc' := 17) (v := .ref 116) kc_15_14 rfl rfl rfl eh3.1 rfl ?_
                  refine xi_iload_n (pc' := 18) (x := 2) kc_15_17 rfl rfl ?_
                  refine xi_iaload (pc' := 19) (v := 40) kc_15_18 rfl ((eh3.2.1 116 (by decide)).trans ((eh2.2.1 116 (by decide)).trans ((eh1.2.1 116 (by decide)).trans (F 116 _ hl_116)))) (by decide) rfl (xi_in (n := 6) (by decide) (by decide)) rfl ?_
                  refine xi_iastore (pc' := 20) (x' := [40, 40, 40, 40, 40, 40]) kc_15_19 rfl ((eh3.2.1 116 (by decide)).trans ((eh2.2.1 116 (by decide)).trans ((eh1.2.1 116 (by decide)).trans (F 116 _ hl_116)))) rfl (xi_in (n := 6) (by decide) (by decide)) rfl (fun hh4 eh4 => ?_)
                  refine xi_aload_n (pc' := 21) (x := 115) kc_15_20 rfl rfl ?_
                  refine xi_getfield (pc' := 24) (v := .ref 117) kc_15_21 rfl rfl rfl ((eh4.2.1 115 (by decide)).trans eh3.1) rfl ?_
                  refine xi_iload_n (pc' := 25) (x := 2) kc_15_24 rfl rfl ?_
                  refine xi_iload_n (pc' := 26) (x := 4) kc_15_25 rfl rfl ?_
                  refine xi_iconst (pc' := 27) (v := 1) kc_15_26 rfl rfl ?_
                  refine xi_cmt (pc' := 34) kc_15_27 rfl rfl ?_
                  refine xi_aload_n (pc' := 35) (x := 115) kc_15_34 rfl rfl ?_
                  refine xi_getfield (pc' := 38) (v := .ref 117) kc_15_35 rfl rfl rfl ((eh4.2.1 115 (by decide)).trans eh3.1) rfl ?_
                  refine xi_iload_n (pc' := 39) (x := 2) kc_15_38 rfl rfl ?_
                  refine xi_iaload (pc' := 40) (v := 18) kc_15_39 rfl ((eh4.2.1 117 (by decide)).trans ((eh3.2.1 117 (by decide)).trans ((eh2.2.1 117 (by decide)).trans ((eh1.2.1 117 (by decide)).trans (F 117 _ hl_117))))) (by decide) rfl (xi_in (n := 6) (by decide) (by decide)) rfl ?_
                  refine xi_iastore (pc' := 41) (x' := [18, 18, 18, 18, 18, 18]) kc_15_40 rfl ((eh4.2.1 117 (by decide)).trans ((eh3.2.1 117 (by decide)).trans ((eh2.2.1 117 (by decide)).trans ((eh1.2.1 117 (by decide)).trans (F 117 _ hl_117))))) rfl (xi_in (n := 6) (by decide) (by decide)) rfl (fun hh5 eh5 => ?_)
                  refine xi_aload_n (pc' := 42) (x := 115) kc_15_41 rfl rfl ?_
                  refine xi_getfield (pc' := 45) (v := .ref 118) kc_15_42 rfl rfl rfl ((eh5.2.1 115 (by decide)).trans ((eh4.2.1 115 (by decide)).trans eh3.1)) rfl ?_
                  refine xi_iload_n (pc' := 46) (x := 2) kc_15_45 rfl rfl ?_
                  refine xi_iload_n (pc' := 47) (x := 4) kc_15_46 rfl rfl ?_
                  refine xi_iconst (pc' := 48) (v := 2) kc_15_47 rfl rfl ?_
                  refine xi_cmt (pc' := 55) kc_15_48 rfl rfl ?_
                  refine xi_aload_n (pc' := 56) (x := 115) kc_15_55 rfl rfl ?_
                  refine xi_getfield (pc' := 59) (v := .ref 118) kc_15_56 rfl rfl rfl ((eh5.2.1 115 (by decide)).trans ((eh4.2.1 115 (by decide)).trans eh3.1)) rfl ?_
                  refine xi_iload_n (pc' := 60) (x := 2) kc_15_59 rfl rfl ?_
                  refine xi_iaload (pc' := 61) (v := 10) kc_15_60 rfl ((eh5.2.1 118 (by decide)).trans ((eh4.2.1 118 (by decide)).trans ((eh3.2.1 118 (by decide)).trans ((eh2.2.1 118 (by decide)).trans ((eh1.2.1 118 (by decide)).trans (F 118 _ hl_118)))))) (by decide) rfl (xi_in (n := 6) (by decide) (by decide)) rfl ?_
                  refine xi_iastore (pc' := 62) (x' := [10, 10, 10, 10, 10, 10]) kc_15_61 rfl ((eh5.2.1 118 (by decide)).trans ((eh4.2.1 118 (by decide)).trans ((eh3.2.1 118 (by decide)).trans ((eh2.2.1 118 (by decide)).trans ((eh1.2.1 118 (by decide)).trans (F 118 _ hl_118)))))) rfl (xi_in (n := 6) (by decide) (by decide)) rfl (fun hh6 eh6 => ?_)
                  refine xi_aload_n (pc' := 63) (x := 115) kc_15_62 rfl rfl ?_
                  refine xi_getfield (pc' := 66) (v := .ref 119) kc_15_63 rfl rfl rfl ((eh6.2.1 115 (by decide)).trans ((eh5.2.1 115 (by decide)).trans ((eh4.2.1 115 (by decide)).trans eh3.1))) rfl ?_
                  refine xi_iload_n (pc' := 67) (x := 2) kc_15_66 rfl rfl ?_
                  refine xi_iload_n (pc' := 68) (x := 4) kc_15_67 rfl rfl ?_
                  refine xi_iconst (pc' := 69) (v := 3) kc_15_68 rfl rfl ?_
                  refine xi_cmt (pc' := 76) kc_15_69 rfl rfl ?_
                  refine xi_aload_n (pc' := 77) (x := 115) kc_15_76 rfl rfl ?_
                  refine xi_getfield (pc' := 80) (v := .ref 119) kc_15_77 rfl rfl rfl ((eh6.2.1 115 (by decide)).trans ((eh5.2.1 115 (by decide)).trans ((eh4.2.1 115 (by decide)).trans eh3.1))) rfl ?_
                  refine xi_iload_n (pc' := 81) (x := 2) kc_15_80 rfl rfl ?_
                  refine xi_iaload (pc' := 82) (v := 0) kc_15_81 rfl ((eh6.2.1 119 (by decide)).trans ((eh5.2.1 119 (by decide)).trans ((eh4.2.1 119 (by decide)).trans ((eh3.2.1 119 (by decide)).trans ((eh2.2.1 119 (by decide)).trans ((eh1.2.1 119 (by decide)).trans (F 119 _ hl_119))))))) (by decide) rfl (xi_in (n := 6) (by decide) (by decide)) rfl ?_
                  refine xi_iastore (pc' := 83) (x' := [0, 0, 0, 0, 0, 0]) kc_15_82 rfl ((eh6.2.1 119 (by decide)).trans ((eh5.2.1 119 (by decide)).trans ((eh4.2.1 119 (by decide)).trans ((eh3.2.1 119 (by decide)).trans ((eh2.2.1 119 (by decide)).trans ((eh1.2.1 119 (by decide)).trans (F 119 _ hl_119))))))) rfl (xi_in (n := 6) (by decide) (by decide)) rfl (fun hh7 eh7 => ?_)
                  refine xi_aload_n (pc' := 84) (x := 115) kc_15_83 rfl rfl ?_
                  refine xi_getfield (pc' := 87) (v := .ref 120) kc_15_84 rfl rfl rfl ((eh7.2.1 115 (by decide)).trans ((eh6.2.1 115 (by decide)).trans ((eh5.2.1 115 (by decide)).trans ((eh4.2.1 115 (by decide)).trans eh3.1)))) rfl ?_
                  refine xi_iload_n (pc' := 88) (x := 2) kc_15_87 rfl rfl ?_
                  refine xi_iload_n (pc' := 89) (x := 4) kc_15_88 rfl rfl ?_
                  refine xi_iconst (pc' := 90) (v := 4) kc_15_89 rfl rfl ?_
                  refine xi_cmf (pc' := 93) kc_15_90 rfl rfl ?_
                  refine xi_iload_n (pc' := 94) (x := a3) kc_15_93 rfl rfl ?_
                  refine xi_goto (pc' := 103) kc_15_94 rfl ?_
                  refine xi_iastore (pc' := 104) (x' := [0, 0, a3, 0, 0, 0]) kc_15_103 rfl ((eh7.2.1 120 (by decide)).trans ((eh6.2.1 120 (by decide)).trans ((eh5.2.1 120 (by decide)).trans ((eh4.2.1 120 (by decide)).trans ((eh3.2.1 120 (by decide)).trans ((eh2.2.1 120 (by decide)).trans ((eh1.2.1 120 (by decide)).trans (F 120 _ hl_120)))))))) rfl (xi_in (n := 6) (by decide) (by decide)) rfl (fun hh8 eh8 => ?_)
                  refine xi_aload_n (pc' := 105) (x := 115) kc_15_104 rfl rfl ?_
                  refine xi_getfield (pc' := 108) (v := .ref 121) kc_15_105 rfl rfl rfl ((eh8.2.1 115 (by decide)).trans ((eh7.2.1 115 (by decide)).trans ((eh6.2.1 115 (by decide)).trans ((eh5.2.1 115 (by decide)).trans ((eh4.2.1 115 (by decide)).trans eh3.1))))) rfl ?_
                  refine xi_iload_n (pc' := 109) (x := 2) kc_15_108 rfl rfl ?_
                  refine xi_iload_n (pc' := 110) (x := 4) kc_15_109 rfl rfl ?_
                  refine xi_iconst (pc' := 111) (v := 5) kc_15_110 rfl rfl ?_
                  refine xi_cmt (pc' := 118) kc_15_111 rfl rfl ?_
                  refine xi_aload_n (pc' := 119) (x := 115) kc_15_118 rfl rfl ?_
                  refine xi_getfield (pc' := 122) (v := .ref 121) kc_15_119 rfl rfl rfl ((eh8.2.1 115 (by decide)).trans ((eh7.2.1 115 (by decide)).trans ((eh6.2.1 115 (by decide)).trans ((eh5.2.1 115 (by decide)).trans ((eh4.2.1 115 (by decide)).trans eh3.1))))) rfl ?_
                  refine xi_iload_n (pc' := 123) (x := 2) kc_15_122 rfl rfl ?_
                  refine xi_iaload (pc' := 124) (v := 0) kc_15_123 rfl ((eh8.2.1 121 (by decide)).trans ((eh7.2.1 121 (by decide)).trans ((eh6.2.1 121 (by decide)).trans ((eh5.2.1 121 (by decide)).trans ((eh4.2.1 121 (by decide)).trans ((eh3.2.1 121 (by decide)).trans ((eh2.2.1 121 (by decide)).trans ((eh1.2.1 121 (by decide)).trans (F 121 _ hl_121))))))))) (by decide) rfl (xi_in (n := 6) (by decide) (by decide)) rfl ?_
                  refine xi_iastore (pc' := 125) (x' := [0, 0, 0, 0, 0, 0]) kc_15_124 rfl ((eh8.2.1 121 (by decide)).trans ((eh7.2.1 121 (by decide)).trans ((eh6.2.1 121 (by decide)).trans ((eh5.2.1 121 (by decide)).trans ((eh4.2.1 121 (by decide)).trans ((eh3.2.1 121 (by decide)).trans ((eh2.2.1 121 (by decide)).trans ((eh1.2.1 121 (by decide)).trans (F 121 _ hl_121))))))))) rfl (xi_in (n := 6) (by decide) (by decide)) rfl (fun hh9 eh9 => ?_)
                  refine xi_aload_n (pc' := 126) (x := 115) kc_15_125 rfl rfl ?_
                  refine xi_iconst (pc' := 127) (v := 0) kc_15_126 rfl rfl ?_
                  refine xi_putfield (pc' := 130) (fs' := [.int 0, .int 0, .ref 116, .ref 117, .ref 118, .ref 119, .ref 120, .ref 121, .ref 122, .ref 123, .ref 124, .ref 125, .ref 126, .ref 127, .ref 128, .ref 129, .int 4, .ref 130, .int 0, .ref 131, .ref 132, .ref 133, .ref 134, .int 0, .ref 135, .ref 136, .ref 137, .ref 138, .ref 139, .ref 140, .ref 141, .ref 142, .int 0, .int 0, .int 0, .ref 143, .ref 144, .ref 145, .ref 146, .ref 147, .ref 148, .int 0, .ref 149, .ref 150, .ref 151, .int 0, .ref 152, .ref 153, .ref 154, .ref 155, .ref 156, .ref 157, .ref 158, .ref 159, .int 0, .ref 160, .int 0, .ref 161, .ref 162, .ref 163, .ref 164, .int 0, .ref 165, .ref 166]) kc_15_127 rfl rfl rfl ((eh9.2.1 115 (by decide)).trans ((eh8.2.1 115 (by decide)).trans ((eh7.2.1 115 (by decide)).trans ((eh6.2.1 115 (by decide)).trans ((eh5.2.1 115 (by decide)).trans ((eh4.2.1 115 (by decide)).trans eh3.1)))))) rfl rfl rfl (Nat.le_of_ble_eq_true rfl) rfl (fun hh10 eh10 => ?_)
                  refine xi_return kc_15_130 mr_15 ?_
                  show xw J ov 99 10 (121, [(4, .int 0), (0, .ref 115), (1, .int 2), (2, .int 4), (3, .int a3)], [], hh10) _
                  refine xi_iload (pc' := 123) (x := 0) kc_10_121 rfl rfl ?_
                  refine xi_ireturn kc_10_123 mr_10 rfl ?_
                  show xw J ov 100 196 (236, [(4, .int 0), (3, .ref 167), (2, .ref 115), (1, .ref 0), (0, .ref 1000000)], [.int 0, .int 0], hh10) _
                  refine xi_cmt (pc' := 1528) kc_196_236 rfl rfl ?_
                  refine xi_iinc (pc' := 1531) (x := 0) (v := 6) (lv' := [(4, .int 6), (3, .ref 167), (2, .ref 115), (1, .ref 0), (0, .ref 1000000)]) kc_196_1528 rfl rfl rfl rfl (xm_lt ml_196 rfl) ?_
                  refine xi_goto (pc' := 23) kc_196_1531 rfl ?_
                  refine xi_iload (pc' := 25) (x := 6) kc_196_23 rfl rfl ?_
                  refine xi_aload_n (pc' := 26) (x := 1000000) kc_196_25 rfl rfl ?_
                  refine xi_arraylength (pc' := 27) (n := 6) (v := 6) kc_196_26 rfl (xl_lenO (by decide) hov0 rfl) rfl ?_
                  refine xi_bipush (pc' := 29) (v := 6) kc_196_27 rfl rfl ?_
                  refine xi_isub (pc' := 30) (v := 0) kc_196_29 rfl rfl ?_
                  refine xi_cmt (pc' := 1534) kc_196_30 rfl rfl ?_
                  refine xi_iconst (pc' := 1535) (v := 1) kc_196_1534 rfl rfl ?_
                  refine xi_ireturn kc_196_1535 mr_196 rfl ?_
                  refine ⟨rfl, ?_, ?_⟩
                  · rw [eh10.2.2.1, eh9.2.2.1, eh8.2.2.1, eh7.2.2.1, eh6.2.2.1, eh5.2.2.1, eh4.2.2.1, eh3.2.2.1, eh2.2.2.1, eh1.2.2.1]; exact hn0
                  · rw [eh10.2.2.2, eh9.2.2.2, eh8.2.2.2, eh7.2.2.2, eh6.2.2.2, eh5.2.2.2, eh4.2.2.2, eh3.2.2.2, eh2.2.2.2, eh1.2.2.2]; exact hz0
                by_cases c43 : a1.toInt = 3
                · have qa1 : a1 = 3 := xc_of (Eq.trans (by omega) (show (3 : Int) = (3 : Int32).toInt by decide))
                  subst qa1
                  refine xi_aaload (pc' := 13) (b := 20) kc_93_12 rfl ((eh1.2.1 2 (by decide)).trans (F 2 _ hl_2)) rfl (xi_in (n := 6) (by decide) (by decide)) rfl ?_
                  refine xi_iload_n (pc' := 14) (x := 4) kc_93_13 rfl rfl ?_
                  refine xi_iload_n (pc' := 15) (x := a3) kc_93_14 rfl rfl ?_
                  refine xi_virtual (mj := 94) (as := [.int 4, .int a3]) (st1 := []) (lv0 := [(0, .ref 20), (1, .int 4), (2, .int a3)]) kc_93_15 rfl rfl rfl rfl rfl ((eh1.2.1 20 (by decide)).trans (F 20 _ hl_20)) (Nat.le_of_ble_eq_true rfl) (hJ _ _ _ _ (by decide)) (xm_le ml_94 rfl) rfl ?_
                  refine xi_iload_n (pc' := 1) (x := 4) kc_94_0 rfl rfl ?_
                  refine xi_iff (pc' := 4) kc_94_1 rfl rfl ?_
                  refine xi_iload_n (pc' := 5) (x := 4) kc_94_4 rfl rfl ?_
                  refine xi_iconst (pc' := 6) (v := 5) kc_94_5 rfl rfl ?_
                  refine xi_cmt (pc' := 11) kc_94_6 rfl rfl ?_
                  refine xi_aload_n (pc' := 12) (x := 20) kc_94_11 rfl rfl ?_
                  refine xi_getfield (pc' := 15) (v := .ref 21) kc_94_12 rfl rfl rfl ((eh1.2.1 20 (by decide)).trans (F 20 _ hl_20)) rfl ?_
                  refine xi_iload_n (pc' := 16) (x := 4) kc_94_15 rfl rfl ?_
                  refine xi_iaload (pc' := 17) (v := 0) kc_94_16 rfl ((eh1.2.1 21 (by decide)).trans (F 21 _ hl_21)) (by decide) rfl (xi_in (n := 5) (by decide) (by decide)) rfl ?_
                  refine xi_istore_n (pc' := 18) (lv' := [(3, .int 0), (0, .ref 20), (1, .int 4), (2, .int a3)]) kc_94_17 rfl rfl (xm_lt ml_94 rfl) ?_
                  refine xi_aload_n (pc' := 19) (x := 20) kc_94_18 rfl rfl ?_
                  refine xi_getfield (pc' := 22) (v := .ref 21) kc_94_19 rfl rfl rfl ((eh1.2.1 20 (by decide)).trans (F 20 _ hl_20)) rfl ?_
                  refine xi_iload_n (pc' := 23) (x := 4) kc_94_22 rfl rfl ?_
                  refine xi_iload_n (pc' := 24) (x := a3) kc_94_23 rfl rfl ?_
                  refine xi_iastore (pc' := 25) (x' := [40, 18, 10, 0, a3]) kc_94_24 rfl ((eh1.2.1 21 (by decide)).trans (F 21 _ hl_21)) rfl (xi_in (n := 5) (by decide) (by decide)) rfl (fun hh2 eh2 => ?_)
                  refine xi_iload_n (pc' := 26) (x := 0) kc_94_25 rfl rfl ?_
                  refine xi_ireturn kc_94_26 mr_94 rfl ?_
                  show xw J ov 98 93 (18, [(0, .ref 1), (1, .int 3), (2, .int 4), (3, .int a3)], [.int 0], hh2) _
                  refine xi_goto (pc' := 22) kc_93_18 rfl ?_
                  refine xi_ireturn kc_93_22 mr_93 rfl ?_
                  show xw J ov 99 89 (107, [(0, .ref 0), (1, .int 3), (2, .int 4), (3, .int a3)], [.int 0], hh2) _
                  refine xi_ireturn kc_89_107 mr_89 rfl ?_
                  show xw J ov 100 196 (214, [(4, .int 0), (3, .ref 167), (2, .ref 115), (1, .ref 0), (0, .ref 1000000)], [.int 0], hh2) _
                  refine xi_aload_n (pc' := 215) (x := 115) kc_196_214 rfl rfl ?_
                  refine xi_aload_n (pc' := 216) (x := 1000000) kc_196_215 rfl rfl ?_
                  refine xi_iload (pc' := 218) (x := 0) kc_196_216 rfl rfl ?_
                  refine xi_iconst (pc' := 219) (v := 1) kc_196_218 rfl rfl ?_
                  refine xi_iadd (pc' := 220) (v := 1) kc_196_219 rfl rfl ?_
                  refine xi_ialoadO (pc' := 221) (v := 3) kc_196_220 rfl (by decide) hov0 (xi_in (n := 6) (by decide) (by decide)) rfl ?_
                  refine xi_aload_n (pc' := 222) (x := 1000000) kc_196_221 rfl rfl ?_
                  refine xi_iload (pc' := 224) (x := 0) kc_196_222 rfl rfl ?_
                  refine xi_iconst (pc' := 225) (v := 2) kc_196_224 rfl rfl ?_
                  refine xi_iadd (pc' := 226) (v := 2) kc_196_225 rfl rfl ?_
                  refine xi_ialoadO (pc' := 227) (v := 4) kc_196_226 rfl (by decide) hov0 (xi_in (n := 6) (by decide) (by decide)) rfl ?_
                  refine xi_aload_n (pc' := 228) (x := 1000000) kc_196_227 rfl rfl ?_
                  refine xi_iload (pc' := 230) (x := 0) kc_196_228 rfl rfl ?_
                  refine xi_iconst (pc' := 231) (v := 3) kc_196_230 rfl rfl ?_
                  refine xi_iadd (pc' := 232) (v := 3) kc_196_231 rfl rfl ?_
                  refine xi_ialoadO (pc' := 233) (v := a3) kc_196_232 rfl (by decide) hov0 (xi_in (n := 6) (by decide) (by decide)) rfl ?_
                  refine xi_virtual (mj := 10) (as := [.int 3, .int 4, .int a3]) (st1 := [.int 0]) (lv0 := [(0, .ref 115), (1, .int 3), (2, .int 4), (3, .int a3)]) kc_196_233 rfl rfl rfl rfl rfl ((eh2.2.1 115 (by decide)).trans ((eh1.2.1 115 (by decide)).trans (F 115 _ hl_115))) (Nat.le_of_ble_eq_true rfl) (hJ _ _ _ _ (by decide)) (xm_le ml_10 rfl) rfl ?_
                  refine xi_aload_n (pc' := 1) (x := 115) kc_10_0 rfl rfl ?_
                  refine xi_iconst (pc' := 2) (v := 0) kc_10_1 rfl rfl ?_
                  refine xi_putfield (pc' := 5) (fs' := [.int 0, .int 0, .ref 116, .ref 117, .ref 118, .ref 119, .ref 120, .ref 121, .ref 122, .ref 123, .ref 124, .ref 125, .ref 126, .ref 127, .ref 128, .ref 129, .int 4, .ref 130, .int 0, .ref 131, .ref 132, .ref 133, .ref 134, .int 0, .ref 135, .ref 136, .ref 137, .ref 138, .ref 139, .ref 140, .ref 141, .ref 142, .int 0, .int 0, .int 0, .ref 143, .ref 144, .ref 145, .ref 146, .ref 147, .ref 148, .int 0, .ref 149, .ref 150, .ref 151, .int 0, .ref 152, .ref 153, .ref 154, .ref 155, .ref 156, .ref 157, .ref 158, .ref 159, .int 0, .ref 160, .int 0, .ref 161, .ref 162, .ref 163, .ref 164, .int 0, .ref 165, .ref 166]) kc_10_2 rfl rfl rfl ((eh2.2.1 115 (by decide)).trans ((eh1.2.1 115 (by decide)).trans (F 115 _ hl_115))) rfl rfl rfl (Nat.le_of_ble_eq_true rfl) rfl (fun hh3 eh3 => ?_)
                  refine xi_iload_n (pc' := 6) (x := 3) kc_10_5 rfl rfl ?_
                  refine xi_static (mj := 11) (as := [.int 3]) (st1 := []) (lv0 := [(0, .int 3)]) kc_10_6 rfl rfl (Nat.le_of_ble_eq_true rfl) rfl rfl (Nat.le_of_ble_eq_true rfl) (hJ _ _ _ _ (by decide)) (xm_le ml_11 rfl) rfl ?_
                  refine xi_iload_n (pc' := 1) (x := 3) kc_11_0 rfl rfl ?_
                  refine xi_iconst (pc' := 2) (v := 0) kc_11_1 rfl rfl ?_
                  refine xi_iconst (pc' := 3) (v := 5) kc_11_2 rfl rfl ?_
                  refine xi_static (mj := 12) (as := [.int 3, .int 0, .int 5]) (st1 := []) (lv0 := [(0, .int 3), (1, .int 0), (2, .int 5)]) kc_11_3 rfl rfl (Nat.le_of_ble_eq_true rfl) rfl rfl (Nat.le_of_ble_eq_true rfl) (hJ _ _ _ _ (by decide)) (xm_le ml_12 rfl) rfl ?_
                  refine xi_iload_n (pc' := 1) (x := 3) kc_12_0 rfl rfl ?_
                  refine xi_iload_n (pc' := 2) (x := 0) kc_12_1 rfl rfl ?_
                  refine xi_cmf (pc' := 5) kc_12_2 rfl rfl ?_
                  refine xi_iload_n (pc' := 6) (x := 3) kc_12_5 rfl rfl ?_
                  refine xi_iload_n (pc' := 7) (x := 5) kc_12_6 rfl rfl ?_
                  refine xi_cmf (pc' := 10) kc_12_7 rfl rfl ?_
                  refine xi_iconst (pc' := 11) (v := 1) kc_12_10 rfl rfl ?_
                  refine xi_goto (pc' := 15) kc_12_11 rfl ?_
                  refine xi_ireturn kc_12_15 mr_12 rfl ?_
                  show xw J ov 98 11 (6, [(0, .int 3)], [.int 1], hh3) _
                  refine xi_ireturn kc_11_6 mr_11 rfl ?_
                  show xw J ov 99 10 (9, [(0, .ref 115), (1, .int 3), (2, .int 4), (3, .int a3)], [.int 1], hh3) _
                  refine xi_ift (pc' := 18) kc_10_9 rfl rfl ?_
                  refine xi_iload_n (pc' := 19) (x := 4) kc_10_18 rfl rfl ?_
                  refine xi_iconst (pc' := 20) (v := 0) kc_10_19 rfl rfl ?_
                  refine xi_iconst (pc' := 21) (v := 5) kc_10_20 rfl rfl ?_
                  refine xi_static (mj := 12) (as := [.int 4, .int 0, .int 5]) (st1 := []) (lv0 := [(0, .int 4), (1, .int 0), (2, .int 5)]) kc_10_21 rfl rfl (Nat.le_of_ble_eq_true rfl) rfl rfl (Nat.le_of_ble_eq_true rfl) (hJ _ _ _ _ (by decide)) (xm_le ml_12 rfl) rfl ?_
                  refine xi_iload_n (pc' := 1) (x := 4) kc_12_0 rfl rfl ?_
                  refine xi_iload_n (pc' := 2) (x := 0) kc_12_1 rfl rfl ?_
                  refine xi_cmf (pc' := 5) kc_12_2 rfl rfl ?_
                  refine xi_iload_n (pc' := 6) (x := 4) kc_12_5 rfl rfl ?_
                  refine xi_iload_n (pc' := 7) (x := 5) kc_12_6 rfl rfl ?_
                  refine xi_cmf (pc' := 10) kc_12_7 rfl rfl ?_
                  refine xi_iconst (pc' := 11) (v := 1) kc_12_10 rfl rfl ?_
                  refine xi_goto (pc' := 15) kc_12_11 rfl ?_
                  refine xi_ireturn kc_12_15 mr_12 rfl ?_
                  show xw J ov 99 10 (24, [(0, .ref 115), (1, .int 3), (2, .int 4), (3, .int a3)], [.int 1], hh3) _
                  refine xi_ift (pc' := 34) kc_10_24 rfl rfl ?_
                  refine xi_iload_n (pc' := 35) (x := a3) kc_10_34 rfl rfl ?_
                  refine xi_iload_n (pc' := 36) (x := 4) kc_10_35 rfl rfl ?_
                  refine xi_ift (pc' := 44) kc_10_36 rfl rfl ?_
                  refine xi_iconst (pc' := 45) (v := 0) kc_10_44 rfl rfl ?_
                  refine xi_cmt (pc' := 55) kc_10_45 rfl (xc_ge_t (X := a3.toInt) (Y := 0) rfl (by decide) (by omega)) ?_
                  refine xi_iload_n (pc' := 56) (x := a3) kc_10_55 rfl rfl ?_
                  refine xi_iload_n (pc' := 57) (x := 4) kc_10_56 rfl rfl ?_
                  refine xi_ift (pc' := 65) kc_10_57 rfl rfl ?_
                  refine xi_iload_n (pc' := 66) (x := 4) kc_10_65 rfl rfl ?_
                  refine xi_iconst (pc' := 67) (v := 1) kc_10_66 rfl rfl ?_
                  refine xi_cmt (pc' := 75) kc_10_67 rfl rfl ?_
                  refine xi_iload_n (pc' := 76) (x := 4) kc_10_75 rfl rfl ?_
                  refine xi_iconst (pc' := 77) (v := 4) kc_10_76 rfl rfl ?_
                  refine xi_cmt (pc' := 85) kc_10_77 rfl rfl ?_
                  refine xi_iload_n (pc' := 86) (x := 4) kc_10_85 rfl rfl ?_
                  refine xi_iconst (pc' := 87) (v := 4) kc_10_86 rfl rfl ?_
                  refine xi_cmf (pc' := 90) kc_10_87 rfl rfl ?_
                  refine xi_iconst (pc' := 91) (v := 1) kc_10_90 rfl rfl ?_
                  refine xi_goto (pc' := 96) kc_10_91 rfl ?_
                  refine xi_cmt (pc' := 106) kc_10_96 rfl (xc_le_t (X := a3.toInt) (Y := 1) rfl (by decide) (by omega)) ?_
                  refine xi_aload_n (pc' := 107) (x := 115) kc_10_106 rfl rfl ?_
                  refine xi_iload_n (pc' := 108) (x := 3) kc_10_107 rfl rfl ?_
                  refine xi_iload_n (pc' := 109) (x := 4) kc_10_108 rfl rfl ?_
                  refine xi_virtual (mj := 14) (as := [.int 3, .int 4]) (st1 := []) (lv0 := [(0, .ref 115), (1, .int 3), (2, .int 4)]) kc_10_109 rfl rfl rfl rfl rfl eh3.1 (Nat.le_of_ble_eq_true rfl) (hJ _ _ _ _ (by decide)) (xm_le ml_14 rfl) rfl ?_
                  refine xi_iload_n (pc' := 1) (x := 4) kc_14_0 rfl rfl ?_
                  refine xi_tsi (pc' := 64) (z := 4) kc_14_1 (rfl) rfl (by decide) ?_
                  refine xi_aload_n (pc' := 65) (x := 115) kc_14_64 rfl rfl ?_
                  refine xi_getfield (pc' := 68) (v := .ref 120) kc_14_65 rfl rfl rfl eh3.1 rfl ?_
                  refine xi_iload_n (pc' := 69) (x := 3) kc_14_68 rfl rfl ?_
                  refine xi_iaload (pc' := 70) (v := 0) kc_14_69 rfl ((eh3.2.1 120 (by decide)).trans ((eh2.2.1 120 (by decide)).trans ((eh1.2.1 120 (by decide)).trans (F 120 _ hl_120)))) (by decide) rfl (xi_in (n := 6) (by decide) (by decide)) rfl ?_
                  refine xi_ireturn kc_14_70 mr_14 rfl ?_
                  show xw J ov 99 10 (112, [(0, .ref 115), (1, .int 3), (2, .int 4), (3, .int a3)], [.int 0], hh3) _
                  refine xi_istore (pc' := 114) (lv' := [(4, .int 0), (0, .ref 115), (1, .int 3), (2, .int 4), (3, .int a3)]) kc_10_112 rfl rfl (xm_lt ml_10 rfl) ?_
                  refine xi_aload_n (pc' := 115) (x := 115) kc_10_114 rfl rfl ?_
                  refine xi_iload_n (pc' := 116) (x := 3) kc_10_115 rfl rfl ?_
                  refine xi_iload_n (pc' := 117) (x := 4) kc_10_116 rfl rfl ?_
                  refine xi_iload_n (pc' := 118) (x := a3) kc_10_117 rfl rfl ?_
                  refine xi_virtual (mj := 15) (as := [.int 3, .int 4, .int a3]) (st1 := []) (lv0 := [(0, .ref 115), (1, .int 3), (2, .int 4), (3, .int a3)]) kc_10_118 rfl rfl rfl rfl rfl eh3.1 (Nat.le_of_ble_eq_true rfl) (hJ _ _ _ _ (by decide)) (xm_le ml_15 rfl) rfl ?_
                  refine xi_aload_n (pc' := 1) (x := 115) kc_15_0 rfl rfl ?_
                  refine xi_getfield (pc' := 4) (v := .ref 116) kc_15_1 rfl rfl rfl eh3.1 rfl ?_
                  refine xi_iload_n (pc' := 5) (x := 3) kc_15_4 rfl rfl ?_
                  refine xi_iload_n (pc' := 6) (x := 4) kc_15_5 rfl rfl ?_
                  refine xi_ift (pc' := 13) kc_15_6 rfl rfl ?_
                  refine xi_aload_n (pc' := 14) (x := 115) kc_15_13 rfl rfl ?_
                  refine xi_getfield (pc' := 17) (v := .ref 116) kc_15_14 rfl rfl rfl eh3.1 rfl ?_
                  refine xi_iload_n (pc' := 18) (x := 3) kc_15_17 rfl rfl ?_
                  refine xi_iaload (pc' := 19) (v := 40) kc_15_18 rfl ((eh3.2.1 116 (by decide)).trans ((eh2.2.1 116 (by decide)).trans ((eh1.2.1 116 (by decide)).trans (F 116 _ hl_116)))) (by decide) rfl (xi_in (n := 6) (by decide) (by decide)) rfl ?_
                  refine xi_iastore (pc' := 20) (x' := [40, 40, 40, 40, 40, 40]) kc_15_19 rfl ((eh3.2.1 116 (by decide)).trans ((eh2.2.1 116 (by decide)).trans ((eh1.2.1 116 (by decide)).trans (F 116 _ hl_116)))) rfl (xi_in (n := 6) (by decide) (by decide)) rfl (fun hh4 eh4 => ?_)
                  refine xi_aload_n (pc' := 21) (x := 115) kc_15_20 rfl rfl ?_
                  refine xi_getfield (pc' := 24) (v := .ref 117) kc_15_21 rfl rfl rfl ((eh4.2.1 115 (by decide)).trans eh3.1) rfl ?_
                  refine xi_iload_n (pc' := 25) (x := 3) kc_15_24 rfl rfl ?_
                  refine xi_iload_n (pc' := 26) (x := 4) kc_15_25 rfl rfl ?_
                  refine xi_iconst (pc' := 27) (v := 1) kc_15_26 rfl rfl ?_
                  refine xi_cmt (pc' := 34) kc_15_27 rfl rfl ?_
                  refine xi_aload_n (pc' := 35) (x := 115) kc_15_34 rfl rfl ?_
                  refine xi_getfield (pc' := 38) (v := .ref 117) kc_15_35 rfl rfl rfl ((eh4.2.1 115 (by decide)).trans eh3.1) rfl ?_
                  refine xi_iload_n (pc' := 39) (x := 3) kc_15_38 rfl rfl ?_
                  refine xi_iaload (pc' := 40) (v := 18) kc_15_39 rfl ((eh4.2.1 117 (by decide)).trans ((eh3.2.1 117 (by decide)).trans ((eh2.2.1 117 (by decide)).trans ((eh1.2.1 117 (by decide)).trans (F 117 _ hl_117))))) (by decide) rfl (xi_in (n := 6) (by decide) (by decide)) rfl ?_
                  refine xi_iastore (pc' := 41) (x' := [18, 18, 18, 18, 18, 18]) kc_15_40 rfl ((eh4.2.1 117 (by decide)).trans ((eh3.2.1 117 (by decide)).trans ((eh2.2.1 117 (by decide)).trans ((eh1.2.1 117 (by decide)).trans (F 117 _ hl_117))))) rfl (xi_in (n := 6) (by decide) (by decide)) rfl (fun hh5 eh5 => ?_)
                  refine xi_aload_n (pc' := 42) (x := 115) kc_15_41 rfl rfl ?_
                  refine xi_getfield (pc' := 45) (v := .ref 118) kc_15_42 rfl rfl rfl ((eh5.2.1 115 (by decide)).trans ((eh4.2.1 115 (by decide)).trans eh3.1)) rfl ?_
                  refine xi_iload_n (pc' := 46) (x := 3) kc_15_45 rfl rfl ?_
                  refine xi_iload_n (pc' := 47) (x := 4) kc_15_46 rfl rfl ?_
                  refine xi_iconst (pc' := 48) (v := 2) kc_15_47 rfl rfl ?_
                  refine xi_cmt (pc' := 55) kc_15_48 rfl rfl ?_
                  refine xi_aload_n (pc' := 56) (x := 115) kc_15_55 rfl rfl ?_
                  refine xi_getfield (pc' := 59) (v := .ref 118) kc_15_56 rfl rfl rfl ((eh5.2.1 115 (by decide)).trans ((eh4.2.1 115 (by decide)).trans eh3.1)) rfl ?_
                  refine xi_iload_n (pc' := 60) (x := 3) kc_15_59 rfl rfl ?_
                  refine xi_iaload (pc' := 61) (v := 10) kc_15_60 rfl ((eh5.2.1 118 (by decide)).trans ((eh4.2.1 118 (by decide)).trans ((eh3.2.1 118 (by decide)).trans ((eh2.2.1 118 (by decide)).trans ((eh1.2.1 118 (by decide)).trans (F 118 _ hl_118)))))) (by decide) rfl (xi_in (n := 6) (by decide) (by decide)) rfl ?_
                  refine xi_iastore (pc' := 62) (x' := [10, 10, 10, 10, 10, 10]) kc_15_61 rfl ((eh5.2.1 118 (by decide)).trans ((eh4.2.1 118 (by decide)).trans ((eh3.2.1 118 (by decide)).trans ((eh2.2.1 118 (by decide)).trans ((eh1.2.1 118 (by decide)).trans (F 118 _ hl_118)))))) rfl (xi_in (n := 6) (by decide) (by decide)) rfl (fun hh6 eh6 => ?_)
                  refine xi_aload_n (pc' := 63) (x := 115) kc_15_62 rfl rfl ?_
                  refine xi_getfield (pc' := 66) (v := .ref 119) kc_15_63 rfl rfl rfl ((eh6.2.1 115 (by decide)).trans ((eh5.2.1 115 (by decide)).trans ((eh4.2.1 115 (by decide)).trans eh3.1))) rfl ?_
                  refine xi_iload_n (pc' := 67) (x := 3) kc_15_66 rfl rfl ?_
                  refine xi_iload_n (pc' := 68) (x := 4) kc_15_67 rfl rfl ?_
                  refine xi_iconst (pc' := 69) (v := 3) kc_15_68 rfl rfl ?_
                  refine xi_cmt (pc' := 76) kc_15_69 rfl rfl ?_
                  refine xi_aload_n (pc' := 77) (x := 115) kc_15_76 rfl rfl ?_
                  refine xi_getfield (pc' := 80) (v := .ref 119) kc_15_77 rfl rfl rfl ((eh6.2.1 115 (by decide)).trans ((eh5.2.1 115 (by decide)).trans ((eh4.2.1 115 (by decide)).trans eh3.1))) rfl ?_
                  refine xi_iload_n (pc' := 81) (x := 3) kc_15_80 rfl rfl ?_
                  refine xi_iaload (pc' := 82) (v := 0) kc_15_81 rfl ((eh6.2.1 119 (by decide)).trans ((eh5.2.1 119 (by decide)).trans ((eh4.2.1 119 (by decide)).trans ((eh3.2.1 119 (by decide)).trans ((eh2.2.1 119 (by decide)).trans ((eh1.2.1 119 (by decide)).trans (F 119 _ hl_119))))))) (by decide) rfl (xi_in (n := 6) (by decide) (by decide)) rfl ?_
                  refine xi_iastore (pc' := 83) (x' := [0, 0, 0, 0, 0, 0]) kc_15_82 rfl ((eh6.2.1 119 (by decide)).trans ((eh5.2.1 119 (by decide)).trans ((eh4.2.1 119 (by decide)).trans ((eh3.2.1 119 (by decide)).trans ((eh2.2.1 119 (by decide)).trans ((eh1.2.1 119 (by decide)).trans (F 119 _ hl_119))))))) rfl (xi_in (n := 6) (by decide) (by decide)) rfl (fun hh7 eh7 => ?_)
                  refine xi_aload_n (pc' := 84) (x := 115) kc_15_83 rfl rfl ?_
                  refine xi_getfield (pc' := 87) (v := .ref 120) kc_15_84 rfl rfl rfl ((eh7.2.1 115 (by decide)).trans ((eh6.2.1 115 (by decide)).trans ((eh5.2.1 115 (by decide)).trans ((eh4.2.1 115 (by decide)).trans eh3.1)))) rfl ?_
                  refine xi_iload_n (pc' := 88) (x := 3) kc_15_87 rfl rfl ?_
                  refine xi_iload_n (pc' := 89) (x := 4) kc_15_88 rfl rfl ?_
                  refine xi_iconst (pc' := 90) (v := 4) kc_15_89 rfl rfl ?_
                  refine xi_cmf (pc' := 93) kc_15_90 rfl rfl ?_
                  refine xi_iload_n (pc' := 94) (x := a3) kc_15_93 rfl rfl ?_
                  refine xi_goto (pc' := 103) kc_15_94 rfl ?_
                  refine xi_iastore (pc' := 104) (x' := [0, 0, 0, a3, 0, 0]) kc_15_103 rfl ((eh7.2.1 120 (by decide)).trans ((eh6.2.1 120 (by decide)).trans ((eh5.2.1 120 (by decide)).trans ((eh4.2.1 120 (by decide)).trans ((eh3.2.1 120 (by decide)).trans ((eh2.2.1 120 (by decide)).trans ((eh1.2.1 120 (by decide)).trans (F 120 _ hl_120)))))))) rfl (xi_in (n := 6) (by decide) (by decide)) rfl (fun hh8 eh8 => ?_)
                  refine xi_aload_n (pc' := 105) (x := 115) kc_15_104 rfl rfl ?_
                  refine xi_getfield (pc' := 108) (v := .ref 121) kc_15_105 rfl rfl rfl ((eh8.2.1 115 (by decide)).trans ((eh7.2.1 115 (by decide)).trans ((eh6.2.1 115 (by decide)).trans ((eh5.2.1 115 (by decide)).trans ((eh4.2.1 115 (by decide)).trans eh3.1))))) rfl ?_
                  refine xi_iload_n (pc' := 109) (x := 3) kc_15_108 rfl rfl ?_
                  refine xi_iload_n (pc' := 110) (x := 4) kc_15_109 rfl rfl ?_
                  refine xi_iconst (pc' := 111) (v := 5) kc_15_110 rfl rfl ?_
                  refine xi_cmt (pc' := 118) kc_15_111 rfl rfl ?_
                  refine xi_aload_n (pc' := 119) (x := 115) kc_15_118 rfl rfl ?_
                  refine xi_getfield (pc' := 122) (v := .ref 121) kc_15_119 rfl rfl rfl ((eh8.2.1 115 (by decide)).trans ((eh7.2.1 115 (by decide)).trans ((eh6.2.1 115 (by decide)).trans ((eh5.2.1 115 (by decide)).trans ((eh4.2.1 115 (by decide)).trans eh3.1))))) rfl ?_
                  refine xi_iload_n (pc' := 123) (x := 3) kc_15_122 rfl rfl ?_
                  refine xi_iaload (pc' := 124) (v := 0) kc_15_123 rfl ((eh8.2.1 121 (by decide)).trans ((eh7.2.1 121 (by decide)).trans ((eh6.2.1 121 (by decide)).trans ((eh5.2.1 121 (by decide)).trans ((eh4.2.1 121 (by decide)).trans ((eh3.2.1 121 (by decide)).trans ((eh2.2.1 121 (by decide)).trans ((eh1.2.1 121 (by decide)).trans (F 121 _ hl_121))))))))) (by decide) rfl (xi_in (n := 6) (by decide) (by decide)) rfl ?_
                  refine xi_iastore (pc' := 125) (x' := [0, 0, 0, 0, 0, 0]) kc_15_124 rfl ((eh8.2.1 121 (by decide)).trans ((eh7.2.1 121 (by decide)).trans ((eh6.2.1 121 (by decide)).trans ((eh5.2.1 121 (by decide)).trans ((eh4.2.1 121 (by decide)).trans ((eh3.2.1 121 (by decide)).trans ((eh2.2.1 121 (by decide)).trans ((eh1.2.1 121 (by decide)).trans (F 121 _ hl_121))))))))) rfl (xi_in (n := 6) (by decide) (by decide)) rfl (fun hh9 eh9 => ?_)
                  refine xi_aload_n (pc' := 126) (x := 115) kc_15_125 rfl rfl ?_
                  refine xi_iconst (pc' := 127) (v := 0) kc_15_126 rfl rfl ?_
                  refine xi_putfield (pc' := 130) (fs' := [.int 0, .int 0, .ref 116, .ref 117, .ref 118, .ref 119, .ref 120, .ref 121, .ref 122, .ref 123, .ref 124, .ref 125, .ref 126, .ref 127, .ref 128, .ref 129, .int 4, .ref 130, .int 0, .ref 131, .ref 132, .ref 133, .ref 134, .int 0, .ref 135, .ref 136, .ref 137, .ref 138, .ref 139, .ref 140, .ref 141, .ref 142, .int 0, .int 0, .int 0, .ref 143, .ref 144, .ref 145, .ref 146, .ref 147, .ref 148, .int 0, .ref 149, .ref 150, .ref 151, .int 0, .ref 152, .ref 153, .ref 154, .ref 155, .ref 156, .ref 157, .ref 158, .ref 159, .int 0, .ref 160, .int 0, .ref 161, .ref 162, .ref 163, .ref 164, .int 0, .ref 165, .ref 166]) kc_15_127 rfl rfl rfl ((eh9.2.1 115 (by decide)).trans ((eh8.2.1 115 (by decide)).trans ((eh7.2.1 115 (by decide)).trans ((eh6.2.1 115 (by decide)).trans ((eh5.2.1 115 (by decide)).trans ((eh4.2.1 115 (by decide)).trans eh3.1)))))) rfl rfl rfl (Nat.le_of_ble_eq_true rfl) rfl (fun hh10 eh10 => ?_)
                  refine xi_return kc_15_130 mr_15 ?_
                  show xw J ov 99 10 (121, [(4, .int 0), (0, .ref 115), (1, .int 3), (2, .int 4), (3, .int a3)], [], hh10) _
                  refine xi_iload (pc' := 123) (x := 0) kc_10_121 rfl rfl ?_
                  refine xi_ireturn kc_10_123 mr_10 rfl ?_
                  show xw J ov 100 196 (236, [(4, .int 0), (3, .ref 167), (2, .ref 115), (1, .ref 0), (0, .ref 1000000)], [.int 0, .int 0], hh10) _
                  refine xi_cmt (pc' := 1528) kc_196_236 rfl rfl ?_
                  refine xi_iinc (pc' := 1531) (x := 0) (v := 6) (lv' := [(4, .int 6), (3, .ref 167), (2, .ref 115), (1, .ref 0), (0, .ref 1000000)]) kc_196_1528 rfl rfl rfl rfl (xm_lt ml_196 rfl) ?_
                  refine xi_goto (pc' := 23) kc_196_1531 rfl ?_
                  refine xi_iload (pc' := 25) (x := 6) kc_196_23 rfl rfl ?_
                  refine xi_aload_n (pc' := 26) (x := 1000000) kc_196_25 rfl rfl ?_
                  refine xi_arraylength (pc' := 27) (n := 6) (v := 6) kc_196_26 rfl (xl_lenO (by decide) hov0 rfl) rfl ?_
                  refine xi_bipush (pc' := 29) (v := 6) kc_196_27 rfl rfl ?_
                  refine xi_isub (pc' := 30) (v := 0) kc_196_29 rfl rfl ?_
                  refine xi_cmt (pc' := 1534) kc_196_30 rfl rfl ?_
                  refine xi_iconst (pc' := 1535) (v := 1) kc_196_1534 rfl rfl ?_
                  refine xi_ireturn kc_196_1535 mr_196 rfl ?_
                  refine ⟨rfl, ?_, ?_⟩
                  · rw [eh10.2.2.1, eh9.2.2.1, eh8.2.2.1, eh7.2.2.1, eh6.2.2.1, eh5.2.2.1, eh4.2.2.1, eh3.2.2.1, eh2.2.2.1, eh1.2.2.1]; exact hn0
                  · rw [eh10.2.2.2, eh9.2.2.2, eh8.2.2.2, eh7.2.2.2, eh6.2.2.2, eh5.2.2.2, eh4.2.2.2, eh3.2.2.2, eh2.2.2.2, eh1.2.2.2]; exact hz0
                by_cases c44 : a1.toInt = 4
                · have qa1 : a1 = 4 := xc_of (Eq.trans (by omega) (show (4 : Int) = (4 : Int32).toInt by decide))
                  subst qa1
                  refine xi_aaload (pc' := 13) (b := 23) kc_93_12 rfl ((eh1.2.1 2 (by decide)).trans (F 2 _ hl_2)) rfl (xi_in (n := 6) (by decide) (by decide)) rfl ?_
                  refine xi_iload_n (pc' := 14) (x := 4) kc_93_13 rfl rfl ?_
                  refine xi_iload_n (pc' := 15) (x := a3) kc_93_14 rfl rfl ?_
                  refine xi_virtual (mj := 94) (as := [.int 4, .int a3]) (st1 := []) (lv0 := [(0, .ref 23), (1, .int 4), (2, .int a3)]) kc_93_15 rfl rfl rfl rfl rfl ((eh1.2.1 23 (by decide)).trans (F 23 _ hl_23)) (Nat.le_of_ble_eq_true rfl) (hJ _ _ _ _ (by decide)) (xm_le ml_94 rfl) rfl ?_
                  refine xi_iload_n (pc' := 1) (x := 4) kc_94_0 rfl rfl ?_
                  refine xi_iff (pc' := 4) kc_94_1 rfl rfl ?_
                  refine xi_iload_n (pc' := 5) (x := 4) kc_94_4 rfl rfl ?_
                  refine xi_iconst (pc' := 6) (v := 5) kc_94_5 rfl rfl ?_
                  refine xi_cmt (pc' := 11) kc_94_6 rfl rfl ?_
                  refine xi_aload_n (pc' := 12) (x := 23) kc_94_11 rfl rfl ?_
                  refine xi_getfield (pc' := 15) (v := .ref 24) kc_94_12 rfl rfl rfl ((eh1.2.1 23 (by decide)).trans (F 23 _ hl_23)) rfl ?_
                  refine xi_iload_n (pc' := 16) (x := 4) kc_94_15 rfl rfl ?_
                  refine xi_iaload (pc' := 17) (v := 0) kc_94_16 rfl ((eh1.2.1 24 (by decide)).trans (F 24 _ hl_24)) (by decide) rfl (xi_in (n := 5) (by decide) (by decide)) rfl ?_
                  refine xi_istore_n (pc' := 18) (lv' := [(3, .int 0), (0, .ref 23), (1, .int 4), (2, .int a3)]) kc_94_17 rfl rfl (xm_lt ml_94 rfl) ?_
                  refine xi_aload_n (pc' := 19) (x := 23) kc_94_18 rfl rfl ?_
                  refine xi_getfield (pc' := 22) (v := .ref 24) kc_94_19 rfl rfl rfl ((eh1.2.1 23 (by decide)).trans (F 23 _ hl_23)) rfl ?_
                  refine xi_iload_n (pc' := 23) (x := 4) kc_94_22 rfl rfl ?_
                  refine xi_iload_n (pc' := 24) (x := a3) kc_94_23 rfl rfl ?_
                  refine xi_iastore (pc' := 25) (x' := [40, 18, 10, 0, a3]) kc_94_24 rfl ((eh1.2.1 24 (by decide)).trans (F 24 _ hl_24)) rfl (xi_in (n := 5) (by decide) (by decide)) rfl (fun hh2 eh2 => ?_)
                  refine xi_iload_n (pc' := 26) (x := 0) kc_94_25 rfl rfl ?_
                  refine xi_ireturn kc_94_26 mr_94 rfl ?_
                  show xw J ov 98 93 (18, [(0, .ref 1), (1, .int 4), (2, .int 4), (3, .int a3)], [.int 0], hh2) _
                  refine xi_goto (pc' := 22) kc_93_18 rfl ?_
                  refine xi_ireturn kc_93_22 mr_93 rfl ?_
                  show xw J ov 99 89 (107, [(0, .ref 0), (1, .int 4), (2, .int 4), (3, .int a3)], [.int 0], hh2) _
                  refine xi_ireturn kc_89_107 mr_89 rfl ?_
                  show xw J ov 100 196 (214, [(4, .int 0), (3, .ref 167), (2, .ref 115), (1, .ref 0), (0, .ref 1000000)], [.int 0], hh2) _
                  refine xi_aload_n (pc' := 215) (x := 115) kc_196_214 rfl rfl ?_
                  refine xi_aload_n (pc' := 216) (x := 1000000) kc_196_215 rfl rfl ?_
                  refine xi_iload (pc' := 218) (x := 0) kc_196_216 rfl rfl ?_
                  refine xi_iconst (pc' := 219) (v := 1) kc_196_218 rfl rfl ?_
                  refine xi_iadd (pc' := 220) (v := 1) kc_196_219 rfl rfl ?_
                  refine xi_ialoadO (pc' := 221) (v := 4) kc_196_220 rfl (by decide) hov0 (xi_in (n := 6) (by decide) (by decide)) rfl ?_
                  refine xi_aload_n (pc' := 222) (x := 1000000) kc_196_221 rfl rfl ?_
                  refine xi_iload (pc' := 224) (x := 0) kc_196_222 rfl rfl ?_
                  refine xi_iconst (pc' := 225) (v := 2) kc_196_224 rfl rfl ?_
                  refine xi_iadd (pc' := 226) (v := 2) kc_196_225 rfl rfl ?_
                  refine xi_ialoadO (pc' := 227) (v := 4) kc_196_226 rfl (by decide) hov0 (xi_in (n := 6) (by decide) (by decide)) rfl ?_
                  refine xi_aload_n (pc' := 228) (x := 1000000) kc_196_227 rfl rfl ?_
                  refine xi_iload (pc' := 230) (x := 0) kc_196_228 rfl rfl ?_
                  refine xi_iconst (pc' := 231) (v := 3) kc_196_230 rfl rfl ?_
                  refine xi_iadd (pc' := 232) (v := 3) kc_196_231 rfl rfl ?_
                  refine xi_ialoadO (pc' := 233) (v := a3) kc_196_232 rfl (by decide) hov0 (xi_in (n := 6) (by decide) (by decide)) rfl ?_
                  refine xi_virtual (mj := 10) (as := [.int 4, .int 4, .int a3]) (st1 := [.int 0]) (lv0 := [(0, .ref 115), (1, .int 4), (2, .int 4), (3, .int a3)]) kc_196_233 rfl rfl rfl rfl rfl ((eh2.2.1 115 (by decide)).trans ((eh1.2.1 115 (by decide)).trans (F 115 _ hl_115))) (Nat.le_of_ble_eq_true rfl) (hJ _ _ _ _ (by decide)) (xm_le ml_10 rfl) rfl ?_
                  refine xi_aload_n (pc' := 1) (x := 115) kc_10_0 rfl rfl ?_
                  refine xi_iconst (pc' := 2) (v := 0) kc_10_1 rfl rfl ?_
                  refine xi_putfield (pc' := 5) (fs' := [.int 0, .int 0, .ref 116, .ref 117, .ref 118, .ref 119, .ref 120, .ref 121, .ref 122, .ref 123, .ref 124, .ref 125, .ref 126, .ref 127, .ref 128, .ref 129, .int 4, .ref 130, .int 0, .ref 131, .ref 132, .ref 133, .ref 134, .int 0, .ref 135, .ref 136, .ref 137, .ref 138, .ref 139, .ref 140, .ref 141, .ref 142, .int 0, .int 0, .int 0, .ref 143, .ref 144, .ref 145, .ref 146, .ref 147, .ref 148, .int 0, .ref 149, .ref 150, .ref 151, .int 0, .ref 152, .ref 153, .ref 154, .ref 155, .ref 156, .ref 157, .ref 158, .ref 159, .int 0, .ref 160, .int 0, .ref 161, .ref 162, .ref 163, .ref 164, .int 0, .ref 165, .ref 166]) kc_10_2 rfl rfl rfl ((eh2.2.1 115 (by decide)).trans ((eh1.2.1 115 (by decide)).trans (F 115 _ hl_115))) rfl rfl rfl (Nat.le_of_ble_eq_true rfl) rfl (fun hh3 eh3 => ?_)
                  refine xi_iload_n (pc' := 6) (x := 4) kc_10_5 rfl rfl ?_
                  refine xi_static (mj := 11) (as := [.int 4]) (st1 := []) (lv0 := [(0, .int 4)]) kc_10_6 rfl rfl (Nat.le_of_ble_eq_true rfl) rfl rfl (Nat.le_of_ble_eq_true rfl) (hJ _ _ _ _ (by decide)) (xm_le ml_11 rfl) rfl ?_
                  refine xi_iload_n (pc' := 1) (x := 4) kc_11_0 rfl rfl ?_
                  refine xi_iconst (pc' := 2) (v := 0) kc_11_1 rfl rfl ?_
                  refine xi_iconst (pc' := 3) (v := 5) kc_11_2 rfl rfl ?_
                  refine xi_static (mj := 12) (as := [.int 4, .int 0, .int 5]) (st1 := []) (lv0 := [(0, .int 4), (1, .int 0), (2, .int 5)]) kc_11_3 rfl rfl (Nat.le_of_ble_eq_true rfl) rfl rfl (Nat.le_of_ble_eq_true rfl) (hJ _ _ _ _ (by decide)) (xm_le ml_12 rfl) rfl ?_
                  refine xi_iload_n (pc' := 1) (x := 4) kc_12_0 rfl rfl ?_
                  refine xi_iload_n (pc' := 2) (x := 0) kc_12_1 rfl rfl ?_
                  refine xi_cmf (pc' := 5) kc_12_2 rfl rfl ?_
                  refine xi_iload_n (pc' := 6) (x := 4) kc_12_5 rfl rfl ?_
                  refine xi_iload_n (pc' := 7) (x := 5) kc_12_6 rfl rfl ?_
                  refine xi_cmf (pc' := 10) kc_12_7 rfl rfl ?_
                  refine xi_iconst (pc' := 11) (v := 1) kc_12_10 rfl rfl ?_
                  refine xi_goto (pc' := 15) kc_12_11 rfl ?_
                  refine xi_ireturn kc_12_15 mr_12 rfl ?_
                  show xw J ov 98 11 (6, [(0, .int 4)], [.int 1], hh3) _
                  refine xi_ireturn kc_11_6 mr_11 rfl ?_
                  show xw J ov 99 10 (9, [(0, .ref 115), (1, .int 4), (2, .int 4), (3, .int a3)], [.int 1], hh3) _
                  refine xi_ift (pc' := 18) kc_10_9 rfl rfl ?_
                  refine xi_iload_n (pc' := 19) (x := 4) kc_10_18 rfl rfl ?_
                  refine xi_iconst (pc' := 20) (v := 0) kc_10_19 rfl rfl ?_
                  refine xi_iconst (pc' := 21) (v := 5) kc_10_20 rfl rfl ?_
                  refine xi_static (mj := 12) (as := [.int 4, .int 0, .int 5]) (st1 := []) (lv0 := [(0, .int 4), (1, .int 0), (2, .int 5)]) kc_10_21 rfl rfl (Nat.le_of_ble_eq_true rfl) rfl rfl (Nat.le_of_ble_eq_true rfl) (hJ _ _ _ _ (by decide)) (xm_le ml_12 rfl) rfl ?_
                  refine xi_iload_n (pc' := 1) (x := 4) kc_12_0 rfl rfl ?_
                  refine xi_iload_n (pc' := 2) (x := 0) kc_12_1 rfl rfl ?_
                  refine xi_cmf (pc' := 5) kc_12_2 rfl rfl ?_
                  refine xi_iload_n (pc' := 6) (x := 4) kc_12_5 rfl rfl ?_
                  refine xi_iload_n (pc' := 7) (x := 5) kc_12_6 rfl rfl ?_
                  refine xi_cmf (pc' := 10) kc_12_7 rfl rfl ?_
                  refine xi_iconst (pc' := 11) (v := 1) kc_12_10 rfl rfl ?_
                  refine xi_goto (pc' := 15) kc_12_11 rfl ?_
                  refine xi_ireturn kc_12_15 mr_12 rfl ?_
                  show xw J ov 99 10 (24, [(0, .ref 115), (1, .int 4), (2, .int 4), (3, .int a3)], [.int 1], hh3) _
                  refine xi_ift (pc' := 34) kc_10_24 rfl rfl ?_
                  refine xi_iload_n (pc' := 35) (x := a3) kc_10_34 rfl rfl ?_
                  refine xi_iload_n (pc' := 36) (x := 4) kc_10_35 rfl rfl ?_
                  refine xi_ift (pc' := 44) kc_10_36 rfl rfl ?_
                  refine xi_iconst (pc' := 45) (v := 0) kc_10_44 rfl rfl ?_
                  refine xi_cmt (pc' := 55) kc_10_45 rfl (xc_ge_t (X := a3.toInt) (Y := 0) rfl (by decide) (by omega)) ?_
                  refine xi_iload_n (pc' := 56) (x := a3) kc_10_55 rfl rfl ?_
                  refine xi_iload_n (pc' := 57) (x := 4) kc_10_56 rfl rfl ?_
                  refine xi_ift (pc' := 65) kc_10_57 rfl rfl ?_
                  refine xi_iload_n (pc' := 66) (x := 4) kc_10_65 rfl rfl ?_
                  refine xi_iconst (pc' := 67) (v := 1) kc_10_66 rfl rfl ?_
                  refine xi_cmt (pc' := 75) kc_10_67 rfl rfl ?_
                  refine xi_iload_n (pc' := 76) (x := 4) kc_10_75 rfl rfl ?_
                  refine xi_iconst (pc' := 77) (v := 4) kc_10_76 rfl rfl ?_
                  refine xi_cmt (pc' := 85) kc_10_77 rfl rfl ?_
                  refine xi_iload_n (pc' := 86) (x := 4) kc_10_85 rfl rfl ?_
                  refine xi_iconst (pc' := 87) (v := 4) kc_10_86 rfl rfl ?_
                  refine xi_cmf (pc' := 90) kc_10_87 rfl rfl ?_
                  refine xi_iconst (pc' := 91) (v := 1) kc_10_90 rfl rfl ?_
                  refine xi_goto (pc' := 96) kc_10_91 rfl ?_
                  refine xi_cmt (pc' := 106) kc_10_96 rfl (xc_le_t (X := a3.toInt) (Y := 1) rfl (by decide) (by omega)) ?_
                  refine xi_aload_n (pc' := 107) (x := 115) kc_10_106 rfl rfl ?_
                  refine xi_iload_n (pc' := 108) (x := 4) kc_10_107 rfl rfl ?_
                  refine xi_iload_n (pc' := 109) (x := 4) kc_10_108 rfl rfl ?_
                  refine xi_virtual (mj := 14) (as := [.int 4, .int 4]) (st1 := []) (lv0 := [(0, .ref 115), (1, .int 4), (2, .int 4)]) kc_10_109 rfl rfl rfl rfl rfl eh3.1 (Nat.le_of_ble_eq_true rfl) (hJ _ _ _ _ (by decide)) (xm_le ml_14 rfl) rfl ?_
                  refine xi_iload_n (pc' := 1) (x := 4) kc_14_0 rfl rfl ?_
                  refine xi_tsi (pc' := 64) (z := 4) kc_14_1 (rfl) rfl (by decide) ?_
                  refine xi_aload_n (pc' := 65) (x := 115) kc_14_64 rfl rfl ?_
                  refine xi_getfield (pc' := 68) (v := .ref 120) kc_14_65 rfl rfl rfl eh3.1 rfl ?_
                  refine xi_iload_n (pc' := 69) (x := 4) kc_14_68 rfl rfl ?_
                  refine xi_iaload (pc' := 70) (v := 0) kc_14_69 rfl ((eh3.2.1 120 (by decide)).trans ((eh2.2.1 120 (by decide)).trans ((eh1.2.1 120 (by decide)).trans (F 120 _ hl_120)))) (by decide) rfl (xi_in (n := 6) (by decide) (by decide)) rfl ?_
                  refine xi_ireturn kc_14_70 mr_14 rfl ?_
                  show xw J ov 99 10 (112, [(0, .ref 115), (1, .int 4), (2, .int 4), (3, .int a3)], [.int 0], hh3) _
                  refine xi_istore (pc' := 114) (lv' := [(4, .int 0), (0, .ref 115), (1, .int 4), (2, .int 4), (3, .int a3)]) kc_10_112 rfl rfl (xm_lt ml_10 rfl) ?_
                  refine xi_aload_n (pc' := 115) (x := 115) kc_10_114 rfl rfl ?_
                  refine xi_iload_n (pc' := 116) (x := 4) kc_10_115 rfl rfl ?_
                  refine xi_iload_n (pc' := 117) (x := 4) kc_10_116 rfl rfl ?_
                  refine xi_iload_n (pc' := 118) (x := a3) kc_10_117 rfl rfl ?_
                  refine xi_virtual (mj := 15) (as := [.int 4, .int 4, .int a3]) (st1 := []) (lv0 := [(0, .ref 115), (1, .int 4), (2, .int 4), (3, .int a3)]) kc_10_118 rfl rfl rfl rfl rfl eh3.1 (Nat.le_of_ble_eq_true rfl) (hJ _ _ _ _ (by decide)) (xm_le ml_15 rfl) rfl ?_
                  refine xi_aload_n (pc' := 1) (x := 115) kc_15_0 rfl rfl ?_
                  refine xi_getfield (pc' := 4) (v := .ref 116) kc_15_1 rfl rfl rfl eh3.1 rfl ?_
                  refine xi_iload_n (pc' := 5) (x := 4) kc_15_4 rfl rfl ?_
                  refine xi_iload_n (pc' := 6) (x := 4) kc_15_5 rfl rfl ?_
                  refine xi_ift (pc' := 13) kc_15_6 rfl rfl ?_
                  refine xi_aload_n (pc' := 14) (x := 115) kc_15_13 rfl rfl ?_
                  refine xi_getfield (pc' := 17) (v := .ref 116) kc_15_14 rfl rfl rfl eh3.1 rfl ?_
                  refine xi_iload_n (pc' := 18) (x := 4) kc_15_17 rfl rfl ?_
                  refine xi_iaload (pc' := 19) (v := 40) kc_15_18 rfl ((eh3.2.1 116 (by decide)).trans ((eh2.2.1 116 (by decide)).trans ((eh1.2.1 116 (by decide)).trans (F 116 _ hl_116)))) (by decide) rfl (xi_in (n := 6) (by decide) (by decide)) rfl ?_
                  refine xi_iastore (pc' := 20) (x' := [40, 40, 40, 40, 40, 40]) kc_15_19 rfl ((eh3.2.1 116 (by decide)).trans ((eh2.2.1 116 (by decide)).trans ((eh1.2.1 116 (by decide)).trans (F 116 _ hl_116)))) rfl (xi_in (n := 6) (by decide) (by decide)) rfl (fun hh4 eh4 => ?_)
                  refine xi_aload_n (pc' := 21) (x := 115) kc_15_20 rfl rfl ?_
                  refine xi_getfield (pc' := 24) (v := .ref 117) kc_15_21 rfl rfl rfl ((eh4.2.1 115 (by decide)).trans eh3.1) rfl ?_
                  refine xi_iload_n (pc' := 25) (x := 4) kc_15_24 rfl rfl ?_
                  refine xi_iload_n (pc' := 26) (x := 4) kc_15_25 rfl rfl ?_
                  refine xi_iconst (pc' := 27) (v := 1) kc_15_26 rfl rfl ?_
                  refine xi_cmt (pc' := 34) kc_15_27 rfl rfl ?_
                  refine xi_aload_n (pc' := 35) (x := 115) kc_15_34 rfl rfl ?_
                  refine xi_getfield (pc' := 38) (v := .ref 117) kc_15_35 rfl rfl rfl ((eh4.2.1 115 (by decide)).trans eh3.1) rfl ?_
                  refine xi_iload_n (pc' := 39) (x := 4) kc_15_38 rfl rfl ?_
                  refine xi_iaload (pc' := 40) (v := 18) kc_15_39 rfl ((eh4.2.1 117 (by decide)).trans ((eh3.2.1 117 (by decide)).trans ((eh2.2.1 117 (by decide)).trans ((eh1.2.1 117 (by decide)).trans (F 117 _ hl_117))))) (by decide) rfl (xi_in (n := 6) (by decide) (by decide)) rfl ?_
                  refine xi_iastore (pc' := 41) (x' := [18, 18, 18, 18, 18, 18]) kc_15_40 rfl ((eh4.2.1 117 (by decide)).trans ((eh3.2.1 117 (by decide)).trans ((eh2.2.1 117 (by decide)).trans ((eh1.2.1 117 (by decide)).trans (F 117 _ hl_117))))) rfl (xi_in (n := 6) (by decide) (by decide)) rfl (fun hh5 eh5 => ?_)
                  refine xi_aload_n (pc' := 42) (x := 115) kc_15_41 rfl rfl ?_
                  refine xi_getfield (pc' := 45) (v := .ref 118) kc_15_42 rfl rfl rfl ((eh5.2.1 115 (by decide)).trans ((eh4.2.1 115 (by decide)).trans eh3.1)) rfl ?_
                  refine xi_iload_n (pc' := 46) (x := 4) kc_15_45 rfl rfl ?_
                  refine xi_iload_n (pc' := 47) (x := 4) kc_15_46 rfl rfl ?_
                  refine xi_iconst (pc' := 48) (v := 2) kc_15_47 rfl rfl ?_
                  refine xi_cmt (pc' := 55) kc_15_48 rfl rfl ?_
                  refine xi_aload_n (pc' := 56) (x := 115) kc_15_55 rfl rfl ?_
                  refine xi_getfield (pc' := 59) (v := .ref 118) kc_15_56 rfl rfl rfl ((eh5.2.1 115 (by decide)).trans ((eh4.2.1 115 (by decide)).trans eh3.1)) rfl ?_
                  refine xi_iload_n (pc' := 60) (x := 4) kc_15_59 rfl rfl ?_
                  refine xi_iaload (pc' := 61) (v := 10) kc_15_60 rfl ((eh5.2.1 118 (by decide)).trans ((eh4.2.1 118 (by decide)).trans ((eh3.2.1 118 (by decide)).trans ((eh2.2.1 118 (by decide)).trans ((eh1.2.1 118 (by decide)).trans (F 118 _ hl_118)))))) (by decide) rfl (xi_in (n := 6) (by decide) (by decide)) rfl ?_
                  refine xi_iastore (pc' := 62) (x' := [10, 10, 10, 10, 10, 10]) kc_15_61 rfl ((eh5.2.1 118 (by decide)).trans ((eh4.2.1 118 (by decide)).trans ((eh3.2.1 118 (by decide)).trans ((eh2.2.1 118 (by decide)).trans ((eh1.2.1 118 (by decide)).trans (F 118 _ hl_118)))))) rfl (xi_in (n := 6) (by decide) (by decide)) rfl (fun hh6 eh6 => ?_)
                  refine xi_aload_n (pc' := 63) (x := 115) kc_15_62 rfl rfl ?_
                  refine xi_getfield (pc' := 66) (v := .ref 119) kc_15_63 rfl rfl rfl ((eh6.2.1 115 (by decide)).trans ((eh5.2.1 115 (by decide)).trans ((eh4.2.1 115 (by decide)).trans eh3.1))) rfl ?_
                  refine xi_iload_n (pc' := 67) (x := 4) kc_15_66 rfl rfl ?_
                  refine xi_iload_n (pc' := 68) (x := 4) kc_15_67 rfl rfl ?_
                  refine xi_iconst (pc' := 69) (v := 3) kc_15_68 rfl rfl ?_
                  refine xi_cmt (pc' := 76) kc_15_69 rfl rfl ?_
                  refine xi_aload_n (pc' := 77) (x := 115) kc_15_76 rfl rfl ?_
                  refine xi_getfield (pc' := 80) (v := .ref 119) kc_15_77 rfl rfl rfl ((eh6.2.1 115 (by decide)).trans ((eh5.2.1 115 (by decide)).trans ((eh4.2.1 115 (by decide)).trans eh3.1))) rfl ?_
                  refine xi_iload_n (pc' := 81) (x := 4) kc_15_80 rfl rfl ?_
                  refine xi_iaload (pc' := 82) (v := 0) kc_15_81 rfl ((eh6.2.1 119 (by decide)).trans ((eh5.2.1 119 (by decide)).trans ((eh4.2.1 119 (by decide)).trans ((eh3.2.1 119 (by decide)).trans ((eh2.2.1 119 (by decide)).trans ((eh1.2.1 119 (by decide)).trans (F 119 _ hl_119))))))) (by decide) rfl (xi_in (n := 6) (by decide) (by decide)) rfl ?_
                  refine xi_iastore (pc' := 83) (x' := [0, 0, 0, 0, 0, 0]) kc_15_82 rfl ((eh6.2.1 119 (by decide)).trans ((eh5.2.1 119 (by decide)).trans ((eh4.2.1 119 (by decide)).trans ((eh3.2.1 119 (by decide)).trans ((eh2.2.1 119 (by decide)).trans ((eh1.2.1 119 (by decide)).trans (F 119 _ hl_119))))))) rfl (xi_in (n := 6) (by decide) (by decide)) rfl (fun hh7 eh7 => ?_)
                  refine xi_aload_n (pc' := 84) (x := 115) kc_15_83 rfl rfl ?_
                  refine xi_getfield (pc' := 87) (v := .ref 120) kc_15_84 rfl rfl rfl ((eh7.2.1 115 (by decide)).trans ((eh6.2.1 115 (by decide)).trans ((eh5.2.1 115 (by decide)).trans ((eh4.2.1 115 (by decide)).trans eh3.1)))) rfl ?_
                  refine xi_iload_n (pc' := 88) (x := 4) kc_15_87 rfl rfl ?_
                  refine xi_iload_n (pc' := 89) (x := 4) kc_15_88 rfl rfl ?_
                  refine xi_iconst (pc' := 90) (v := 4) kc_15_89 rfl rfl ?_
                  refine xi_cmf (pc' := 93) kc_15_90 rfl rfl ?_
                  refine xi_iload_n (pc' := 94) (x := a3) kc_15_93 rfl rfl ?_
                  refine xi_goto (pc' := 103) kc_15_94 rfl ?_
                  refine xi_iastore (pc' := 104) (x' := [0, 0, 0, 0, a3, 0]) kc_15_103 rfl ((eh7.2.1 120 (by decide)).trans ((eh6.2.1 120 (by decide)).trans ((eh5.2.1 120 (by decide)).trans ((eh4.2.1 120 (by decide)).trans ((eh3.2.1 120 (by decide)).trans ((eh2.2.1 120 (by decide)).trans ((eh1.2.1 120 (by decide)).trans (F 120 _ hl_120)))))))) rfl (xi_in (n := 6) (by decide) (by decide)) rfl (fun hh8 eh8 => ?_)
                  refine xi_aload_n (pc' := 105) (x := 115) kc_15_104 rfl rfl ?_
                  refine xi_getfield (pc' := 108) (v := .ref 121) kc_15_105 rfl rfl rfl ((eh8.2.1 115 (by decide)).trans ((eh7.2.1 115 (by decide)).trans ((eh6.2.1 115 (by decide)).trans ((eh5.2.1 115 (by decide)).trans ((eh4.2.1 115 (by decide)).trans eh3.1))))) rfl ?_
                  refine xi_iload_n (pc' := 109) (x := 4) kc_15_108 rfl rfl ?_
                  refine xi_iload_n (pc' := 110) (x := 4) kc_15_109 rfl rfl ?_
                  refine xi_iconst (pc' := 111) (v := 5) kc_15_110 rfl rfl ?_
                  refine xi_cmt (pc' := 118) kc_15_111 rfl rfl ?_
                  refine xi_aload_n (pc' := 119) (x := 115) kc_15_118 rfl rfl ?_
                  refine xi_getfield (pc' := 122) (v := .ref 121) kc_15_119 rfl rfl rfl ((eh8.2.1 115 (by decide)).trans ((eh7.2.1 115 (by decide)).trans ((eh6.2.1 115 (by decide)).trans ((eh5.2.1 115 (by decide)).trans ((eh4.2.1 115 (by decide)).trans eh3.1))))) rfl ?_
                  refine xi_iload_n (pc' := 123) (x := 4) kc_15_122 rfl rfl ?_
                  refine xi_iaload (pc' := 124) (v := 0) kc_15_123 rfl ((eh8.2.1 121 (by decide)).trans ((eh7.2.1 121 (by decide)).trans ((eh6.2.1 121 (by decide)).trans ((eh5.2.1 121 (by decide)).trans ((eh4.2.1 121 (by decide)).trans ((eh3.2.1 121 (by decide)).trans ((eh2.2.1 121 (by decide)).trans ((eh1.2.1 121 (by decide)).trans (F 121 _ hl_121))))))))) (by decide) rfl (xi_in (n := 6) (by decide) (by decide)) rfl ?_
                  refine xi_iastore (pc' := 125) (x' := [0, 0, 0, 0, 0, 0]) kc_15_124 rfl ((eh8.2.1 121 (by decide)).trans ((eh7.2.1 121 (by decide)).trans ((eh6.2.1 121 (by decide)).trans ((eh5.2.1 121 (by decide)).trans ((eh4.2.1 121 (by decide)).trans ((eh3.2.1 121 (by decide)).trans ((eh2.2.1 121 (by decide)).trans ((eh1.2.1 121 (by decide)).trans (F 121 _ hl_121))))))))) rfl (xi_in (n := 6) (by decide) (by decide)) rfl (fun hh9 eh9 => ?_)
                  refine xi_aload_n (pc' := 126) (x := 115) kc_15_125 rfl rfl ?_
                  refine xi_iconst (pc' := 127) (v := 0) kc_15_126 rfl rfl ?_
                  refine xi_putfield (pc' := 130) (fs' := [.int 0, .int 0, .ref 116, .ref 117, .ref 118, .ref 119, .ref 120, .ref 121, .ref 122, .ref 123, .ref 124, .ref 125, .ref 126, .ref 127, .ref 128, .ref 129, .int 4, .ref 130, .int 0, .ref 131, .ref 132, .ref 133, .ref 134, .int 0, .ref 135, .ref 136, .ref 137, .ref 138, .ref 139, .ref 140, .ref 141, .ref 142, .int 0, .int 0, .int 0, .ref 143, .ref 144, .ref 145, .ref 146, .ref 147, .ref 148, .int 0, .ref 149, .ref 150, .ref 151, .int 0, .ref 152, .ref 153, .ref 154, .ref 155, .ref 156, .ref 157, .ref 158, .ref 159, .int 0, .ref 160, .int 0, .ref 161, .ref 162, .ref 163, .ref 164, .int 0, .ref 165, .ref 166]) kc_15_127 rfl rfl rfl ((eh9.2.1 115 (by decide)).trans ((eh8.2.1 115 (by decide)).trans ((eh7.2.1 115 (by decide)).trans ((eh6.2.1 115 (by decide)).trans ((eh5.2.1 115 (by decide)).trans ((eh4.2.1 115 (by decide)).trans eh3.1)))))) rfl rfl rfl (Nat.le_of_ble_eq_true rfl) rfl (fun hh10 eh10 => ?_)
                  refine xi_return kc_15_130 mr_15 ?_
                  show xw J ov 99 10 (121, [(4, .int 0), (0, .ref 115), (1, .int 4), (2, .int 4), (3, .int a3)], [], hh10) _
                  refine xi_iload (pc' := 123) (x := 0) kc_10_121 rfl rfl ?_
                  refine xi_ireturn kc_10_123 mr_10 rfl ?_
                  show xw J ov 100 196 (236, [(4, .int 0), (3, .ref 167), (2, .ref 115), (1, .ref 0), (0, .ref 1000000)], [.int 0, .int 0], hh10) _
                  refine xi_cmt (pc' := 1528) kc_196_236 rfl rfl ?_
                  refine xi_iinc (pc' := 1531) (x := 0) (v := 6) (lv' := [(4, .int 6), (3, .ref 167), (2, .ref 115), (1, .ref 0), (0, .ref 1000000)]) kc_196_1528 rfl rfl rfl rfl (xm_lt ml_196 rfl) ?_
                  refine xi_goto (pc' := 23) kc_196_1531 rfl ?_
                  refine xi_iload (pc' := 25) (x := 6) kc_196_23 rfl rfl ?_
                  refine xi_aload_n (pc' := 26) (x := 1000000) kc_196_25 rfl rfl ?_
                  refine xi_arraylength (pc' := 27) (n := 6) (v := 6) kc_196_26 rfl (xl_lenO (by decide) hov0 rfl) rfl ?_
                  refine xi_bipush (pc' := 29) (v := 6) kc_196_27 rfl rfl ?_
                  refine xi_isub (pc' := 30) (v := 0) kc_196_29 rfl rfl ?_
                  refine xi_cmt (pc' := 1534) kc_196_30 rfl rfl ?_
                  refine xi_iconst (pc' := 1535) (v := 1) kc_196_1534 rfl rfl ?_
                  refine xi_ireturn kc_196_1535 mr_196 rfl ?_
                  refine ⟨rfl, ?_, ?_⟩
                  · rw [eh10.2.2.1, eh9.2.2.1, eh8.2.2.1, eh7.2.2.1, eh6.2.2.1, eh5.2.2.1, eh4.2.2.1, eh3.2.2.1, eh2.2.2.1, eh1.2.2.1]; exact hn0
                  · rw [eh10.2.2.2, eh9.2.2.2, eh8.2.2.2, eh7.2.2.2, eh6.2.2.2, eh5.2.2.2, eh4.2.2.2, eh3.2.2.2, eh2.2.2.2, eh1.2.2.2]; exact hz0
                have qa1 : a1 = 5 := xc_of (Eq.trans (by omega) (show (5 : Int) = (5 : Int32).toInt by decide))
                subst qa1
                refine xi_aaload (pc' := 13) (b := 26) kc_93_12 rfl ((eh1.2.1 2 (by decide)).trans (F 2 _ hl_2)) rfl (xi_in (n := 6) (by decide) (by decide)) rfl ?_
                refine xi_iload_n (pc' := 14) (x := 4) kc_93_13 rfl rfl ?_
                refine xi_iload_n (pc' := 15) (x := a3) kc_93_14 rfl rfl ?_
                refine xi_virtual (mj := 94) (as := [.int 4, .int a3]) (st1 := []) (lv0 := [(0, .ref 26), (1, .int 4), (2, .int a3)]) kc_93_15 rfl rfl rfl rfl rfl ((eh1.2.1 26 (by decide)).trans (F 26 _ hl_26)) (Nat.le_of_ble_eq_true rfl) (hJ _ _ _ _ (by decide)) (xm_le ml_94 rfl) rfl ?_
                refine xi_iload_n (pc' := 1) (x := 4) kc_94_0 rfl rfl ?_
                refine xi_iff (pc' := 4) kc_94_1 rfl rfl ?_
                refine xi_iload_n (pc' := 5) (x := 4) kc_94_4 rfl rfl ?_
                refine xi_iconst (pc' := 6) (v := 5) kc_94_5 rfl rfl ?_
                refine xi_cmt (pc' := 11) kc_94_6 rfl rfl ?_
                refine xi_aload_n (pc' := 12) (x := 26) kc_94_11 rfl rfl ?_
                refine xi_getfield (pc' := 15) (v := .ref 27) kc_94_12 rfl rfl rfl ((eh1.2.1 26 (by decide)).trans (F 26 _ hl_26)) rfl ?_
                refine xi_iload_n (pc' := 16) (x := 4) kc_94_15 rfl rfl ?_
                refine xi_iaload (pc' := 17) (v := 0) kc_94_16 rfl ((eh1.2.1 27 (by decide)).trans (F 27 _ hl_27)) (by decide) rfl (xi_in (n := 5) (by decide) (by decide)) rfl ?_
                refine xi_istore_n (pc' := 18) (lv' := [(3, .int 0), (0, .ref 26), (1, .int 4), (2, .int a3)]) kc_94_17 rfl rfl (xm_lt ml_94 rfl) ?_
                refine xi_aload_n (pc' := 19) (x := 26) kc_94_18 rfl rfl ?_
                refine xi_getfield (pc' := 22) (v := .ref 27) kc_94_19 rfl rfl rfl ((eh1.2.1 26 (by decide)).trans (F 26 _ hl_26)) rfl ?_
                refine xi_iload_n (pc' := 23) (x := 4) kc_94_22 rfl rfl ?_
                refine xi_iload_n (pc' := 24) (x := a3) kc_94_23 rfl rfl ?_
                refine xi_iastore (pc' := 25) (x' := [40, 18, 10, 0, a3]) kc_94_24 rfl ((eh1.2.1 27 (by decide)).trans (F 27 _ hl_27)) rfl (xi_in (n := 5) (by decide) (by decide)) rfl (fun hh2 eh2 => ?_)
                refine xi_iload_n (pc' := 26) (x := 0) kc_94_25 rfl rfl ?_
                refine xi_ireturn kc_94_26 mr_94 rfl ?_
                show xw J ov 98 93 (18, [(0, .ref 1), (1, .int 5), (2, .int 4), (3, .int a3)], [.int 0], hh2) _
                refine xi_goto (pc' := 22) kc_93_18 rfl ?_
                refine xi_ireturn kc_93_22 mr_93 rfl ?_
                show xw J ov 99 89 (107, [(0, .ref 0), (1, .int 5), (2, .int 4), (3, .int a3)], [.int 0], hh2) _
                refine xi_ireturn kc_89_107 mr_89 rfl ?_
                show xw J ov 100 196 (214, [(4, .int 0), (3, .ref 167), (2, .ref 115), (1, .ref 0), (0, .ref 1000000)], [.int 0], hh2) _
                refine xi_aload_n (pc' := 215) (x := 115) kc_196_214 rfl rfl ?_
                refine xi_aload_n (pc' := 216) (x := 1000000) kc_196_215 rfl rfl ?_
                refine xi_iload (pc' := 218) (x := 0) kc_196_216 rfl rfl ?_
                refine xi_iconst (pc' := 219) (v := 1) kc_196_218 rfl rfl ?_
                refine xi_iadd (pc' := 220) (v := 1) kc_196_219 rfl rfl ?_
                refine xi_ialoadO (pc' := 221) (v := 5) kc_196_220 rfl (by decide) hov0 (xi_in (n := 6) (by decide) (by decide)) rfl ?_
                refine xi_aload_n (pc' := 222) (x := 1000000) kc_196_221 rfl rfl ?_
                refine xi_iload (pc' := 224) (x := 0) kc_196_222 rfl rfl ?_
                refine xi_iconst (pc' := 225) (v := 2) kc_196_224 rfl rfl ?_
                refine xi_iadd (pc' := 226) (v := 2) kc_196_225 rfl rfl ?_
                refine xi_ialoadO (pc' := 227) (v := 4) kc_196_226 rfl (by decide) hov0 (xi_in (n := 6) (by decide) (by decide)) rfl ?_
                refine xi_aload_n (pc' := 228) (x := 1000000) kc_196_227 rfl rfl ?_
                refine xi_iload (pc' := 230) (x := 0) kc_196_228 rfl rfl ?_
                refine xi_iconst (pc' := 231) (v := 3) kc_196_230 rfl rfl ?_
                refine xi_iadd (pc' := 232) (v := 3) kc_196_231 rfl rfl ?_
                refine xi_ialoadO (pc' := 233) (v := a3) kc_196_232 rfl (by decide) hov0 (xi_in (n := 6) (by decide) (by decide)) rfl ?_
                refine xi_virtual (mj := 10) (as := [.int 5, .int 4, .int a3]) (st1 := [.int 0]) (lv0 := [(0, .ref 115), (1, .int 5), (2, .int 4), (3, .int a3)]) kc_196_233 rfl rfl rfl rfl rfl ((eh2.2.1 115 (by decide)).trans ((eh1.2.1 115 (by decide)).trans (F 115 _ hl_115))) (Nat.le_of_ble_eq_true rfl) (hJ _ _ _ _ (by decide)) (xm_le ml_10 rfl) rfl ?_
                refine xi_aload_n (pc' := 1) (x := 115) kc_10_0 rfl rfl ?_
                refine xi_iconst (pc' := 2) (v := 0) kc_10_1 rfl rfl ?_
                refine xi_putfield (pc' := 5) (fs' := [.int 0, .int 0, .ref 116, .ref 117, .ref 118, .ref 119, .ref 120, .ref 121, .ref 122, .ref 123, .ref 124, .ref 125, .ref 126, .ref 127, .ref 128, .ref 129, .int 4, .ref 130, .int 0, .ref 131, .ref 132, .ref 133, .ref 134, .int 0, .ref 135, .ref 136, .ref 137, .ref 138, .ref 139, .ref 140, .ref 141, .ref 142, .int 0, .int 0, .int 0, .ref 143, .ref 144, .ref 145, .ref 146, .ref 147, .ref 148, .int 0, .ref 149, .ref 150, .ref 151, .int 0, .ref 152, .ref 153, .ref 154, .ref 155, .ref 156, .ref 157, .ref 158, .ref 159, .int 0, .ref 160, .int 0, .ref 161, .ref 162, .ref 163, .ref 164, .int 0, .ref 165, .ref 166]) kc_10_2 rfl rfl rfl ((eh2.2.1 115 (by decide)).trans ((eh1.2.1 115 (by decide)).trans (F 115 _ hl_115))) rfl rfl rfl (Nat.le_of_ble_eq_true rfl) rfl (fun hh3 eh3 => ?_)
                refine xi_iload_n (pc' := 6) (x := 5) kc_10_5 rfl rfl ?_
                refine xi_static (mj := 11) (as := [.int 5]) (st1 := []) (lv0 := [(0, .int 5)]) kc_10_6 rfl rfl (Nat.le_of_ble_eq_true rfl) rfl rfl (Nat.le_of_ble_eq_true rfl) (hJ _ _ _ _ (by decide)) (xm_le ml_11 rfl) rfl ?_
                refine xi_iload_n (pc' := 1) (x := 5) kc_11_0 rfl rfl ?_
                refine xi_iconst (pc' := 2) (v := 0) kc_11_1 rfl rfl ?_
                refine xi_iconst (pc' := 3) (v := 5) kc_11_2 rfl rfl ?_
                refine xi_static (mj := 12) (as := [.int 5, .int 0, .int 5]) (st1 := []) (lv0 := [(0, .int 5), (1, .int 0), (2, .int 5)]) kc_11_3 rfl rfl (Nat.le_of_ble_eq_true rfl) rfl rfl (Nat.le_of_ble_eq_true rfl) (hJ _ _ _ _ (by decide)) (xm_le ml_12 rfl) rfl ?_
                refine xi_iload_n (pc' := 1) (x := 5) kc_12_0 rfl rfl ?_
                refine xi_iload_n (pc' := 2) (x := 0) kc_12_1 rfl rfl ?_
                refine xi_cmf (pc' := 5) kc_12_2 rfl rfl ?_
                refine xi_iload_n (pc' := 6) (x := 5) kc_12_5 rfl rfl ?_
                refine xi_iload_n (pc' := 7) (x := 5) kc_12_6 rfl rfl ?_
                refine xi_cmf (pc' := 10) kc_12_7 rfl rfl ?_
                refine xi_iconst (pc' := 11) (v := 1) kc_12_10 rfl rfl ?_
                refine xi_goto (pc' := 15) kc_12_11 rfl ?_
                refine xi_ireturn kc_12_15 mr_12 rfl ?_
                show xw J ov 98 11 (6, [(0, .int 5)], [.int 1], hh3) _
                refine xi_ireturn kc_11_6 mr_11 rfl ?_
                show xw J ov 99 10 (9, [(0, .ref 115), (1, .int 5), (2, .int 4), (3, .int a3)], [.int 1], hh3) _
                refine xi_ift (pc' := 18) kc_10_9 rfl rfl ?_
                refine xi_iload_n (pc' := 19) (x := 4) kc_10_18 rfl rfl ?_
                refine xi_iconst (pc' := 20) (v := 0) kc_10_19 rfl rfl ?_
                refine xi_iconst (pc' := 21) (v := 5) kc_10_20 rfl rfl ?_
                refine xi_static (mj := 12) (as := [.int 4, .int 0, .int 5]) (st1 := []) (lv0 := [(0, .int 4), (1, .int 0), (2, .int 5)]) kc_10_21 rfl rfl (Nat.le_of_ble_eq_true rfl) rfl rfl (Nat.le_of_ble_eq_true rfl) (hJ _ _ _ _ (by decide)) (xm_le ml_12 rfl) rfl ?_
                refine xi_iload_n (pc' := 1) (x := 4) kc_12_0 rfl rfl ?_
                refine xi_iload_n (pc' := 2) (x := 0) kc_12_1 rfl rfl ?_
                refine xi_cmf (pc' := 5) kc_12_2 rfl rfl ?_
                refine xi_iload_n (pc' := 6) (x := 4) kc_12_5 rfl rfl ?_
                refine xi_iload_n (pc' := 7) (x := 5) kc_12_6 rfl rfl ?_
                refine xi_cmf (pc' := 10) kc_12_7 rfl rfl ?_
                refine xi_iconst (pc' := 11) (v := 1) kc_12_10 rfl rfl ?_
                refine xi_goto (pc' := 15) kc_12_11 rfl ?_
                refine xi_ireturn kc_12_15 mr_12 rfl ?_
                show xw J ov 99 10 (24, [(0, .ref 115), (1, .int 5), (2, .int 4), (3, .int a3)], [.int 1], hh3) _
                refine xi_ift (pc' := 34) kc_10_24 rfl rfl ?_
                refine xi_iload_n (pc' := 35) (x := a3) kc_10_34 rfl rfl ?_
                refine xi_iload_n (pc' := 36) (x := 4) kc_10_35 rfl rfl ?_
                refine xi_ift (pc' := 44) kc_10_36 rfl rfl ?_
                refine xi_iconst (pc' := 45) (v := 0) kc_10_44 rfl rfl ?_
                refine xi_cmt (pc' := 55) kc_10_45 rfl (xc_ge_t (X := a3.toInt) (Y := 0) rfl (by decide) (by omega)) ?_
                refine xi_iload_n (pc' := 56) (x := a3) kc_10_55 rfl rfl ?_
                refine xi_iload_n (pc' := 57) (x := 4) kc_10_56 rfl rfl ?_
                refine xi_ift (pc' := 65) kc_10_57 rfl rfl ?_
                refine xi_iload_n (pc' := 66) (x := 4) kc_10_65 rfl rfl ?_
                refine xi_iconst (pc' := 67) (v := 1) kc_10_66 rfl rfl ?_
                refine xi_cmt (pc' := 75) kc_10_67 rfl rfl ?_
                refine xi_iload_n (pc' := 76) (x := 4) kc_10_75 rfl rfl ?_
                refine xi_iconst (pc' := 77) (v := 4) kc_10_76 rfl rfl ?_
                refine xi_cmt (pc' := 85) kc_10_77 rfl rfl ?_
                refine xi_iload_n (pc' := 86) (x := 4) kc_10_85 rfl rfl ?_
                refine xi_iconst (pc' := 87) (v := 4) kc_10_86 rfl rfl ?_
                refine xi_cmf (pc' := 90) kc_10_87 rfl rfl ?_
                refine xi_iconst (pc' := 91) (v := 1) kc_10_90 rfl rfl ?_
                refine xi_goto (pc' := 96) kc_10_91 rfl ?_
                refine xi_cmt (pc' := 106) kc_10_96 rfl (xc_le_t (X := a3.toInt) (Y := 1) rfl (by decide) (by omega)) ?_
                refine xi_aload_n (pc' := 107) (x := 115) kc_10_106 rfl rfl ?_
                refine xi_iload_n (pc' := 108) (x := 5) kc_10_107 rfl rfl ?_
                refine xi_iload_n (pc' := 109) (x := 4) kc_10_108 rfl rfl ?_
                refine xi_virtual (mj := 14) (as := [.int 5, .int 4]) (st1 := []) (lv0 := [(0, .ref 115), (1, .int 5), (2, .int 4)]) kc_10_109 rfl rfl rfl rfl rfl eh3.1 (Nat.le_of_ble_eq_true rfl) (hJ _ _ _ _ (by decide)) (xm_le ml_14 rfl) rfl ?_
                refine xi_iload_n (pc' := 1) (x := 4) kc_14_0 rfl rfl ?_
                refine xi_tsi (pc' := 64) (z := 4) kc_14_1 (rfl) rfl (by decide) ?_
                refine xi_aload_n (pc' := 65) (x := 115) kc_14_64 rfl rfl ?_
                refine xi_getfield (pc' := 68) (v := .ref 120) kc_14_65 rfl rfl rfl eh3.1 rfl ?_
                refine xi_iload_n (pc' := 69) (x := 5) kc_14_68 rfl rfl ?_
                refine xi_iaload (pc' := 70) (v := 0) kc_14_69 rfl ((eh3.2.1 120 (by decide)).trans ((eh2.2.1 120 (by decide)).trans ((eh1.2.1 120 (by decide)).trans (F 120 _ hl_120)))) (by decide) rfl (xi_in (n := 6) (by decide) (by decide)) rfl ?_
                refine xi_ireturn kc_14_70 mr_14 rfl ?_
                show xw J ov 99 10 (112, [(0, .ref 115), (1, .int 5), (2, .int 4), (3, .int a3)], [.int 0], hh3) _
                refine xi_istore (pc' := 114) (lv' := [(4, .int 0), (0, .ref 115), (1, .int 5), (2, .int 4), (3, .int a3)]) kc_10_112 rfl rfl (xm_lt ml_10 rfl) ?_
                refine xi_aload_n (pc' := 115) (x := 115) kc_10_114 rfl rfl ?_
                refine xi_iload_n (pc' := 116) (x := 5) kc_10_115 rfl rfl ?_
                refine xi_iload_n (pc' := 117) (x := 4) kc_10_116 rfl rfl ?_
                refine xi_iload_n (pc' := 118) (x := a3) kc_10_117 rfl rfl ?_
                refine xi_virtual (mj := 15) (as := [.int 5, .int 4, .int a3]) (st1 := []) (lv0 := [(0, .ref 115), (1, .int 5), (2, .int 4), (3, .int a3)]) kc_10_118 rfl rfl rfl rfl rfl eh3.1 (Nat.le_of_ble_eq_true rfl) (hJ _ _ _ _ (by decide)) (xm_le ml_15 rfl) rfl ?_
                refine xi_aload_n (pc' := 1) (x := 115) kc_15_0 rfl rfl ?_
                refine xi_getfield (pc' := 4) (v := .ref 116) kc_15_1 rfl rfl rfl eh3.1 rfl ?_
                refine xi_iload_n (pc' := 5) (x := 5) kc_15_4 rfl rfl ?_
                refine xi_iload_n (pc' := 6) (x := 4) kc_15_5 rfl rfl ?_
                refine xi_ift (pc' := 13) kc_15_6 rfl rfl ?_
                refine xi_aload_n (pc' := 14) (x := 115) kc_15_13 rfl rfl ?_
                refine xi_getfield (pc' := 17) (v := .ref 116) kc_15_14 rfl rfl rfl eh3.1 rfl ?_
                refine xi_iload_n (pc' := 18) (x := 5) kc_15_17 rfl rfl ?_
                refine xi_iaload (pc' := 19) (v := 40) kc_15_18 rfl ((eh3.2.1 116 (by decide)).trans ((eh2.2.1 116 (by decide)).trans ((eh1.2.1 116 (by decide)).trans (F 116 _ hl_116)))) (by decide) rfl (xi_in (n := 6) (by decide) (by decide)) rfl ?_
                refine xi_iastore (pc' := 20) (x' := [40, 40, 40, 40, 40, 40]) kc_15_19 rfl ((eh3.2.1 116 (by decide)).trans ((eh2.2.1 116 (by decide)).trans ((eh1.2.1 116 (by decide)).trans (F 116 _ hl_116)))) rfl (xi_in (n := 6) (by decide) (by decide)) rfl (fun hh4 eh4 => ?_)
                refine xi_aload_n (pc' := 21) (x := 115) kc_15_20 rfl rfl ?_
                refine xi_getfield (pc' := 24) (v := .ref 117) kc_15_21 rfl rfl rfl ((eh4.2.1 115 (by decide)).trans eh3.1) rfl ?_
                refine xi_iload_n (pc' := 25) (x := 5) kc_15_24 rfl rfl ?_
                refine xi_iload_n (pc' := 26) (x := 4) kc_15_25 rfl rfl ?_
                refine xi_iconst (pc' := 27) (v := 1) kc_15_26 rfl rfl ?_
                refine xi_cmt (pc' := 34) kc_15_27 rfl rfl ?_
                refine xi_aload_n (pc' := 35) (x := 115) kc_15_34 rfl rfl ?_
                refine xi_getfield (pc' := 38) (v := .ref 117) kc_15_35 rfl rfl rfl ((eh4.2.1 115 (by decide)).trans eh3.1) rfl ?_
                refine xi_iload_n (pc' := 39) (x := 5) kc_15_38 rfl rfl ?_
                refine xi_iaload (pc' := 40) (v := 18) kc_15_39 rfl ((eh4.2.1 117 (by decide)).trans ((eh3.2.1 117 (by decide)).trans ((eh2.2.1 117 (by decide)).trans ((eh1.2.1 117 (by decide)).trans (F 117 _ hl_117))))) (by decide) rfl (xi_in (n := 6) (by decide) (by decide)) rfl ?_
                refine xi_iastore (pc' := 41) (x' := [18, 18, 18, 18, 18, 18]) kc_15_40 rfl ((eh4.2.1 117 (by decide)).trans ((eh3.2.1 117 (by decide)).trans ((eh2.2.1 117 (by decide)).trans ((eh1.2.1 117 (by decide)).trans (F 117 _ hl_117))))) rfl (xi_in (n := 6) (by decide) (by decide)) rfl (fun hh5 eh5 => ?_)
                refine xi_aload_n (pc' := 42) (x := 115) kc_15_41 rfl rfl ?_
                refine xi_getfield (pc' := 45) (v := .ref 118) kc_15_42 rfl rfl rfl ((eh5.2.1 115 (by decide)).trans ((eh4.2.1 115 (by decide)).trans eh3.1)) rfl ?_
                refine xi_iload_n (pc' := 46) (x := 5) kc_15_45 rfl rfl ?_
                refine xi_iload_n (pc' := 47) (x := 4) kc_15_46 rfl rfl ?_
                refine xi_iconst (pc' := 48) (v := 2) kc_15_47 rfl rfl ?_
                refine xi_cmt (pc' := 55) kc_15_48 rfl rfl ?_
                refine xi_aload_n (pc' := 56) (x := 115) kc_15_55 rfl rfl ?_
                refine xi_getfield (pc' := 59) (v := .ref 118) kc_15_56 rfl rfl rfl ((eh5.2.1 115 (by decide)).trans ((eh4.2.1 115 (by decide)).trans eh3.1)) rfl ?_
                refine xi_iload_n (pc' := 60) (x := 5) kc_15_59 rfl rfl ?_
                refine xi_iaload (pc' := 61) (v := 10) kc_15_60 rfl ((eh5.2.1 118 (by decide)).trans ((eh4.2.1 118 (by decide)).trans ((eh3.2.1 118 (by decide)).trans ((eh2.2.1 118 (by decide)).trans ((eh1.2.1 118 (by decide)).trans (F 118 _ hl_118)))))) (by decide) rfl (xi_in (n := 6) (by decide) (by decide)) rfl ?_
                refine xi_iastore (pc' := 62) (x' := [10, 10, 10, 10, 10, 10]) kc_15_61 rfl ((eh5.2.1 118 (by decide)).trans ((eh4.2.1 118 (by decide)).trans ((eh3.2.1 118 (by decide)).trans ((eh2.2.1 118 (by decide)).trans ((eh1.2.1 118 (by decide)).trans (F 118 _ hl_118)))))) rfl (xi_in (n := 6) (by decide) (by decide)) rfl (fun hh6 eh6 => ?_)
                refine xi_aload_n (pc' := 63) (x := 115) kc_15_62 rfl rfl ?_
                refine xi_getfield (pc' := 66) (v := .ref 119) kc_15_63 rfl rfl rfl ((eh6.2.1 115 (by decide)).trans ((eh5.2.1 115 (by decide)).trans ((eh4.2.1 115 (by decide)).trans eh3.1))) rfl ?_
                refine xi_iload_n (pc' := 67) (x := 5) kc_15_66 rfl rfl ?_
                refine xi_iload_n (pc' := 68) (x := 4) kc_15_67 rfl rfl ?_
                refine xi_iconst (pc' := 69) (v := 3) kc_15_68 rfl rfl ?_
                refine xi_cmt (pc' := 76) kc_15_69 rfl rfl ?_
                refine xi_aload_n (pc' := 77) (x := 115) kc_15_76 rfl rfl ?_
                refine xi_getfield (pc' := 80) (v := .ref 119) kc_15_77 rfl rfl rfl ((eh6.2.1 115 (by decide)).trans ((eh5.2.1 115 (by decide)).trans ((eh4.2.1 115 (by decide)).trans eh3.1))) rfl ?_
                refine xi_iload_n (pc' := 81) (x := 5) kc_15_80 rfl rfl ?_
                refine xi_iaload (pc' := 82) (v := 0) kc_15_81 rfl ((eh6.2.1 119 (by decide)).trans ((eh5.2.1 119 (by decide)).trans ((eh4.2.1 119 (by decide)).trans ((eh3.2.1 119 (by decide)).trans ((eh2.2.1 119 (by decide)).trans ((eh1.2.1 119 (by decide)).trans (F 119 _ hl_119))))))) (by decide) rfl (xi_in (n := 6) (by decide) (by decide)) rfl ?_
                refine xi_iastore (pc' := 83) (x' := [0, 0, 0, 0, 0, 0]) kc_15_82 rfl ((eh6.2.1 119 (by decide)).trans ((eh5.2.1 119 (by decide)).trans ((eh4.2.1 119 (by decide)).trans ((eh3.2.1 119 (by decide)).trans ((eh2.2.1 119 (by decide)).trans ((eh1.2.1 119 (by decide)).trans (F 119 _ hl_119))))))) rfl (xi_in (n := 6) (by decide) (by decide)) rfl (fun hh7 eh7 => ?_)
                refine xi_aload_n (pc' := 84) (x := 115) kc_15_83 rfl rfl ?_
                refine xi_getfield (pc' := 87) (v := .ref 120) kc_15_84 rfl rfl rfl ((eh7.2.1 115 (by decide)).trans ((eh6.2.1 115 (by decide)).trans ((eh5.2.1 115 (by decide)).trans ((eh4.2.1 115 (by decide)).trans eh3.1)))) rfl ?_
                refine xi_iload_n (pc' := 88) (x := 5) kc_15_87 rfl rfl ?_
                refine xi_iload_n (pc' := 89) (x := 4) kc_15_88 rfl rfl ?_
                refine xi_iconst (pc' := 90) (v := 4) kc_15_89 rfl rfl ?_
                refine xi_cmf (pc' := 93) kc_15_90 rfl rfl ?_
                refine xi_iload_n (pc' := 94) (x := a3) kc_15_93 rfl rfl ?_
                refine xi_goto (pc' := 103) kc_15_94 rfl ?_
                refine xi_iastore (pc' := 104) (x' := [0, 0, 0, 0, 0, a3]) kc_15_103 rfl ((eh7.2.1 120 (by decide)).trans ((eh6.2.1 120 (by decide)).trans ((eh5.2.1 120 (by decide)).trans ((eh4.2.1 120 (by decide)).trans ((eh3.2.1 120 (by decide)).trans ((eh2.2.1 120 (by decide)).trans ((eh1.2.1 120 (by decide)).trans (F 120 _ hl_120)))))))) rfl (xi_in (n := 6) (by decide) (by decide)) rfl (fun hh8 eh8 => ?_)
                refine xi_aload_n (pc' := 105) (x := 115) kc_15_104 rfl rfl ?_
                refine xi_getfield (pc' := 108) (v := .ref 121) kc_15_105 rfl rfl rfl ((eh8.2.1 115 (by decide)).trans ((eh7.2.1 115 (by decide)).trans ((eh6.2.1 115 (by decide)).trans ((eh5.2.1 115 (by decide)).trans ((eh4.2.1 115 (by decide)).trans eh3.1))))) rfl ?_
                refine xi_iload_n (pc' := 109) (x := 5) kc_15_108 rfl rfl ?_
                refine xi_iload_n (pc' := 110) (x := 4) kc_15_109 rfl rfl ?_
                refine xi_iconst (pc' := 111) (v := 5) kc_15_110 rfl rfl ?_
                refine xi_cmt (pc' := 118) kc_15_111 rfl rfl ?_
                refine xi_aload_n (pc' := 119) (x := 115) kc_15_118 rfl rfl ?_
                refine xi_getfield (pc' := 122) (v := .ref 121) kc_15_119 rfl rfl rfl ((eh8.2.1 115 (by decide)).trans ((eh7.2.1 115 (by decide)).trans ((eh6.2.1 115 (by decide)).trans ((eh5.2.1 115 (by decide)).trans ((eh4.2.1 115 (by decide)).trans eh3.1))))) rfl ?_
                refine xi_iload_n (pc' := 123) (x := 5) kc_15_122 rfl rfl ?_
                refine xi_iaload (pc' := 124) (v := 0) kc_15_123 rfl ((eh8.2.1 121 (by decide)).trans ((eh7.2.1 121 (by decide)).trans ((eh6.2.1 121 (by decide)).trans ((eh5.2.1 121 (by decide)).trans ((eh4.2.1 121 (by decide)).trans ((eh3.2.1 121 (by decide)).trans ((eh2.2.1 121 (by decide)).trans ((eh1.2.1 121 (by decide)).trans (F 121 _ hl_121))))))))) (by decide) rfl (xi_in (n := 6) (by decide) (by decide)) rfl ?_
                refine xi_iastore (pc' := 125) (x' := [0, 0, 0, 0, 0, 0]) kc_15_124 rfl ((eh8.2.1 121 (by decide)).trans ((eh7.2.1 121 (by decide)).trans ((eh6.2.1 121 (by decide)).trans ((eh5.2.1 121 (by decide)).trans ((eh4.2.1 121 (by decide)).trans ((eh3.2.1 121 (by decide)).trans ((eh2.2.1 121 (by decide)).trans ((eh1.2.1 121 (by decide)).trans (F 121 _ hl_121))))))))) rfl (xi_in (n := 6) (by decide) (by decide)) rfl (fun hh9 eh9 => ?_)
                refine xi_aload_n (pc' := 126) (x := 115) kc_15_125 rfl rfl ?_
                refine xi_iconst (pc' := 127) (v := 0) kc_15_126 rfl rfl ?_
                refine xi_putfield (pc' := 130) (fs' := [.int 0, .int 0, .ref 116, .ref 117, .ref 118, .ref 119, .ref 120, .ref 121, .ref 122, .ref 123, .ref 124, .ref 125, .ref 126, .ref 127, .ref 128, .ref 129, .int 4, .ref 130, .int 0, .ref 131, .ref 132, .ref 133, .ref 134, .int 0, .ref 135, .ref 136, .ref 137, .ref 138, .ref 139, .ref 140, .ref 141, .ref 142, .int 0, .int 0, .int 0, .ref 143, .ref 144, .ref 145, .ref 146, .ref 147, .ref 148, .int 0, .ref 149, .ref 150, .ref 151, .int 0, .ref 152, .ref 153, .ref 154, .ref 155, .ref 156, .ref 157, .ref 158, .ref 159, .int 0, .ref 160, .int 0, .ref 161, .ref 162, .ref 163, .ref 164, .int 0, .ref 165, .ref 166]) kc_15_127 rfl rfl rfl ((eh9.2.1 115 (by decide)).trans ((eh8.2.1 115 (by decide)).trans ((eh7.2.1 115 (by decide)).trans ((eh6.2.1 115 (by decide)).trans ((eh5.2.1 115 (by decide)).trans ((eh4.2.1 115 (by decide)).trans eh3.1)))))) rfl rfl rfl (Nat.le_of_ble_eq_true rfl) rfl (fun hh10 eh10 => ?_)
                refine xi_return kc_15_130 mr_15 ?_
                show xw J ov 99 10 (121, [(4, .int 0), (0, .ref 115), (1, .int 5), (2, .int 4), (3, .int a3)], [], hh10) _
                refine xi_iload (pc' := 123) (x := 0) kc_10_121 rfl rfl ?_
                refine xi_ireturn kc_10_123 mr_10 rfl ?_
                show xw J ov 100 196 (236, [(4, .int 0), (3, .ref 167), (2, .ref 115), (1, .ref 0), (0, .ref 1000000)], [.int 0, .int 0], hh10) _
                refine xi_cmt (pc' := 1528) kc_196_236 rfl rfl ?_
                refine xi_iinc (pc' := 1531) (x := 0) (v := 6) (lv' := [(4, .int 6), (3, .ref 167), (2, .ref 115), (1, .ref 0), (0, .ref 1000000)]) kc_196_1528 rfl rfl rfl rfl (xm_lt ml_196 rfl) ?_
                refine xi_goto (pc' := 23) kc_196_1531 rfl ?_
                refine xi_iload (pc' := 25) (x := 6) kc_196_23 rfl rfl ?_
                refine xi_aload_n (pc' := 26) (x := 1000000) kc_196_25 rfl rfl ?_
                refine xi_arraylength (pc' := 27) (n := 6) (v := 6) kc_196_26 rfl (xl_lenO (by decide) hov0 rfl) rfl ?_
                refine xi_bipush (pc' := 29) (v := 6) kc_196_27 rfl rfl ?_
                refine xi_isub (pc' := 30) (v := 0) kc_196_29 rfl rfl ?_
                refine xi_cmt (pc' := 1534) kc_196_30 rfl rfl ?_
                refine xi_iconst (pc' := 1535) (v := 1) kc_196_1534 rfl rfl ?_
                refine xi_ireturn kc_196_1535 mr_196 rfl ?_
                refine ⟨rfl, ?_, ?_⟩
                · rw [eh10.2.2.1, eh9.2.2.1, eh8.2.2.1, eh7.2.2.1, eh6.2.2.1, eh5.2.2.1, eh4.2.2.1, eh3.2.2.1, eh2.2.2.1, eh1.2.2.1]; exact hn0
                · rw [eh10.2.2.2, eh9.2.2.2, eh8.2.2.2, eh7.2.2.2, eh6.2.2.2, eh5.2.2.2, eh4.2.2.2, eh3.2.2.2, eh2.2.2.2, eh1.2.2.2]; exact hz0
              · refine xi_cmf (pc' := 54) kc_89_51 rfl (xc_le_f (X := a3.toInt) (Y := 1) rfl (by decide) (by omega)) ?_
                refine xi_aload_n (pc' := 55) (x := 0) kc_89_54 rfl rfl ?_
                refine xi_bipush (pc' := 57) (v := (-6)) kc_89_55 rfl rfl ?_
                refine xi_virtual (mj := 91) (as := [.int (-6)]) (st1 := []) (lv0 := [(0, .ref 0), (1, .int (-6))]) kc_89_57 rfl rfl rfl rfl rfl (F 0 _ hl_0) (Nat.le_of_ble_eq_true rfl) (hJ _ _ _ _ (by decide)) (xm_le ml_91 rfl) rfl ?_
                refine xi_iload_n (pc' := 1) (x := (-6)) kc_91_0 rfl rfl ?_
                refine xi_ineg (pc' := 2) (v := 6) kc_91_1 rfl rfl ?_
                refine xi_istore_n (pc' := 3) (lv' := [(2, .int 6), (0, .ref 0), (1, .int (-6))]) kc_91_2 rfl rfl (xm_lt ml_91 rfl) ?_
                refine xi_iload_n (pc' := 4) (x := 6) kc_91_3 rfl rfl ?_
                refine xi_iff (pc' := 7) kc_91_4 rfl rfl ?_
                refine xi_iload_n (pc' := 8) (x := 6) kc_91_7 rfl rfl ?_
                refine xi_aload_n (pc' := 9) (x := 0) kc_91_8 rfl rfl ?_
                refine xi_getfield (pc' := 12) (v := .ref 94) kc_91_9 rfl rfl rfl (F 0 _ hl_0) rfl ?_
                refine xi_arraylength (pc' := 13) (n := 7) (v := 7) kc_91_12 rfl (xl_lenI (by decide) (by decide) (F 94 _ hl_94) (by simp only [List.length_replicate, List.length_cons, List.length_nil])) rfl ?_
                refine xi_cmf (pc' := 16) kc_91_13 rfl rfl ?_
                refine xi_aload_n (pc' := 17) (x := 0) kc_91_16 rfl rfl ?_
                refine xi_getfield (pc' := 20) (v := .ref 94) kc_91_17 rfl rfl rfl (F 0 _ hl_0) rfl ?_
                refine xi_iload_n (pc' := 21) (x := 6) kc_91_20 rfl rfl ?_
                refine xi_dup2 (pc' := 22) kc_91_21 rfl ⟨rfl, rfl⟩ ?_
                refine xi_iaload (pc' := 23) (v := 0) kc_91_22 rfl (F 94 _ hl_94) (by decide) rfl (xi_in (n := 7) (by decide) (by decide)) rfl ?_
                refine xi_iconst (pc' := 24) (v := 1) kc_91_23 rfl rfl ?_
                refine xi_iadd (pc' := 25) (v := 1) kc_91_24 rfl rfl ?_
                refine xi_iastore (pc' := 26) (x' := [0, 0, 0, 0, 0, 0, 1]) kc_91_25 rfl (F 94 _ hl_94) rfl (xi_in (n := 7) (by decide) (by decide)) rfl (fun hh1 eh1 => ?_)
                refine xi_iload_n (pc' := 27) (x := (-6)) kc_91_26 rfl rfl ?_
                refine xi_ireturn kc_91_27 mr_91 rfl ?_
                show xw J ov 99 89 (60, [(0, .ref 0), (1, .int a1), (2, .int 4), (3, .int a3)], [.int (-6)], hh1) _
                refine xi_ireturn kc_89_60 mr_89 rfl ?_
                show xw J ov 100 196 (214, [(4, .int 0), (3, .ref 167), (2, .ref 115), (1, .ref 0), (0, .ref 1000000)], [.int (-6)], hh1) _
                refine xi_aload_n (pc' := 215) (x := 115) kc_196_214 rfl rfl ?_
                refine xi_aload_n (pc' := 216) (x := 1000000) kc_196_215 rfl rfl ?_
                refine xi_iload (pc' := 218) (x := 0) kc_196_216 rfl rfl ?_
                refine xi_iconst (pc' := 219) (v := 1) kc_196_218 rfl rfl ?_
                refine xi_iadd (pc' := 220) (v := 1) kc_196_219 rfl rfl ?_
                refine xi_ialoadO (pc' := 221) (v := a1) kc_196_220 rfl (by decide) hov0 (xi_in (n := 6) (by decide) (by decide)) rfl ?_
                refine xi_aload_n (pc' := 222) (x := 1000000) kc_196_221 rfl rfl ?_
                refine xi_iload (pc' := 224) (x := 0) kc_196_222 rfl rfl ?_
                refine xi_iconst (pc' := 225) (v := 2) kc_196_224 rfl rfl ?_
                refine xi_iadd (pc' := 226) (v := 2) kc_196_225 rfl rfl ?_
                refine xi_ialoadO (pc' := 227) (v := 4) kc_196_226 rfl (by decide) hov0 (xi_in (n := 6) (by decide) (by decide)) rfl ?_
                refine xi_aload_n (pc' := 228) (x := 1000000) kc_196_227 rfl rfl ?_
                refine xi_iload (pc' := 230) (x := 0) kc_196_228 rfl rfl ?_
                refine xi_iconst (pc' := 231) (v := 3) kc_196_230 rfl rfl ?_
                refine xi_iadd (pc' := 232) (v := 3) kc_196_231 rfl rfl ?_
                refine xi_ialoadO (pc' := 233) (v := a3) kc_196_232 rfl (by decide) hov0 (xi_in (n := 6) (by decide) (by decide)) rfl ?_
                refine xi_virtual (mj := 10) (as := [.int a1, .int 4, .int a3]) (st1 := [.int (-6)]) (lv0 := [(0, .ref 115), (1, .int a1), (2, .int 4), (3, .int a3)]) kc_196_233 rfl rfl rfl rfl rfl ((eh1.2.1 115 (by decide)).trans (F 115 _ hl_115)) (Nat.le_of_ble_eq_true rfl) (hJ _ _ _ _ (by decide)) (xm_le ml_10 rfl) rfl ?_
                refine xi_aload_n (pc' := 1) (x := 115) kc_10_0 rfl rfl ?_
                refine xi_iconst (pc' := 2) (v := 0) kc_10_1 rfl rfl ?_
                refine xi_putfield (pc' := 5) (fs' := [.int 0, .int 0, .ref 116, .ref 117, .ref 118, .ref 119, .ref 120, .ref 121, .ref 122, .ref 123, .ref 124, .ref 125, .ref 126, .ref 127, .ref 128, .ref 129, .int 4, .ref 130, .int 0, .ref 131, .ref 132, .ref 133, .ref 134, .int 0, .ref 135, .ref 136, .ref 137, .ref 138, .ref 139, .ref 140, .ref 141, .ref 142, .int 0, .int 0, .int 0, .ref 143, .ref 144, .ref 145, .ref 146, .ref 147, .ref 148, .int 0, .ref 149, .ref 150, .ref 151, .int 0, .ref 152, .ref 153, .ref 154, .ref 155, .ref 156, .ref 157, .ref 158, .ref 159, .int 0, .ref 160, .int 0, .ref 161, .ref 162, .ref 163, .ref 164, .int 0, .ref 165, .ref 166]) kc_10_2 rfl rfl rfl ((eh1.2.1 115 (by decide)).trans (F 115 _ hl_115)) rfl rfl rfl (Nat.le_of_ble_eq_true rfl) rfl (fun hh2 eh2 => ?_)
                refine xi_iload_n (pc' := 6) (x := a1) kc_10_5 rfl rfl ?_
                refine xi_static (mj := 11) (as := [.int a1]) (st1 := []) (lv0 := [(0, .int a1)]) kc_10_6 rfl rfl (Nat.le_of_ble_eq_true rfl) rfl rfl (Nat.le_of_ble_eq_true rfl) (hJ _ _ _ _ (by decide)) (xm_le ml_11 rfl) rfl ?_
                refine xi_iload_n (pc' := 1) (x := a1) kc_11_0 rfl rfl ?_
                refine xi_iconst (pc' := 2) (v := 0) kc_11_1 rfl rfl ?_
                refine xi_iconst (pc' := 3) (v := 5) kc_11_2 rfl rfl ?_
                refine xi_static (mj := 12) (as := [.int a1, .int 0, .int 5]) (st1 := []) (lv0 := [(0, .int a1), (1, .int 0), (2, .int 5)]) kc_11_3 rfl rfl (Nat.le_of_ble_eq_true rfl) rfl rfl (Nat.le_of_ble_eq_true rfl) (hJ _ _ _ _ (by decide)) (xm_le ml_12 rfl) rfl ?_
                refine xi_iload_n (pc' := 1) (x := a1) kc_12_0 rfl rfl ?_
                refine xi_iload_n (pc' := 2) (x := 0) kc_12_1 rfl rfl ?_
                refine xi_cmf (pc' := 5) kc_12_2 rfl (xc_lt_f (X := a1.toInt) (Y := 0) rfl (by decide) (by omega)) ?_
                refine xi_iload_n (pc' := 6) (x := a1) kc_12_5 rfl rfl ?_
                refine xi_iload_n (pc' := 7) (x := 5) kc_12_6 rfl rfl ?_
                refine xi_cmf (pc' := 10) kc_12_7 rfl (xc_gt_f (X := a1.toInt) (Y := 5) rfl (by decide) (by omega)) ?_
                refine xi_iconst (pc' := 11) (v := 1) kc_12_10 rfl rfl ?_
                refine xi_goto (pc' := 15) kc_12_11 rfl ?_
                refine xi_ireturn kc_12_15 mr_12 rfl ?_
                show xw J ov 98 11 (6, [(0, .int a1)], [.int 1], hh2) _
                refine xi_ireturn kc_11_6 mr_11 rfl ?_
                show xw J ov 99 10 (9, [(0, .ref 115), (1, .int a1), (2, .int 4), (3, .int a3)], [.int 1], hh2) _
                refine xi_ift (pc' := 18) kc_10_9 rfl rfl ?_
                refine xi_iload_n (pc' := 19) (x := 4) kc_10_18 rfl rfl ?_
                refine xi_iconst (pc' := 20) (v := 0) kc_10_19 rfl rfl ?_
                refine xi_iconst (pc' := 21) (v := 5) kc_10_20 rfl rfl ?_
                refine xi_static (mj := 12) (as := [.int 4, .int 0, .int 5]) (st1 := []) (lv0 := [(0, .int 4), (1, .int 0), (2, .int 5)]) kc_10_21 rfl rfl (Nat.le_of_ble_eq_true rfl) rfl rfl (Nat.le_of_ble_eq_true rfl) (hJ _ _ _ _ (by decide)) (xm_le ml_12 rfl) rfl ?_
                refine xi_iload_n (pc' := 1) (x := 4) kc_12_0 rfl rfl ?_
                refine xi_iload_n (pc' := 2) (x := 0) kc_12_1 rfl rfl ?_
                refine xi_cmf (pc' := 5) kc_12_2 rfl rfl ?_
                refine xi_iload_n (pc' := 6) (x := 4) kc_12_5 rfl rfl ?_
                refine xi_iload_n (pc' := 7) (x := 5) kc_12_6 rfl rfl ?_
                refine xi_cmf (pc' := 10) kc_12_7 rfl rfl ?_
                refine xi_iconst (pc' := 11) (v := 1) kc_12_10 rfl rfl ?_
                refine xi_goto (pc' := 15) kc_12_11 rfl ?_
                refine xi_ireturn kc_12_15 mr_12 rfl ?_
                show xw J ov 99 10 (24, [(0, .ref 115), (1, .int a1), (2, .int 4), (3, .int a3)], [.int 1], hh2) _
                refine xi_ift (pc' := 34) kc_10_24 rfl rfl ?_
                refine xi_iload_n (pc' := 35) (x := a3) kc_10_34 rfl rfl ?_
                refine xi_iload_n (pc' := 36) (x := 4) kc_10_35 rfl rfl ?_
                refine xi_ift (pc' := 44) kc_10_36 rfl rfl ?_
                refine xi_iconst (pc' := 45) (v := 0) kc_10_44 rfl rfl ?_
                refine xi_cmt (pc' := 55) kc_10_45 rfl (xc_ge_t (X := a3.toInt) (Y := 0) rfl (by decide) (by omega)) ?_
                refine xi_iload_n (pc' := 56) (x := a3) kc_10_55 rfl rfl ?_
                refine xi_iload_n (pc' := 57) (x := 4) kc_10_56 rfl rfl ?_
                refine xi_ift (pc' := 65) kc_10_57 rfl rfl ?_
                refine xi_iload_n (pc' := 66) (x := 4) kc_10_65 rfl rfl ?_
                refine xi_iconst (pc' := 67) (v := 1) kc_10_66 rfl rfl ?_
                refine xi_cmt (pc' := 75) kc_10_67 rfl rfl ?_
                refine xi_iload_n (pc' := 76) (x := 4) kc_10_75 rfl rfl ?_
                refine xi_iconst (pc' := 77) (v := 4) kc_10_76 rfl rfl ?_
                refine xi_cmt (pc' := 85) kc_10_77 rfl rfl ?_
                refine xi_iload_n (pc' := 86) (x := 4) kc_10_85 rfl rfl ?_
                refine xi_iconst (pc' := 87) (v := 4) kc_10_86 rfl rfl ?_
                refine xi_cmf (pc' := 90) kc_10_87 rfl rfl ?_
                refine xi_iconst (pc' := 91) (v := 1) kc_10_90 rfl rfl ?_
                refine xi_goto (pc' := 96) kc_10_91 rfl ?_
                refine xi_cmf (pc' := 99) kc_10_96 rfl (xc_le_f (X := a3.toInt) (Y := 1) rfl (by decide) (by omega)) ?_
                refine xi_aload_n (pc' := 100) (x := 115) kc_10_99 rfl rfl ?_
                refine xi_bipush (pc' := 102) (v := (-6)) kc_10_100 rfl rfl ?_
                refine xi_virtual (mj := 13) (as := [.int (-6)]) (st1 := []) (lv0 := [(0, .ref 115), (1, .int (-6))]) kc_10_102 rfl rfl rfl rfl rfl eh2.1 (Nat.le_of_ble_eq_true rfl) (hJ _ _ _ _ (by decide)) (xm_le ml_13 rfl) rfl ?_
                refine xi_aload_n (pc' := 1) (x := 115) kc_13_0 rfl rfl ?_
                refine xi_getfield (pc' := 4) (v := .ref 140) kc_13_1 rfl rfl rfl eh2.1 rfl ?_
                refine xi_iload_n (pc' := 5) (x := (-6)) kc_13_4 rfl rfl ?_
                refine xi_ineg (pc' := 6) (v := 6) kc_13_5 rfl rfl ?_
                refine xi_dup2 (pc' := 7) kc_13_6 rfl ⟨rfl, rfl⟩ ?_
                refine xi_iaload (pc' := 8) (v := 0) kc_13_7 rfl ((eh2.2.1 140 (by decide)).trans ((eh1.2.1 140 (by decide)).trans (F 140 _ hl_140))) (by decide) rfl (xi_in (n := 7) (by decide) (by decide)) rfl ?_
                refine xi_iconst (pc' := 9) (v := 1) kc_13_8 rfl rfl ?_
                refine xi_iadd (pc' := 10) (v := 1) kc_13_9 rfl rfl ?_
                refine xi_iastore (pc' := 11) (x' := [0, 0, 0, 0, 0, 0, 1]) kc_13_10 rfl ((eh2.2.1 140 (by decide)).trans ((eh1.2.1 140 (by decide)).trans (F 140 _ hl_140))) rfl (xi_in (n := 7) (by decide) (by decide)) rfl (fun hh3 eh3 => ?_)
                refine xi_iload_n (pc' := 12) (x := (-6)) kc_13_11 rfl rfl ?_
                refine xi_ireturn kc_13_12 mr_13 rfl ?_
                show xw J ov 99 10 (105, [(0, .ref 115), (1, .int a1), (2, .int 4), (3, .int a3)], [.int (-6)], hh3) _
                refine xi_ireturn kc_10_105 mr_10 rfl ?_
                show xw J ov 100 196 (236, [(4, .int 0), (3, .ref 167), (2, .ref 115), (1, .ref 0), (0, .ref 1000000)], [.int (-6), .int (-6)], hh3) _
                refine xi_cmt (pc' := 1528) kc_196_236 rfl rfl ?_
                refine xi_iinc (pc' := 1531) (x := 0) (v := 6) (lv' := [(4, .int 6), (3, .ref 167), (2, .ref 115), (1, .ref 0), (0, .ref 1000000)]) kc_196_1528 rfl rfl rfl rfl (xm_lt ml_196 rfl) ?_
                refine xi_goto (pc' := 23) kc_196_1531 rfl ?_
                refine xi_iload (pc' := 25) (x := 6) kc_196_23 rfl rfl ?_
                refine xi_aload_n (pc' := 26) (x := 1000000) kc_196_25 rfl rfl ?_
                refine xi_arraylength (pc' := 27) (n := 6) (v := 6) kc_196_26 rfl (xl_lenO (by decide) hov0 rfl) rfl ?_
                refine xi_bipush (pc' := 29) (v := 6) kc_196_27 rfl rfl ?_
                refine xi_isub (pc' := 30) (v := 0) kc_196_29 rfl rfl ?_
                refine xi_cmt (pc' := 1534) kc_196_30 rfl rfl ?_
                refine xi_iconst (pc' := 1535) (v := 1) kc_196_1534 rfl rfl ?_
                refine xi_ireturn kc_196_1535 mr_196 rfl ?_
                refine ⟨rfl, ?_, ?_⟩
                · rw [eh3.2.2.1, eh2.2.2.1, eh1.2.2.1]; exact hn0
                · rw [eh3.2.2.2, eh2.2.2.2, eh1.2.2.2]; exact hz0
            · refine xi_cmf (pc' := 38) kc_89_35 rfl (xc_ge_f (X := a3.toInt) (Y := 0) rfl (by decide) (by omega)) ?_
              refine xi_aload_n (pc' := 39) (x := 0) kc_89_38 rfl rfl ?_
              refine xi_bipush (pc' := 41) (v := (-4)) kc_89_39 rfl rfl ?_
              refine xi_virtual (mj := 91) (as := [.int (-4)]) (st1 := []) (lv0 := [(0, .ref 0), (1, .int (-4))]) kc_89_41 rfl rfl rfl rfl rfl (F 0 _ hl_0) (Nat.le_of_ble_eq_true rfl) (hJ _ _ _ _ (by decide)) (xm_le ml_91 rfl) rfl ?_
              refine xi_iload_n (pc' := 1) (x := (-4)) kc_91_0 rfl rfl ?_
              refine xi_ineg (pc' := 2) (v := 4) kc_91_1 rfl rfl ?_
              refine xi_istore_n (pc' := 3) (lv' := [(2, .int 4), (0, .ref 0), (1, .int (-4))]) kc_91_2 rfl rfl (xm_lt ml_91 rfl) ?_
              refine xi_iload_n (pc' := 4) (x := 4) kc_91_3 rfl rfl ?_
              refine xi_iff (pc' := 7) kc_91_4 rfl rfl ?_
              refine xi_iload_n (pc' := 8) (x := 4) kc_91_7 rfl rfl ?_
              refine xi_aload_n (pc' := 9) (x := 0) kc_91_8 rfl rfl ?_
              refine xi_getfield (pc' := 12) (v := .ref 94) kc_91_9 rfl rfl rfl (F 0 _ hl_0) rfl ?_
              refine xi_arraylength (pc' := 13) (n := 7) (v := 7) kc_91_12 rfl (xl_lenI (by decide) (by decide) (F 94 _ hl_94) (by simp only [List.length_replicate, List.length_cons, List.length_nil])) rfl ?_
              refine xi_cmf (pc' := 16) kc_91_13 rfl rfl ?_
              refine xi_aload_n (pc' := 17) (x := 0) kc_91_16 rfl rfl ?_
              refine xi_getfield (pc' := 20) (v := .ref 94) kc_91_17 rfl rfl rfl (F 0 _ hl_0) rfl ?_
              refine xi_iload_n (pc' := 21) (x := 4) kc_91_20 rfl rfl ?_
              refine xi_dup2 (pc' := 22) kc_91_21 rfl ⟨rfl, rfl⟩ ?_
              refine xi_iaload (pc' := 23) (v := 0) kc_91_22 rfl (F 94 _ hl_94) (by decide) rfl (xi_in (n := 7) (by decide) (by decide)) rfl ?_
              refine xi_iconst (pc' := 24) (v := 1) kc_91_23 rfl rfl ?_
              refine xi_iadd (pc' := 25) (v := 1) kc_91_24 rfl rfl ?_
              refine xi_iastore (pc' := 26) (x' := [0, 0, 0, 0, 1, 0, 0]) kc_91_25 rfl (F 94 _ hl_94) rfl (xi_in (n := 7) (by decide) (by decide)) rfl (fun hh1 eh1 => ?_)
              refine xi_iload_n (pc' := 27) (x := (-4)) kc_91_26 rfl rfl ?_
              refine xi_ireturn kc_91_27 mr_91 rfl ?_
              show xw J ov 99 89 (44, [(0, .ref 0), (1, .int a1), (2, .int 4), (3, .int a3)], [.int (-4)], hh1) _
              refine xi_ireturn kc_89_44 mr_89 rfl ?_
              show xw J ov 100 196 (214, [(4, .int 0), (3, .ref 167), (2, .ref 115), (1, .ref 0), (0, .ref 1000000)], [.int (-4)], hh1) _
              refine xi_aload_n (pc' := 215) (x := 115) kc_196_214 rfl rfl ?_
              refine xi_aload_n (pc' := 216) (x := 1000000) kc_196_215 rfl rfl ?_
              refine xi_iload (pc' := 218) (x := 0) kc_196_216 rfl rfl ?_
              refine xi_iconst (pc' := 219) (v := 1) kc_196_218 rfl rfl ?_
              refine xi_iadd (pc' := 220) (v := 1) kc_196_219 rfl rfl ?_
              refine xi_ialoadO (pc' := 221) (v := a1) kc_196_220 rfl (by decide) hov0 (xi_in (n := 6) (by decide) (by decide)) rfl ?_
              refine xi_aload_n (pc' := 222) (x := 1000000) kc_196_221 rfl rfl ?_
              refine xi_iload (pc' := 224) (x := 0) kc_196_222 rfl rfl ?_
              refine xi_iconst (pc' := 225) (v := 2) kc_196_224 rfl rfl ?_
              refine xi_iadd (pc' := 226) (v := 2) kc_196_225 rfl rfl ?_
              refine xi_ialoadO (pc' := 227) (v := 4) kc_196_226 rfl (by decide) hov0 (xi_in (n := 6) (by decide) (by decide)) rfl ?_
              refine xi_aload_n (pc' := 228) (x := 1000000) kc_196_227 rfl rfl ?_
              refine xi_iload (pc' := 230) (x := 0) kc_196_228 rfl rfl ?_
              refine xi_iconst (pc' := 231) (v := 3) kc_196_230 rfl rfl ?_
              refine xi_iadd (pc' := 232) (v := 3) kc_196_231 rfl rfl ?_
              refine xi_ialoadO (pc' := 233) (v := a3) kc_196_232 rfl (by decide) hov0 (xi_in (n := 6) (by decide) (by decide)) rfl ?_
              refine xi_virtual (mj := 10) (as := [.int a1, .int 4, .int a3]) (st1 := [.int (-4)]) (lv0 := [(0, .ref 115), (1, .int a1), (2, .int 4), (3, .int a3)]) kc_196_233 rfl rfl rfl rfl rfl ((eh1.2.1 115 (by decide)).trans (F 115 _ hl_115)) (Nat.le_of_ble_eq_true rfl) (hJ _ _ _ _ (by decide)) (xm_le ml_10 rfl) rfl ?_
              refine xi_aload_n (pc' := 1) (x := 115) kc_10_0 rfl rfl ?_
              refine xi_iconst (pc' := 2) (v := 0) kc_10_1 rfl rfl ?_
              refine xi_putfield (pc' := 5) (fs' := [.int 0, .int 0, .ref 116, .ref 117, .ref 118, .ref 119, .ref 120, .ref 121, .ref 122, .ref 123, .ref 124, .ref 125, .ref 126, .ref 127, .ref 128, .ref 129, .int 4, .ref 130, .int 0, .ref 131, .ref 132, .ref 133, .ref 134, .int 0, .ref 135, .ref 136, .ref 137, .ref 138, .ref 139, .ref 140, .ref 141, .ref 142, .int 0, .int 0, .int 0, .ref 143, .ref 144, .ref 145, .ref 146, .ref 147, .ref 148, .int 0, .ref 149, .ref 150, .ref 151, .int 0, .ref 152, .ref 153, .ref 154, .ref 155, .ref 156, .ref 157, .ref 158, .ref 159, .int 0, .ref 160, .int 0, .ref 161, .ref 162, .ref 163, .ref 164, .int 0, .ref 165, .ref 166]) kc_10_2 rfl rfl rfl ((eh1.2.1 115 (by decide)).trans (F 115 _ hl_115)) rfl rfl rfl (Nat.le_of_ble_eq_true rfl) rfl (fun hh2 eh2 => ?_)
              refine xi_iload_n (pc' := 6) (x := a1) kc_10_5 rfl rfl ?_
              refine xi_static (mj := 11) (as := [.int a1]) (st1 := []) (lv0 := [(0, .int a1)]) kc_10_6 rfl rfl (Nat.le_of_ble_eq_true rfl) rfl rfl (Nat.le_of_ble_eq_true rfl) (hJ _ _ _ _ (by decide)) (xm_le ml_11 rfl) rfl ?_
              refine xi_iload_n (pc' := 1) (x := a1) kc_11_0 rfl rfl ?_
              refine xi_iconst (pc' := 2) (v := 0) kc_11_1 rfl rfl ?_
              refine xi_iconst (pc' := 3) (v := 5) kc_11_2 rfl rfl ?_
              refine xi_static (mj := 12) (as := [.int a1, .int 0, .int 5]) (st1 := []) (lv0 := [(0, .int a1), (1, .int 0), (2, .int 5)]) kc_11_3 rfl rfl (Nat.le_of_ble_eq_true rfl) rfl rfl (Nat.le_of_ble_eq_true rfl) (hJ _ _ _ _ (by decide)) (xm_le ml_12 rfl) rfl ?_
              refine xi_iload_n (pc' := 1) (x := a1) kc_12_0 rfl rfl ?_
              refine xi_iload_n (pc' := 2) (x := 0) kc_12_1 rfl rfl ?_
              refine xi_cmf (pc' := 5) kc_12_2 rfl (xc_lt_f (X := a1.toInt) (Y := 0) rfl (by decide) (by omega)) ?_
              refine xi_iload_n (pc' := 6) (x := a1) kc_12_5 rfl rfl ?_
              refine xi_iload_n (pc' := 7) (x := 5) kc_12_6 rfl rfl ?_
              refine xi_cmf (pc' := 10) kc_12_7 rfl (xc_gt_f (X := a1.toInt) (Y := 5) rfl (by decide) (by omega)) ?_
              refine xi_iconst (pc' := 11) (v := 1) kc_12_10 rfl rfl ?_
              refine xi_goto (pc' := 15) kc_12_11 rfl ?_
              refine xi_ireturn kc_12_15 mr_12 rfl ?_
              show xw J ov 98 11 (6, [(0, .int a1)], [.int 1], hh2) _
              refine xi_ireturn kc_11_6 mr_11 rfl ?_
              show xw J ov 99 10 (9, [(0, .ref 115), (1, .int a1), (2, .int 4), (3, .int a3)], [.int 1], hh2) _
              refine xi_ift (pc' := 18) kc_10_9 rfl rfl ?_
              refine xi_iload_n (pc' := 19) (x := 4) kc_10_18 rfl rfl ?_
              refine xi_iconst (pc' := 20) (v := 0) kc_10_19 rfl rfl ?_
              refine xi_iconst (pc' := 21) (v := 5) kc_10_20 rfl rfl ?_
              refine xi_static (mj := 12) (as := [.int 4, .int 0, .int 5]) (st1 := []) (lv0 := [(0, .int 4), (1, .int 0), (2, .int 5)]) kc_10_21 rfl rfl (Nat.le_of_ble_eq_true rfl) rfl rfl (Nat.le_of_ble_eq_true rfl) (hJ _ _ _ _ (by decide)) (xm_le ml_12 rfl) rfl ?_
              refine xi_iload_n (pc' := 1) (x := 4) kc_12_0 rfl rfl ?_
              refine xi_iload_n (pc' := 2) (x := 0) kc_12_1 rfl rfl ?_
              refine xi_cmf (pc' := 5) kc_12_2 rfl rfl ?_
              refine xi_iload_n (pc' := 6) (x := 4) kc_12_5 rfl rfl ?_
              refine xi_iload_n (pc' := 7) (x := 5) kc_12_6 rfl rfl ?_
              refine xi_cmf (pc' := 10) kc_12_7 rfl rfl ?_
              refine xi_iconst (pc' := 11) (v := 1) kc_12_10 rfl rfl ?_
              refine xi_goto (pc' := 15) kc_12_11 rfl ?_
              refine xi_ireturn kc_12_15 mr_12 rfl ?_
              show xw J ov 99 10 (24, [(0, .ref 115), (1, .int a1), (2, .int 4), (3, .int a3)], [.int 1], hh2) _
              refine xi_ift (pc' := 34) kc_10_24 rfl rfl ?_
              refine xi_iload_n (pc' := 35) (x := a3) kc_10_34 rfl rfl ?_
              refine xi_iload_n (pc' := 36) (x := 4) kc_10_35 rfl rfl ?_
              refine xi_ift (pc' := 44) kc_10_36 rfl rfl ?_
              refine xi_iconst (pc' := 45) (v := 0) kc_10_44 rfl rfl ?_
              refine xi_cmf (pc' := 48) kc_10_45 rfl (xc_ge_f (X := a3.toInt) (Y := 0) rfl (by decide) (by omega)) ?_
              refine xi_aload_n (pc' := 49) (x := 115) kc_10_48 rfl rfl ?_
              refine xi_bipush (pc' := 51) (v := (-4)) kc_10_49 rfl rfl ?_
              refine xi_virtual (mj := 13) (as := [.int (-4)]) (st1 := []) (lv0 := [(0, .ref 115), (1, .int (-4))]) kc_10_51 rfl rfl rfl rfl rfl eh2.1 (Nat.le_of_ble_eq_true rfl) (hJ _ _ _ _ (by decide)) (xm_le ml_13 rfl) rfl ?_
              refine xi_aload_n (pc' := 1) (x := 115) kc_13_0 rfl rfl ?_
              refine xi_getfield (pc' := 4) (v := .ref 140) kc_13_1 rfl rfl rfl eh2.1 rfl ?_
              refine xi_iload_n (pc' := 5) (x := (-4)) kc_13_4 rfl rfl ?_
              refine xi_ineg (pc' := 6) (v := 4) kc_13_5 rfl rfl ?_
              refine xi_dup2 (pc' := 7) kc_13_6 rfl ⟨rfl, rfl⟩ ?_
              refine xi_iaload (pc' := 8) (v := 0) kc_13_7 rfl ((eh2.2.1 140 (by decide)).trans ((eh1.2.1 140 (by decide)).trans (F 140 _ hl_140))) (by decide) rfl (xi_in (n := 7) (by decide) (by decide)) rfl ?_
              refine xi_iconst (pc' := 9) (v := 1) kc_13_8 rfl rfl ?_
              refine xi_iadd (pc' := 10) (v := 1) kc_13_9 rfl rfl ?_
              refine xi_iastore (pc' := 11) (x' := [0, 0, 0, 0, 1, 0, 0]) kc_13_10 rfl ((eh2.2.1 140 (by decide)).trans ((eh1.2.1 140 (by decide)).trans (F 140 _ hl_140))) rfl (xi_in (n := 7) (by decide) (by decide)) rfl (fun hh3 eh3 => ?_)
              refine xi_iload_n (pc' := 12) (x := (-4)) kc_13_11 rfl rfl ?_
              refine xi_ireturn kc_13_12 mr_13 rfl ?_
              show xw J ov 99 10 (54, [(0, .ref 115), (1, .int a1), (2, .int 4), (3, .int a3)], [.int (-4)], hh3) _
              refine xi_ireturn kc_10_54 mr_10 rfl ?_
              show xw J ov 100 196 (236, [(4, .int 0), (3, .ref 167), (2, .ref 115), (1, .ref 0), (0, .ref 1000000)], [.int (-4), .int (-4)], hh3) _
              refine xi_cmt (pc' := 1528) kc_196_236 rfl rfl ?_
              refine xi_iinc (pc' := 1531) (x := 0) (v := 6) (lv' := [(4, .int 6), (3, .ref 167), (2, .ref 115), (1, .ref 0), (0, .ref 1000000)]) kc_196_1528 rfl rfl rfl rfl (xm_lt ml_196 rfl) ?_
              refine xi_goto (pc' := 23) kc_196_1531 rfl ?_
              refine xi_iload (pc' := 25) (x := 6) kc_196_23 rfl rfl ?_
              refine xi_aload_n (pc' := 26) (x := 1000000) kc_196_25 rfl rfl ?_
              refine xi_arraylength (pc' := 27) (n := 6) (v := 6) kc_196_26 rfl (xl_lenO (by decide) hov0 rfl) rfl ?_
              refine xi_bipush (pc' := 29) (v := 6) kc_196_27 rfl rfl ?_
              refine xi_isub (pc' := 30) (v := 0) kc_196_29 rfl rfl ?_
              refine xi_cmt (pc' := 1534) kc_196_30 rfl rfl ?_
              refine xi_iconst (pc' := 1535) (v := 1) kc_196_1534 rfl rfl ?_
              refine xi_ireturn kc_196_1535 mr_196 rfl ?_
              refine ⟨rfl, ?_, ?_⟩
              · rw [eh3.2.2.1, eh2.2.2.1, eh1.2.2.1]; exact hn0
              · rw [eh3.2.2.2, eh2.2.2.2, eh1.2.2.2]; exact hz0
          have qa2 : a2 = 5 := xc_of (Eq.trans (by omega) (show (5 : Int) = (5 : Int32).toInt by decide))
          subst qa2
          refine xi_ialoadO (pc' := 35) (v := 0) kc_89_34 rfl (by decide) hov1 (xi_in (n := 6) (by decide) (by decide)) rfl ?_
          by_cases c45 : 0 ≤ a3.toInt
          · refine xi_cmt (pc' := 45) kc_89_35 rfl (xc_ge_t (X := a3.toInt) (Y := 0) rfl (by decide) (by omega)) ?_
            refine xi_iload_n (pc' := 46) (x := a3) kc_89_45 rfl rfl ?_
            refine xi_getstatic (pc' := 49) (j := 1000002) kc_89_46 rfl rfl ?_
            refine xi_iload_n (pc' := 50) (x := 5) kc_89_49 rfl rfl ?_
            refine xi_ialoadO (pc' := 51) (v := 99999) kc_89_50 rfl (by decide) hov2 (xi_in (n := 6) (by decide) (by decide)) rfl ?_
            by_cases c46 : a3.toInt ≤ 99999
            · refine xi_cmt (pc' := 61) kc_89_51 rfl (xc_le_t (X := a3.toInt) (Y := 99999) rfl (by decide) (by omega)) ?_
              refine xi_iload_n (pc' := 62) (x := 5) kc_89_61 rfl rfl ?_
              refine xi_iconst (pc' := 63) (v := 5) kc_89_62 rfl rfl ?_
              refine xi_cmf (pc' := 66) kc_89_63 rfl rfl ?_
              refine xi_aload_n (pc' := 67) (x := 0) kc_89_66 rfl rfl ?_
              refine xi_getfield (pc' := 70) (v := .ref 63) kc_89_67 rfl rfl rfl (F 0 _ hl_0) rfl ?_
              refine xi_getfield (pc' := 73) (v := .ref 64) kc_89_70 rfl rfl rfl (F 63 _ hl_63) rfl ?_
              refine xi_iload_n (pc' := 74) (x := a1) kc_89_73 rfl rfl ?_
              refine xi_iaload (pc' := 75) (v := 0) kc_89_74 rfl (F 64 _ hl_64) (by decide) rfl (xi_in (by omega) (by simp only [List.length_replicate]; omega)) (xa_rep (by omega) (by omega)) ?_
              refine xi_istore (pc' := 77) (lv' := [(4, .int 0), (0, .ref 0), (1, .int a1), (2, .int 5), (3, .int a3)]) kc_89_75 rfl rfl (xm_lt ml_89 rfl) ?_
              refine xi_aload_n (pc' := 78) (x := 0) kc_89_77 rfl rfl ?_
              refine xi_getfield (pc' := 81) (v := .ref 63) kc_89_78 rfl rfl rfl (F 0 _ hl_0) rfl ?_
              refine xi_getfield (pc' := 84) (v := .ref 64) kc_89_81 rfl rfl rfl (F 63 _ hl_63) rfl ?_
              refine xi_iload_n (pc' := 85) (x := a1) kc_89_84 rfl rfl ?_
              refine xi_iload_n (pc' := 86) (x := a3) kc_89_85 rfl rfl ?_
              have lq48 : (List.replicate 6 0 : List Int32).length = 6 := by simp only [List.length_replicate, List.length_cons, List.length_nil, List.length_set]
              obtain ⟨x47, hx47⟩ : ∃ q, (List.replicate 6 0 : List Int32).set (Int32.toNatClampNeg a1) (a3) = q := ⟨_, rfl⟩
              have lx47 : x47.length = 6 := by rw [← hx47, List.length_set]; exact lq48
              refine xi_iastore (pc' := 87) (x' := x47) kc_89_86 rfl (F 64 _ hl_64) rfl (xi_in (by omega) (by rw [lq48]; omega)) hx47 (fun hh1 eh1 => ?_)
              refine xi_iload (pc' := 89) (x := 0) kc_89_87 rfl rfl ?_
              refine xi_ireturn kc_89_89 mr_89 rfl ?_
              show xw J ov 100 196 (214, [(4, .int 0), (3, .ref 167), (2, .ref 115), (1, .ref 0), (0, .ref 1000000)], [.int 0], hh1) _
              refine xi_aload_n (pc' := 215) (x := 115) kc_196_214 rfl rfl ?_
              refine xi_aload_n (pc' := 216) (x := 1000000) kc_196_215 rfl rfl ?_
              refine xi_iload (pc' := 218) (x := 0) kc_196_216 rfl rfl ?_
              refine xi_iconst (pc' := 219) (v := 1) kc_196_218 rfl rfl ?_
              refine xi_iadd (pc' := 220) (v := 1) kc_196_219 rfl rfl ?_
              refine xi_ialoadO (pc' := 221) (v := a1) kc_196_220 rfl (by decide) hov0 (xi_in (n := 6) (by decide) (by decide)) rfl ?_
              refine xi_aload_n (pc' := 222) (x := 1000000) kc_196_221 rfl rfl ?_
              refine xi_iload (pc' := 224) (x := 0) kc_196_222 rfl rfl ?_
              refine xi_iconst (pc' := 225) (v := 2) kc_196_224 rfl rfl ?_
              refine xi_iadd (pc' := 226) (v := 2) kc_196_225 rfl rfl ?_
              refine xi_ialoadO (pc' := 227) (v := 5) kc_196_226 rfl (by decide) hov0 (xi_in (n := 6) (by decide) (by decide)) rfl ?_
              refine xi_aload_n (pc' := 228) (x := 1000000) kc_196_227 rfl rfl ?_
              refine xi_iload (pc' := 230) (x := 0) kc_196_228 rfl rfl ?_
              refine xi_iconst (pc' := 231) (v := 3) kc_196_230 rfl rfl ?_
              refine xi_iadd (pc' := 232) (v := 3) kc_196_231 rfl rfl ?_
              refine xi_ialoadO (pc' := 233) (v := a3) kc_196_232 rfl (by decide) hov0 (xi_in (n := 6) (by decide) (by decide)) rfl ?_
              refine xi_virtual (mj := 10) (as := [.int a1, .int 5, .int a3]) (st1 := [.int 0]) (lv0 := [(0, .ref 115), (1, .int a1), (2, .int 5), (3, .int a3)]) kc_196_233 rfl rfl rfl rfl rfl ((eh1.2.1 115 (by decide)).trans (F 115 _ hl_115)) (Nat.le_of_ble_eq_true rfl) (hJ _ _ _ _ (by decide)) (xm_le ml_10 rfl) rfl ?_
              refine xi_aload_n (pc' := 1) (x := 115) kc_10_0 rfl rfl ?_
              refine xi_iconst (pc' := 2) (v := 0) kc_10_1 rfl rfl ?_
              refine xi_putfield (pc' := 5) (fs' := [.int 0, .int 0, .ref 116, .ref 117, .ref 118, .ref 119, .ref 120, .ref 121, .ref 122, .ref 123, .ref 124, .ref 125, .ref 126, .ref 127, .ref 128, .ref 129, .int 4, .ref 130, .int 0, .ref 131, .ref 132, .ref 133, .ref 134, .int 0, .ref 135, .ref 136, .ref 137, .ref 138, .ref 139, .ref 140, .ref 141, .ref 142, .int 0, .int 0, .int 0, .ref 143, .ref 144, .ref 145, .ref 146, .ref 147, .ref 148, .int 0, .ref 149, .ref 150, .ref 151, .int 0, .ref 152, .ref 153, .ref 154, .ref 155, .ref 156, .ref 157, .ref 158, .ref 159, .int 0, .ref 160, .int 0, .ref 161, .ref 162, .ref 163, .ref 164, .int 0, .ref 165, .ref 166]) kc_10_2 rfl rfl rfl ((eh1.2.1 115 (by decide)).trans (F 115 _ hl_115)) rfl rfl rfl (Nat.le_of_ble_eq_true rfl) rfl (fun hh2 eh2 => ?_)
              refine xi_iload_n (pc' := 6) (x := a1) kc_10_5 rfl rfl ?_
              refine xi_static (mj := 11) (as := [.int a1]) (st1 := []) (lv0 := [(0, .int a1)]) kc_10_6 rfl rfl (Nat.le_of_ble_eq_true rfl) rfl rfl (Nat.le_of_ble_eq_true rfl) (hJ _ _ _ _ (by decide)) (xm_le ml_11 rfl) rfl ?_
              refine xi_iload_n (pc' := 1) (x := a1) kc_11_0 rfl rfl ?_
              refine xi_iconst (pc' := 2) (v := 0) kc_11_1 rfl rfl ?_
              refine xi_iconst (pc' := 3) (v := 5) kc_11_2 rfl rfl ?_
              refine xi_static (mj := 12) (as := [.int a1, .int 0, .int 5]) (st1 := []) (lv0 := [(0, .int a1), (1, .int 0), (2, .int 5)]) kc_11_3 rfl rfl (Nat.le_of_ble_eq_true rfl) rfl rfl (Nat.le_of_ble_eq_true rfl) (hJ _ _ _ _ (by decide)) (xm_le ml_12 rfl) rfl ?_
              refine xi_iload_n (pc' := 1) (x := a1) kc_12_0 rfl rfl ?_
              refine xi_iload_n (pc' := 2) (x := 0) kc_12_1 rfl rfl ?_
              refine xi_cmf (pc' := 5) kc_12_2 rfl (xc_lt_f (X := a1.toInt) (Y := 0) rfl (by decide) (by omega)) ?_
              refine xi_iload_n (pc' := 6) (x := a1) kc_12_5 rfl rfl ?_
              refine xi_iload_n (pc' := 7) (x := 5) kc_12_6 rfl rfl ?_
              refine xi_cmf (pc' := 10) kc_12_7 rfl (xc_gt_f (X := a1.toInt) (Y := 5) rfl (by decide) (by omega)) ?_
              refine xi_iconst (pc' := 11) (v := 1) kc_12_10 rfl rfl ?_
              refine xi_goto (pc' := 15) kc_12_11 rfl ?_
              refine xi_ireturn kc_12_15 mr_12 rfl ?_
              show xw J ov 98 11 (6, [(0, .int a1)], [.int 1], hh2) _
              refine xi_ireturn kc_11_6 mr_11 rfl ?_
              show xw J ov 99 10 (9, [(0, .ref 115), (1, .int a1), (2, .int 5), (3, .int a3)], [.int 1], hh2) _
              refine xi_ift (pc' := 18) kc_10_9 rfl rfl ?_
              refine xi_iload_n (pc' := 19) (x := 5) kc_10_18 rfl rfl ?_
              refine xi_iconst (pc' := 20) (v := 0) kc_10_19 rfl rfl ?_
              refine xi_iconst (pc' := 21) (v := 5) kc_10_20 rfl rfl ?_
              refine xi_static (mj := 12) (as := [.int 5, .int 0, .int 5]) (st1 := []) (lv0 := [(0, .int 5), (1, .int 0), (2, .int 5)]) kc_10_21 rfl rfl (Nat.le_of_ble_eq_true rfl) rfl rfl (Nat.le_of_ble_eq_true rfl) (hJ _ _ _ _ (by decide)) (xm_le ml_12 rfl) rfl ?_
              refine xi_iload_n (pc' := 1) (x := 5) kc_12_0 rfl rfl ?_
              refine xi_iload_n (pc' := 2) (x := 0) kc_12_1 rfl rfl ?_
              refine xi_cmf (pc' := 5) kc_12_2 rfl rfl ?_
              refine xi_iload_n (pc' := 6) (x := 5) kc_12_5 rfl rfl ?_
              refine xi_iload_n (pc' := 7) (x := 5) kc_12_6 rfl rfl ?_
              refine xi_cmf (pc' := 10) kc_12_7 rfl rfl ?_
              refine xi_iconst (pc' := 11) (v := 1) kc_12_10 rfl rfl ?_
              refine xi_goto (pc' := 15) kc_12_11 rfl ?_
              refine xi_ireturn kc_12_15 mr_12 rfl ?_
              show xw J ov 99 10 (24, [(0, .ref 115), (1, .int a1), (2, .int 5), (3, .int a3)], [.int 1], hh2) _
              refine xi_ift (pc' := 34) kc_10_24 rfl rfl ?_
              refine xi_iload_n (pc' := 35) (x := a3) kc_10_34 rfl rfl ?_
              refine xi_iload_n (pc' := 36) (x := 5) kc_10_35 rfl rfl ?_
              refine xi_ift (pc' := 44) kc_10_36 rfl rfl ?_
              refine xi_iconst (pc' := 45) (v := 0) kc_10_44 rfl rfl ?_
              refine xi_cmt (pc' := 55) kc_10_45 rfl (xc_ge_t (X := a3.toInt) (Y := 0) rfl (by decide) (by omega)) ?_
              refine xi_iload_n (pc' := 56) (x := a3) kc_10_55 rfl rfl ?_
              refine xi_iload_n (pc' := 57) (x := 5) kc_10_56 rfl rfl ?_
              refine xi_ift (pc' := 65) kc_10_57 rfl rfl ?_
              refine xi_iload_n (pc' := 66) (x := 5) kc_10_65 rfl rfl ?_
              refine xi_iconst (pc' := 67) (v := 1) kc_10_66 rfl rfl ?_
              refine xi_cmt (pc' := 75) kc_10_67 rfl rfl ?_
              refine xi_iload_n (pc' := 76) (x := 5) kc_10_75 rfl rfl ?_
              refine xi_iconst (pc' := 77) (v := 4) kc_10_76 rfl rfl ?_
              refine xi_cmt (pc' := 85) kc_10_77 rfl rfl ?_
              refine xi_iload_n (pc' := 86) (x := 5) kc_10_85 rfl rfl ?_
              refine xi_iconst (pc' := 87) (v := 4) kc_10_86 rfl rfl ?_
              refine xi_cmt (pc' := 94) kc_10_87 rfl rfl ?_
              refine xi_ldc (pc' := 96) (v := 99999) kc_10_94 rfl rfl ?_
              refine xi_cmt (pc' := 106) kc_10_96 rfl (xc_le_t (X := a3.toInt) (Y := 99999) rfl (by decide) (by omega)) ?_
              refine xi_aload_n (pc' := 107) (x := 115) kc_10_106 rfl rfl ?_
              refine xi_iload_n (pc' := 108) (x := a1) kc_10_107 rfl rfl ?_
              refine xi_iload_n (pc' := 109) (x := 5) kc_10_108 rfl rfl ?_
              refine xi_virtual (mj := 14) (as := [.int a1, .int 5]) (st1 := []) (lv0 := [(0, .ref 115), (1, .int a1), (2, .int 5)]) kc_10_109 rfl rfl rfl rfl rfl eh2.1 (Nat.le_of_ble_eq_true rfl) (hJ _ _ _ _ (by decide)) (xm_le ml_14 rfl) rfl ?_
              refine xi_iload_n (pc' := 1) (x := 5) kc_14_0 rfl rfl ?_
              refine xi_tsd (pc' := 71) kc_14_1 rfl (by decide) ?_
              refine xi_aload_n (pc' := 72) (x := 115) kc_14_71 rfl rfl ?_
              refine xi_getfield (pc' := 75) (v := .ref 121) kc_14_72 rfl rfl rfl eh2.1 rfl ?_
              refine xi_iload_n (pc' := 76) (x := a1) kc_14_75 rfl rfl ?_
              refine xi_iaload (pc' := 77) (v := 0) kc_14_76 rfl ((eh2.2.1 121 (by decide)).trans ((eh1.2.1 121 (by decide)).trans (F 121 _ hl_121))) (by decide) rfl (xi_in (by omega) (by simp only [List.length_replicate]; omega)) (xa_rep (by omega) (by omega)) ?_
              refine xi_ireturn kc_14_77 mr_14 rfl ?_
              show xw J ov 99 10 (112, [(0, .ref 115), (1, .int a1), (2, .int 5), (3, .int a3)], [.int 0], hh2) _
              refine xi_istore (pc' := 114) (lv' := [(4, .int 0), (0, .ref 115), (1, .int a1), (2, .int 5), (3, .int a3)]) kc_10_112 rfl rfl (xm_lt ml_10 rfl) ?_
              refine xi_aload_n (pc' := 115) (x := 115) kc_10_114 rfl rfl ?_
              refine xi_iload_n (pc' := 116) (x := a1) kc_10_115 rfl rfl ?_
              refine xi_iload_n (pc' := 117) (x := 5) kc_10_116 rfl rfl ?_
              refine xi_iload_n (pc' := 118) (x := a3) kc_10_117 rfl rfl ?_
              refine xi_virtual (mj := 15) (as := [.int a1, .int 5, .int a3]) (st1 := []) (lv0 := [(0, .ref 115), (1, .int a1), (2, .int 5), (3, .int a3)]) kc_10_118 rfl rfl rfl rfl rfl eh2.1 (Nat.le_of_ble_eq_true rfl) (hJ _ _ _ _ (by decide)) (xm_le ml_15 rfl) rfl ?_
              refine xi_aload_n (pc' := 1) (x := 115) kc_15_0 rfl rfl ?_
              refine xi_getfield (pc' := 4) (v := .ref 116) kc_15_1 rfl rfl rfl eh2.1 rfl ?_
              refine xi_iload_n (pc' := 5) (x := a1) kc_15_4 rfl rfl ?_
              refine xi_iload_n (pc' := 6) (x := 5) kc_15_5 rfl rfl ?_
              refine xi_ift (pc' := 13) kc_15_6 rfl rfl ?_
              refine xi_aload_n (pc' := 14) (x := 115) kc_15_13 rfl rfl ?_
              refine xi_getfield (pc' := 17) (v := .ref 116) kc_15_14 rfl rfl rfl eh2.1 rfl ?_
              refine xi_iload_n (pc' := 18) (x := a1) kc_15_17 rfl rfl ?_
              refine xi_iaload (pc' := 19) (v := 40) kc_15_18 rfl ((eh2.2.1 116 (by decide)).trans ((eh1.2.1 116 (by decide)).trans (F 116 _ hl_116))) (by decide) rfl (xi_in (by omega) (by simp only [List.length_replicate]; omega)) (xa_rep (by omega) (by omega)) ?_
              have lq50 : (List.replicate 6 40 : List Int32).length = 6 := by simp only [List.length_replicate, List.length_cons, List.length_nil, List.length_set]
              obtain ⟨x49, hx49⟩ : ∃ q, (List.replicate 6 40 : List Int32).set (Int32.toNatClampNeg a1) (40) = q := ⟨_, rfl⟩
              have lx49 : x49.length = 6 := by rw [← hx49, List.length_set]; exact lq50
              refine xi_iastore (pc' := 20) (x' := x49) kc_15_19 rfl ((eh2.2.1 116 (by decide)).trans ((eh1.2.1 116 (by decide)).trans (F 116 _ hl_116))) rfl (xi_in (by omega) (by rw [lq50]; omega)) hx49 (fun hh3 eh3 => ?_)
              refine xi_aload_n (pc' := 21) (x := 115) kc_15_20 rfl rfl ?_
              refine xi_getfield (pc' := 24) (v := .ref 117) kc_15_21 rfl rfl rfl ((eh3.2.1 115 (by decide)).trans eh2.1) rfl ?_
              refine xi_iload_n (pc' := 25) (x := a1) kc_15_24 rfl rfl ?_
              refine xi_iload_n (pc' := 26) (x := 5) kc_15_25 rfl rfl ?_
              refine xi_iconst (pc' := 27) (v := 1) kc_15_26 rfl rfl ?_
              refine xi_cmt (pc' := 34) kc_15_27 rfl rfl ?_
              refine xi_aload_n (pc' := 35) (x := 115) kc_15_34 rfl rfl ?_
              refine xi_getfield (pc' := 38) (v := .ref 117) kc_15_35 rfl rfl rfl ((eh3.2.1 115 (by decide)).trans eh2.1) rfl ?_
              refine xi_iload_n (pc' := 39) (x := a1) kc_15_38 rfl rfl ?_
              refine xi_iaload (pc' := 40) (v := 18) kc_15_39 rfl ((eh3.2.1 117 (by decide)).trans ((eh2.2.1 117 (by decide)).trans ((eh1.2.1 117 (by decide)).trans (F 117 _ hl_117)))) (by decide) rfl (xi_in (by omega) (by simp only [List.length_replicate]; omega)) (xa_rep (by omega) (by omega)) ?_
              have lq52 : (List.replicate 6 18 : List Int32).length = 6 := by simp only [List.length_replicate, List.length_cons, List.length_nil, List.length_set]
              obtain ⟨x51, hx51⟩ : ∃ q, (List.replicate 6 18 : List Int32).set (Int32.toNatClampNeg a1) (18) = q := ⟨_, rfl⟩
              have lx51 : x51.length = 6 := by rw [← hx51, List.length_set]; exact lq52
              refine xi_iastore (pc' := 41) (x' := x51) kc_15_40 rfl ((eh3.2.1 117 (by decide)).trans ((eh2.2.1 117 (by decide)).trans ((eh1.2.1 117 (by decide)).trans (F 117 _ hl_117)))) rfl (xi_in (by omega) (by rw [lq52]; omega)) hx51 (fun hh4 eh4 => ?_)
              refine xi_aload_n (pc' := 42) (x := 115) kc_15_41 rfl rfl ?_
              refine xi_getfield (pc' := 45) (v := .ref 118) kc_15_42 rfl rfl rfl ((eh4.2.1 115 (by decide)).trans ((eh3.2.1 115 (by decide)).trans eh2.1)) rfl ?_
              refine xi_iload_n (pc' := 46) (x := a1) kc_15_45 rfl rfl ?_
              refine xi_iload_n (pc' := 47) (x := 5) kc_15_46 rfl rfl ?_
              refine xi_iconst (pc' := 48) (v := 2) kc_15_47 rfl rfl ?_
              refine xi_cmt (pc' := 55) kc_15_48 rfl rfl ?_
              refine xi_aload_n (pc' := 56) (x := 115) kc_15_55 rfl rfl ?_
              refine xi_getfield (pc' := 59) (v := .ref 118) kc_15_56 rfl rfl rfl ((eh4.2.1 115 (by decide)).trans ((eh3.2.1 115 (by decide)).trans eh2.1)) rfl ?_
              refine xi_iload_n (pc' := 60) (x := a1) kc_15_59 rfl rfl ?_
              refine xi_iaload (pc' := 61) (v := 10) kc_15_60 rfl ((eh4.2.1 118 (by decide)).trans ((eh3.2.1 118 (by decide)).trans ((eh2.2.1 118 (by decide)).trans ((eh1.2.1 118 (by decide)).trans (F 118 _ hl_118))))) (by decide) rfl (xi_in (by omega) (by simp only [List.length_replicate]; omega)) (xa_rep (by omega) (by omega)) ?_
              have lq54 : (List.replicate 6 10 : List Int32).length = 6 := by simp only [List.length_replicate, List.length_cons, List.length_nil, List.length_set]
              obtain ⟨x53, hx53⟩ : ∃ q, (List.replicate 6 10 : List Int32).set (Int32.toNatClampNeg a1) (10) = q := ⟨_, rfl⟩
              have lx53 : x53.length = 6 := by rw [← hx53, List.length_set]; exact lq54
              refine xi_iastore (pc' := 62) (x' := x53) kc_15_61 rfl ((eh4.2.1 118 (by decide)).trans ((eh3.2.1 118 (by decide)).trans ((eh2.2.1 118 (by decide)).trans ((eh1.2.1 118 (by decide)).trans (F 118 _ hl_118))))) rfl (xi_in (by omega) (by rw [lq54]; omega)) hx53 (fun hh5 eh5 => ?_)
              refine xi_aload_n (pc' := 63) (x := 115) kc_15_62 rfl rfl ?_
              refine xi_getfield (pc' := 66) (v := .ref 119) kc_15_63 rfl rfl rfl ((eh5.2.1 115 (by decide)).trans ((eh4.2.1 115 (by decide)).trans ((eh3.2.1 115 (by decide)).trans eh2.1))) rfl ?_
              refine xi_iload_n (pc' := 67) (x := a1) kc_15_66 rfl rfl ?_
              refine xi_iload_n (pc' := 68) (x := 5) kc_15_67 rfl rfl ?_
              refine xi_iconst (pc' := 69) (v := 3) kc_15_68 rfl rfl ?_
              refine xi_cmt (pc' := 76) kc_15_69 rfl rfl ?_
              refine xi_aload_n (pc' := 77) (x := 115) kc_15_76 rfl rfl ?_
              refine xi_getfield (pc' := 80) (v := .ref 119) kc_15_77 rfl rfl rfl ((eh5.2.1 115 (by decide)).trans ((eh4.2.1 115 (by decide)).trans ((eh3.2.1 115 (by decide)).trans eh2.1))) rfl ?_
              refine xi_iload_n (pc' := 81) (x := a1) kc_15_80 rfl rfl ?_
              refine xi_iaload (pc' := 82) (v := 0) kc_15_81 rfl ((eh5.2.1 119 (by decide)).trans ((eh4.2.1 119 (by decide)).trans ((eh3.2.1 119 (by decide)).trans ((eh2.2.1 119 (by decide)).trans ((eh1.2.1 119 (by decide)).trans (F 119 _ hl_119)))))) (by decide) rfl (xi_in (by omega) (by simp only [List.length_replicate]; omega)) (xa_rep (by omega) (by omega)) ?_
              have lq56 : (List.replicate 6 0 : List Int32).length = 6 := by simp only [List.length_replicate, List.length_cons, List.length_nil, List.length_set]
              obtain ⟨x55, hx55⟩ : ∃ q, (List.replicate 6 0 : List Int32).set (Int32.toNatClampNeg a1) (0) = q := ⟨_, rfl⟩
              have lx55 : x55.length = 6 := by rw [← hx55, List.length_set]; exact lq56
              refine xi_iastore (pc' := 83) (x' := x55) kc_15_82 rfl ((eh5.2.1 119 (by decide)).trans ((eh4.2.1 119 (by decide)).trans ((eh3.2.1 119 (by decide)).trans ((eh2.2.1 119 (by decide)).trans ((eh1.2.1 119 (by decide)).trans (F 119 _ hl_119)))))) rfl (xi_in (by omega) (by rw [lq56]; omega)) hx55 (fun hh6 eh6 => ?_)
              refine xi_aload_n (pc' := 84) (x := 115) kc_15_83 rfl rfl ?_
              refine xi_getfield (pc' := 87) (v := .ref 120) kc_15_84 rfl rfl rfl ((eh6.2.1 115 (by decide)).trans ((eh5.2.1 115 (by decide)).trans ((eh4.2.1 115 (by decide)).trans ((eh3.2.1 115 (by decide)).trans eh2.1)))) rfl ?_
              refine xi_iload_n (pc' := 88) (x := a1) kc_15_87 rfl rfl ?_
              refine xi_iload_n (pc' := 89) (x := 5) kc_15_88 rfl rfl ?_
              refine xi_iconst (pc' := 90) (v := 4) kc_15_89 rfl rfl ?_
              refine xi_cmt (pc' := 97) kc_15_90 rfl rfl ?_
              refine xi_aload_n (pc' := 98) (x := 115) kc_15_97 rfl rfl ?_
              refine xi_getfield (pc' := 101) (v := .ref 120) kc_15_98 rfl rfl rfl ((eh6.2.1 115 (by decide)).trans ((eh5.2.1 115 (by decide)).trans ((eh4.2.1 115 (by decide)).trans ((eh3.2.1 115 (by decide)).trans eh2.1)))) rfl ?_
              refine xi_iload_n (pc' := 102) (x := a1) kc_15_101 rfl rfl ?_
              refine xi_iaload (pc' := 103) (v := 0) kc_15_102 rfl ((eh6.2.1 120 (by decide)).trans ((eh5.2.1 120 (by decide)).trans ((eh4.2.1 120 (by decide)).trans ((eh3.2.1 120 (by decide)).trans ((eh2.2.1 120 (by decide)).trans ((eh1.2.1 120 (by decide)).trans (F 120 _ hl_120))))))) (by decide) rfl (xi_in (by omega) (by simp only [List.length_replicate]; omega)) (xa_rep (by omega) (by omega)) ?_
              have lq58 : (List.replicate 6 0 : List Int32).length = 6 := by simp only [List.length_replicate, List.length_cons, List.length_nil, List.length_set]
              obtain ⟨x57, hx57⟩ : ∃ q, (List.replicate 6 0 : List Int32).set (Int32.toNatClampNeg a1) (0) = q := ⟨_, rfl⟩
              have lx57 : x57.length = 6 := by rw [← hx57, List.length_set]; exact lq58
              refine xi_iastore (pc' := 104) (x' := x57) kc_15_103 rfl ((eh6.2.1 120 (by decide)).trans ((eh5.2.1 120 (by decide)).trans ((eh4.2.1 120 (by decide)).trans ((eh3.2.1 120 (by decide)).trans ((eh2.2.1 120 (by decide)).trans ((eh1.2.1 120 (by decide)).trans (F 120 _ hl_120))))))) rfl (xi_in (by omega) (by rw [lq58]; omega)) hx57 (fun hh7 eh7 => ?_)
              refine xi_aload_n (pc' := 105) (x := 115) kc_15_104 rfl rfl ?_
              refine xi_getfield (pc' := 108) (v := .ref 121) kc_15_105 rfl rfl rfl ((eh7.2.1 115 (by decide)).trans ((eh6.2.1 115 (by decide)).trans ((eh5.2.1 115 (by decide)).trans ((eh4.2.1 115 (by decide)).trans ((eh3.2.1 115 (by decide)).trans eh2.1))))) rfl ?_
              refine xi_iload_n (pc' := 109) (x := a1) kc_15_108 rfl rfl ?_
              refine xi_iload_n (pc' := 110) (x := 5) kc_15_109 rfl rfl ?_
              refine xi_iconst (pc' := 111) (v := 5) kc_15_110 rfl rfl ?_
              refine xi_cmf (pc' := 114) kc_15_111 rfl rfl ?_
              refine xi_iload_n (pc' := 115) (x := a3) kc_15_114 rfl rfl ?_
              refine xi_goto (pc' := 124) kc_15_115 rfl ?_
              have lq60 : (List.replicate 6 0 : List Int32).length = 6 := by simp only [List.length_replicate, List.length_cons, List.length_nil, List.length_set]
              obtain ⟨x59, hx59⟩ : ∃ q, (List.replicate 6 0 : List Int32).set (Int32.toNatClampNeg a1) (a3) = q := ⟨_, rfl⟩
              have lx59 : x59.length = 6 := by rw [← hx59, List.length_set]; exact lq60
              refine xi_iastore (pc' := 125) (x' := x59) kc_15_124 rfl ((eh7.2.1 121 (by decide)).trans ((eh6.2.1 121 (by decide)).trans ((eh5.2.1 121 (by decide)).trans ((eh4.2.1 121 (by decide)).trans ((eh3.2.1 121 (by decide)).trans ((eh2.2.1 121 (by decide)).trans ((eh1.2.1 121 (by decide)).trans (F 121 _ hl_121)))))))) rfl (xi_in (by omega) (by rw [lq60]; omega)) hx59 (fun hh8 eh8 => ?_)
              refine xi_aload_n (pc' := 126) (x := 115) kc_15_125 rfl rfl ?_
              refine xi_iconst (pc' := 127) (v := 0) kc_15_126 rfl rfl ?_
              refine xi_putfield (pc' := 130) (fs' := [.int 0, .int 0, .ref 116, .ref 117, .ref 118, .ref 119, .ref 120, .ref 121, .ref 122, .ref 123, .ref 124, .ref 125, .ref 126, .ref 127, .ref 128, .ref 129, .int 4, .ref 130, .int 0, .ref 131, .ref 132, .ref 133, .ref 134, .int 0, .ref 135, .ref 136, .ref 137, .ref 138, .ref 139, .ref 140, .ref 141, .ref 142, .int 0, .int 0, .int 0, .ref 143, .ref 144, .ref 145, .ref 146, .ref 147, .ref 148, .int 0, .ref 149, .ref 150, .ref 151, .int 0, .ref 152, .ref 153, .ref 154, .ref 155, .ref 156, .ref 157, .ref 158, .ref 159, .int 0, .ref 160, .int 0, .ref 161, .ref 162, .ref 163, .ref 164, .int 0, .ref 165, .ref 166]) kc_15_127 rfl rfl rfl ((eh8.2.1 115 (by decide)).trans ((eh7.2.1 115 (by decide)).trans ((eh6.2.1 115 (by decide)).trans ((eh5.2.1 115 (by decide)).trans ((eh4.2.1 115 (by decide)).trans ((eh3.2.1 115 (by decide)).trans eh2.1)))))) rfl rfl rfl (Nat.le_of_ble_eq_true rfl) rfl (fun hh9 eh9 => ?_)
              refine xi_return kc_15_130 mr_15 ?_
              show xw J ov 99 10 (121, [(4, .int 0), (0, .ref 115), (1, .int a1), (2, .int 5), (3, .int a3)], [], hh9) _
              refine xi_iload (pc' := 123) (x := 0) kc_10_121 rfl rfl ?_
              refine xi_ireturn kc_10_123 mr_10 rfl ?_
              show xw J ov 100 196 (236, [(4, .int 0), (3, .ref 167), (2, .ref 115), (1, .ref 0), (0, .ref 1000000)], [.int 0, .int 0], hh9) _
              refine xi_cmt (pc' := 1528) kc_196_236 rfl rfl ?_
              refine xi_iinc (pc' := 1531) (x := 0) (v := 6) (lv' := [(4, .int 6), (3, .ref 167), (2, .ref 115), (1, .ref 0), (0, .ref 1000000)]) kc_196_1528 rfl rfl rfl rfl (xm_lt ml_196 rfl) ?_
              refine xi_goto (pc' := 23) kc_196_1531 rfl ?_
              refine xi_iload (pc' := 25) (x := 6) kc_196_23 rfl rfl ?_
              refine xi_aload_n (pc' := 26) (x := 1000000) kc_196_25 rfl rfl ?_
              refine xi_arraylength (pc' := 27) (n := 6) (v := 6) kc_196_26 rfl (xl_lenO (by decide) hov0 rfl) rfl ?_
              refine xi_bipush (pc' := 29) (v := 6) kc_196_27 rfl rfl ?_
              refine xi_isub (pc' := 30) (v := 0) kc_196_29 rfl rfl ?_
              refine xi_cmt (pc' := 1534) kc_196_30 rfl rfl ?_
              refine xi_iconst (pc' := 1535) (v := 1) kc_196_1534 rfl rfl ?_
              refine xi_ireturn kc_196_1535 mr_196 rfl ?_
              refine ⟨rfl, ?_, ?_⟩
              · rw [eh9.2.2.1, eh8.2.2.1, eh7.2.2.1, eh6.2.2.1, eh5.2.2.1, eh4.2.2.1, eh3.2.2.1, eh2.2.2.1, eh1.2.2.1]; exact hn0
              · rw [eh9.2.2.2, eh8.2.2.2, eh7.2.2.2, eh6.2.2.2, eh5.2.2.2, eh4.2.2.2, eh3.2.2.2, eh2.2.2.2, eh1.2.2.2]; exact hz0
            · refine xi_cmf (pc' := 54) kc_89_51 rfl (xc_le_f (X := a3.toInt) (Y := 99999) rfl (by decide) (by omega)) ?_
              refine xi_aload_n (pc' := 55) (x := 0) kc_89_54 rfl rfl ?_
              refine xi_bipush (pc' := 57) (v := (-6)) kc_89_55 rfl rfl ?_
              refine xi_virtual (mj := 91) (as := [.int (-6)]) (st1 := []) (lv0 := [(0, .ref 0), (1, .int (-6))]) kc_89_57 rfl rfl rfl rfl rfl (F 0 _ hl_0) (Nat.le_of_ble_eq_true rfl) (hJ _ _ _ _ (by decide)) (xm_le ml_91 rfl) rfl ?_
              refine xi_iload_n (pc' := 1) (x := (-6)) kc_91_0 rfl rfl ?_
              refine xi_ineg (pc' := 2) (v := 6) kc_91_1 rfl rfl ?_
              refine xi_istore_n (pc' := 3) (lv' := [(2, .int 6), (0, .ref 0), (1, .int (-6))]) kc_91_2 rfl rfl (xm_lt ml_91 rfl) ?_
              refine xi_iload_n (pc' := 4) (x := 6) kc_91_3 rfl rfl ?_
              refine xi_iff (pc' := 7) kc_91_4 rfl rfl ?_
              refine xi_iload_n (pc' := 8) (x := 6) kc_91_7 rfl rfl ?_
              refine xi_aload_n (pc' := 9) (x := 0) kc_91_8 rfl rfl ?_
              refine xi_getfield (pc' := 12) (v := .ref 94) kc_91_9 rfl rfl rfl (F 0 _ hl_0) rfl ?_
              refine xi_arraylength (pc' := 13) (n := 7) (v := 7) kc_91_12 rfl (xl_lenI (by decide) (by decide) (F 94 _ hl_94) (by simp only [List.length_replicate, List.length_cons, List.length_nil])) rfl ?_
              refine xi_cmf (pc' := 16) kc_91_13 rfl rfl ?_
              refine xi_aload_n (pc' := 17) (x := 0) kc_91_16 rfl rfl ?_
              refine xi_getfield (pc' := 20) (v := .ref 94) kc_91_17 rfl rfl rfl (F 0 _ hl_0) rfl ?_
              refine xi_iload_n (pc' := 21) (x := 6) kc_91_20 rfl rfl ?_
              refine xi_dup2 (pc' := 22) kc_91_21 rfl ⟨rfl, rfl⟩ ?_
              refine xi_iaload (pc' := 23) (v := 0) kc_91_22 rfl (F 94 _ hl_94) (by decide) rfl (xi_in (n := 7) (by decide) (by decide)) rfl ?_
              refine xi_iconst (pc' := 24) (v := 1) kc_91_23 rfl rfl ?_
              refine xi_iadd (pc' := 25) (v := 1) kc_91_24 rfl rfl ?_
              refine xi_iastore (pc' := 26) (x' := [0, 0, 0, 0, 0, 0, 1]) kc_91_25 rfl (F 94 _ hl_94) rfl (xi_in (n := 7) (by decide) (by decide)) rfl (fun hh1 eh1 => ?_)
              refine xi_iload_n (pc' := 27) (x := (-6)) kc_91_26 rfl rfl ?_
              refine xi_ireturn kc_91_27 mr_91 rfl ?_
              show xw J ov 99 89 (60, [(0, .ref 0), (1, .int a1), (2, .int 5), (3, .int a3)], [.int (-6)], hh1) _
              refine xi_ireturn kc_89_60 mr_89 rfl ?_
              show xw J ov 100 196 (214, [(4, .int 0), (3, .ref 167), (2, .ref 115), (1, .ref 0), (0, .ref 1000000)], [.int (-6)], hh1) _
              refine xi_aload_n (pc' := 215) (x := 115) kc_196_214 rfl rfl ?_
              refine xi_aload_n (pc' := 216) (x := 1000000) kc_196_215 rfl rfl ?_
              refine xi_iload (pc' := 218) (x := 0) kc_196_216 rfl rfl ?_
              refine xi_iconst (pc' := 219) (v := 1) kc_196_218 rfl rfl ?_
              refine xi_iadd (pc' := 220) (v := 1) kc_196_219 rfl rfl ?_
              refine xi_ialoadO (pc' := 221) (v := a1) kc_196_220 rfl (by decide) hov0 (xi_in (n := 6) (by decide) (by decide)) rfl ?_
              refine xi_aload_n (pc' := 222) (x := 1000000) kc_196_221 rfl rfl ?_
              refine xi_iload (pc' := 224) (x := 0) kc_196_222 rfl rfl ?_
              refine xi_iconst (pc' := 225) (v := 2) kc_196_224 rfl rfl ?_
              refine xi_iadd (pc' := 226) (v := 2) kc_196_225 rfl rfl ?_
              refine xi_ialoadO (pc' := 227) (v := 5) kc_196_226 rfl (by decide) hov0 (xi_in (n := 6) (by decide) (by decide)) rfl ?_
              refine xi_aload_n (pc' := 228) (x := 1000000) kc_196_227 rfl rfl ?_
              refine xi_iload (pc' := 230) (x := 0) kc_196_228 rfl rfl ?_
              refine xi_iconst (pc' := 231) (v := 3) kc_196_230 rfl rfl ?_
              refine xi_iadd (pc' := 232) (v := 3) kc_196_231 rfl rfl ?_
              refine xi_ialoadO (pc' := 233) (v := a3) kc_196_232 rfl (by decide) hov0 (xi_in (n := 6) (by decide) (by decide)) rfl ?_
              refine xi_virtual (mj := 10) (as := [.int a1, .int 5, .int a3]) (st1 := [.int (-6)]) (lv0 := [(0, .ref 115), (1, .int a1), (2, .int 5), (3, .int a3)]) kc_196_233 rfl rfl rfl rfl rfl ((eh1.2.1 115 (by decide)).trans (F 115 _ hl_115)) (Nat.le_of_ble_eq_true rfl) (hJ _ _ _ _ (by decide)) (xm_le ml_10 rfl) rfl ?_
              refine xi_aload_n (pc' := 1) (x := 115) kc_10_0 rfl rfl ?_
              refine xi_iconst (pc' := 2) (v := 0) kc_10_1 rfl rfl ?_
              refine xi_putfield (pc' := 5) (fs' := [.int 0, .int 0, .ref 116, .ref 117, .ref 118, .ref 119, .ref 120, .ref 121, .ref 122, .ref 123, .ref 124, .ref 125, .ref 126, .ref 127, .ref 128, .ref 129, .int 4, .ref 130, .int 0, .ref 131, .ref 132, .ref 133, .ref 134, .int 0, .ref 135, .ref 136, .ref 137, .ref 138, .ref 139, .ref 140, .ref 141, .ref 142, .int 0, .int 0, .int 0, .ref 143, .ref 144, .ref 145, .ref 146, .ref 147, .ref 148, .int 0, .ref 149, .ref 150, .ref 151, .int 0, .ref 152, .ref 153, .ref 154, .ref 155, .ref 156, .ref 157, .ref 158, .ref 159, .int 0, .ref 160, .int 0, .ref 161, .ref 162, .ref 163, .ref 164, .int 0, .ref 165, .ref 166]) kc_10_2 rfl rfl rfl ((eh1.2.1 115 (by decide)).trans (F 115 _ hl_115)) rfl rfl rfl (Nat.le_of_ble_eq_true rfl) rfl (fun hh2 eh2 => ?_)
              refine xi_iload_n (pc' := 6) (x := a1) kc_10_5 rfl rfl ?_
              refine xi_static (mj := 11) (as := [.int a1]) (st1 := []) (lv0 := [(0, .int a1)]) kc_10_6 rfl rfl (Nat.le_of_ble_eq_true rfl) rfl rfl (Nat.le_of_ble_eq_true rfl) (hJ _ _ _ _ (by decide)) (xm_le ml_11 rfl) rfl ?_
              refine xi_iload_n (pc' := 1) (x := a1) kc_11_0 rfl rfl ?_
              refine xi_iconst (pc' := 2) (v := 0) kc_11_1 rfl rfl ?_
              refine xi_iconst (pc' := 3) (v := 5) kc_11_2 rfl rfl ?_
              refine xi_static (mj := 12) (as := [.int a1, .int 0, .int 5]) (st1 := []) (lv0 := [(0, .int a1), (1, .int 0), (2, .int 5)]) kc_11_3 rfl rfl (Nat.le_of_ble_eq_true rfl) rfl rfl (Nat.le_of_ble_eq_true rfl) (hJ _ _ _ _ (by decide)) (xm_le ml_12 rfl) rfl ?_
              refine xi_iload_n (pc' := 1) (x := a1) kc_12_0 rfl rfl ?_
              refine xi_iload_n (pc' := 2) (x := 0) kc_12_1 rfl rfl ?_
              refine xi_cmf (pc' := 5) kc_12_2 rfl (xc_lt_f (X := a1.toInt) (Y := 0) rfl (by decide) (by omega)) ?_
              refine xi_iload_n (pc' := 6) (x := a1) kc_12_5 rfl rfl ?_
              refine xi_iload_n (pc' := 7) (x := 5) kc_12_6 rfl rfl ?_
              refine xi_cmf (pc' := 10) kc_12_7 rfl (xc_gt_f (X := a1.toInt) (Y := 5) rfl (by decide) (by omega)) ?_
              refine xi_iconst (pc' := 11) (v := 1) kc_12_10 rfl rfl ?_
              refine xi_goto (pc' := 15) kc_12_11 rfl ?_
              refine xi_ireturn kc_12_15 mr_12 rfl ?_
              show xw J ov 98 11 (6, [(0, .int a1)], [.int 1], hh2) _
              refine xi_ireturn kc_11_6 mr_11 rfl ?_
              show xw J ov 99 10 (9, [(0, .ref 115), (1, .int a1), (2, .int 5), (3, .int a3)], [.int 1], hh2) _
              refine xi_ift (pc' := 18) kc_10_9 rfl rfl ?_
              refine xi_iload_n (pc' := 19) (x := 5) kc_10_18 rfl rfl ?_
              refine xi_iconst (pc' := 20) (v := 0) kc_10_19 rfl rfl ?_
              refine xi_iconst (pc' := 21) (v := 5) kc_10_20 rfl rfl ?_
              refine xi_static (mj := 12) (as := [.int 5, .int 0, .int 5]) (st1 := []) (lv0 := [(0, .int 5), (1, .int 0), (2, .int 5)]) kc_10_21 rfl rfl (Nat.le_of_ble_eq_true rfl) rfl rfl (Nat.le_of_ble_eq_true rfl) (hJ _ _ _ _ (by decide)) (xm_le ml_12 rfl) rfl ?_
              refine xi_iload_n (pc' := 1) (x := 5) kc_12_0 rfl rfl ?_
              refine xi_iload_n (pc' := 2) (x := 0) kc_12_1 rfl rfl ?_
              refine xi_cmf (pc' := 5) kc_12_2 rfl rfl ?_
              refine xi_iload_n (pc' := 6) (x := 5) kc_12_5 rfl rfl ?_
              refine xi_iload_n (pc' := 7) (x := 5) kc_12_6 rfl rfl ?_
              refine xi_cmf (pc' := 10) kc_12_7 rfl rfl ?_
              refine xi_iconst (pc' := 11) (v := 1) kc_12_10 rfl rfl ?_
              refine xi_goto (pc' := 15) kc_12_11 rfl ?_
              refine xi_ireturn kc_12_15 mr_12 rfl ?_
              show xw J ov 99 10 (24, [(0, .ref 115), (1, .int a1), (2, .int 5), (3, .int a3)], [.int 1], hh2) _
              refine xi_ift (pc' := 34) kc_10_24 rfl rfl ?_
              refine xi_iload_n (pc' := 35) (x := a3) kc_10_34 rfl rfl ?_
              refine xi_iload_n (pc' := 36) (x := 5) kc_10_35 rfl rfl ?_
              refine xi_ift (pc' := 44) kc_10_36 rfl rfl ?_
              refine xi_iconst (pc' := 45) (v := 0) kc_10_44 rfl rfl ?_
              refine xi_cmt (pc' := 55) kc_10_45 rfl (xc_ge_t (X := a3.toInt) (Y := 0) rfl (by decide) (by omega)) ?_
              refine xi_iload_n (pc' := 56) (x := a3) kc_10_55 rfl rfl ?_
              refine xi_iload_n (pc' := 57) (x := 5) kc_10_56 rfl rfl ?_
              refine xi_ift (pc' := 65) kc_10_57 rfl rfl ?_
              refine xi_iload_n (pc' := 66) (x := 5) kc_10_65 rfl rfl ?_
              refine xi_iconst (pc' := 67) (v := 1) kc_10_66 rfl rfl ?_
              refine xi_cmt (pc' := 75) kc_10_67 rfl rfl ?_
              refine xi_iload_n (pc' := 76) (x := 5) kc_10_75 rfl rfl ?_
              refine xi_iconst (pc' := 77) (v := 4) kc_10_76 rfl rfl ?_
              refine xi_cmt (pc' := 85) kc_10_77 rfl rfl ?_
              refine xi_iload_n (pc' := 86) (x := 5) kc_10_85 rfl rfl ?_
              refine xi_iconst (pc' := 87) (v := 4) kc_10_86 rfl rfl ?_
              refine xi_cmt (pc' := 94) kc_10_87 rfl rfl ?_
              refine xi_ldc (pc' := 96) (v := 99999) kc_10_94 rfl rfl ?_
              refine xi_cmf (pc' := 99) kc_10_96 rfl (xc_le_f (X := a3.toInt) (Y := 99999) rfl (by decide) (by omega)) ?_
              refine xi_aload_n (pc' := 100) (x := 115) kc_10_99 rfl rfl ?_
              refine xi_bipush (pc' := 102) (v := (-6)) kc_10_100 rfl rfl ?_
              refine xi_virtual (mj := 13) (as := [.int (-6)]) (st1 := []) (lv0 := [(0, .ref 115), (1, .int (-6))]) kc_10_102 rfl rfl rfl rfl rfl eh2.1 (Nat.le_of_ble_eq_true rfl) (hJ _ _ _ _ (by decide)) (xm_le ml_13 rfl) rfl ?_
              refine xi_aload_n (pc' := 1) (x := 115) kc_13_0 rfl rfl ?_
              refine xi_getfield (pc' := 4) (v := .ref 140) kc_13_1 rfl rfl rfl eh2.1 rfl ?_
              refine xi_iload_n (pc' := 5) (x := (-6)) kc_13_4 rfl rfl ?_
              refine xi_ineg (pc' := 6) (v := 6) kc_13_5 rfl rfl ?_
              refine xi_dup2 (pc' := 7) kc_13_6 rfl ⟨rfl, rfl⟩ ?_
              refine xi_iaload (pc' := 8) (v := 0) kc_13_7 rfl ((eh2.2.1 140 (by decide)).trans ((eh1.2.1 140 (by decide)).trans (F 140 _ hl_140))) (by decide) rfl (xi_in (n := 7) (by decide) (by decide)) rfl ?_
              refine xi_iconst (pc' := 9) (v := 1) kc_13_8 rfl rfl ?_
              refine xi_iadd (pc' := 10) (v := 1) kc_13_9 rfl rfl ?_
              refine xi_iastore (pc' := 11) (x' := [0, 0, 0, 0, 0, 0, 1]) kc_13_10 rfl ((eh2.2.1 140 (by decide)).trans ((eh1.2.1 140 (by decide)).trans (F 140 _ hl_140))) rfl (xi_in (n := 7) (by decide) (by decide)) rfl (fun hh3 eh3 => ?_)
              refine xi_iload_n (pc' := 12) (x := (-6)) kc_13_11 rfl rfl ?_
              refine xi_ireturn kc_13_12 mr_13 rfl ?_
              show xw J ov 99 10 (105, [(0, .ref 115), (1, .int a1), (2, .int 5), (3, .int a3)], [.int (-6)], hh3) _
              refine xi_ireturn kc_10_105 mr_10 rfl ?_
              show xw J ov 100 196 (236, [(4, .int 0), (3, .ref 167), (2, .ref 115), (1, .ref 0), (0, .ref 1000000)], [.int (-6), .int (-6)], hh3) _
              refine xi_cmt (pc' := 1528) kc_196_236 rfl rfl ?_
              refine xi_iinc (pc' := 1531) (x := 0) (v := 6) (lv' := [(4, .int 6), (3, .ref 167), (2, .ref 115), (1, .ref 0), (0, .ref 1000000)]) kc_196_1528 rfl rfl rfl rfl (xm_lt ml_196 rfl) ?_
              refine xi_goto (pc' := 23) kc_196_1531 rfl ?_
              refine xi_iload (pc' := 25) (x := 6) kc_196_23 rfl rfl ?_
              refine xi_aload_n (pc' := 26) (x := 1000000) kc_196_25 rfl rfl ?_
              refine xi_arraylength (pc' := 27) (n := 6) (v := 6) kc_196_26 rfl (xl_lenO (by decide) hov0 rfl) rfl ?_
              refine xi_bipush (pc' := 29) (v := 6) kc_196_27 rfl rfl ?_
              refine xi_isub (pc' := 30) (v := 0) kc_196_29 rfl rfl ?_
              refine xi_cmt (pc' := 1534) kc_196_30 rfl rfl ?_
              refine xi_iconst (pc' := 1535) (v := 1) kc_196_1534 rfl rfl ?_
              refine xi_ireturn kc_196_1535 mr_196 rfl ?_
              refine ⟨rfl, ?_, ?_⟩
              · rw [eh3.2.2.1, eh2.2.2.1, eh1.2.2.1]; exact hn0
              · rw [eh3.2.2.2, eh2.2.2.2, eh1.2.2.2]; exact hz0
          · refine xi_cmf (pc' := 38) kc_89_35 rfl (xc_ge_f (X := a3.toInt) (Y := 0) rfl (by decide) (by omega)) ?_
            refine xi_aload_n (pc' := 39) (x := 0) kc_89_38 rfl rfl ?_
            refine xi_bipush (pc' := 41) (v := (-4)) kc_89_39 rfl rfl ?_
            refine xi_virtual (mj := 91) (as := [.int (-4)]) (st1 := []) (lv0 := [(0, .ref 0), (1, .int (-4))]) kc_89_41 rfl rfl rfl rfl rfl (F 0 _ hl_0) (Nat.le_of_ble_eq_true rfl) (hJ _ _ _ _ (by decide)) (xm_le ml_91 rfl) rfl ?_
            refine xi_iload_n (pc' := 1) (x := (-4)) kc_91_0 rfl rfl ?_
            refine xi_ineg (pc' := 2) (v := 4) kc_91_1 rfl rfl ?_
            refine xi_istore_n (pc' := 3) (lv' := [(2, .int 4), (0, .ref 0), (1, .int (-4))]) kc_91_2 rfl rfl (xm_lt ml_91 rfl) ?_
            refine xi_iload_n (pc' := 4) (x := 4) kc_91_3 rfl rfl ?_
            refine xi_iff (pc' := 7) kc_91_4 rfl rfl ?_
            refine xi_iload_n (pc' := 8) (x := 4) kc_91_7 rfl rfl ?_
            refine xi_aload_n (pc' := 9) (x := 0) kc_91_8 rfl rfl ?_
            refine xi_getfield (pc' := 12) (v := .ref 94) kc_91_9 rfl rfl rfl (F 0 _ hl_0) rfl ?_
            refine xi_arraylength (pc' := 13) (n := 7) (v := 7) kc_91_12 rfl (xl_lenI (by decide) (by decide) (F 94 _ hl_94) (by simp only [List.length_replicate, List.length_cons, List.length_nil])) rfl ?_
            refine xi_cmf (pc' := 16) kc_91_13 rfl rfl ?_
            refine xi_aload_n (pc' := 17) (x := 0) kc_91_16 rfl rfl ?_
            refine xi_getfield (pc' := 20) (v := .ref 94) kc_91_17 rfl rfl rfl (F 0 _ hl_0) rfl ?_
            refine xi_iload_n (pc' := 21) (x := 4) kc_91_20 rfl rfl ?_
            refine xi_dup2 (pc' := 22) kc_91_21 rfl ⟨rfl, rfl⟩ ?_
            refine xi_iaload (pc' := 23) (v := 0) kc_91_22 rfl (F 94 _ hl_94) (by decide) rfl (xi_in (n := 7) (by decide) (by decide)) rfl ?_
            refine xi_iconst (pc' := 24) (v := 1) kc_91_23 rfl rfl ?_
            refine xi_iadd (pc' := 25) (v := 1) kc_91_24 rfl rfl ?_
            refine xi_iastore (pc' := 26) (x' := [0, 0, 0, 0, 1, 0, 0]) kc_91_25 rfl (F 94 _ hl_94) rfl (xi_in (n := 7) (by decide) (by decide)) rfl (fun hh1 eh1 => ?_)
            refine xi_iload_n (pc' := 27) (x := (-4)) kc_91_26 rfl rfl ?_
            refine xi_ireturn kc_91_27 mr_91 rfl ?_
            show xw J ov 99 89 (44, [(0, .ref 0), (1, .int a1), (2, .int 5), (3, .int a3)], [.int (-4)], hh1) _
            refine xi_ireturn kc_89_44 mr_89 rfl ?_
            show xw J ov 100 196 (214, [(4, .int 0), (3, .ref 167), (2, .ref 115), (1, .ref 0), (0, .ref 1000000)], [.int (-4)], hh1) _
            refine xi_aload_n (pc' := 215) (x := 115) kc_196_214 rfl rfl ?_
            refine xi_aload_n (pc' := 216) (x := 1000000) kc_196_215 rfl rfl ?_
            refine xi_iload (pc' := 218) (x := 0) kc_196_216 rfl rfl ?_
            refine xi_iconst (pc' := 219) (v := 1) kc_196_218 rfl rfl ?_
            refine xi_iadd (pc' := 220) (v := 1) kc_196_219 rfl rfl ?_
            refine xi_ialoadO (pc' := 221) (v := a1) kc_196_220 rfl (by decide) hov0 (xi_in (n := 6) (by decide) (by decide)) rfl ?_
            refine xi_aload_n (pc' := 222) (x := 1000000) kc_196_221 rfl rfl ?_
            refine xi_iload (pc' := 224) (x := 0) kc_196_222 rfl rfl ?_
            refine xi_iconst (pc' := 225) (v := 2) kc_196_224 rfl rfl ?_
            refine xi_iadd (pc' := 226) (v := 2) kc_196_225 rfl rfl ?_
            refine xi_ialoadO (pc' := 227) (v := 5) kc_196_226 rfl (by decide) hov0 (xi_in (n := 6) (by decide) (by decide)) rfl ?_
            refine xi_aload_n (pc' := 228) (x := 1000000) kc_196_227 rfl rfl ?_
            refine xi_iload (pc' := 230) (x := 0) kc_196_228 rfl rfl ?_
            refine xi_iconst (pc' := 231) (v := 3) kc_196_230 rfl rfl ?_
            refine xi_iadd (pc' := 232) (v := 3) kc_196_231 rfl rfl ?_
            refine xi_ialoadO (pc' := 233) (v := a3) kc_196_232 rfl (by decide) hov0 (xi_in (n := 6) (by decide) (by decide)) rfl ?_
            refine xi_virtual (mj := 10) (as := [.int a1, .int 5, .int a3]) (st1 := [.int (-4)]) (lv0 := [(0, .ref 115), (1, .int a1), (2, .int 5), (3, .int a3)]) kc_196_233 rfl rfl rfl rfl rfl ((eh1.2.1 115 (by decide)).trans (F 115 _ hl_115)) (Nat.le_of_ble_eq_true rfl) (hJ _ _ _ _ (by decide)) (xm_le ml_10 rfl) rfl ?_
            refine xi_aload_n (pc' := 1) (x := 115) kc_10_0 rfl rfl ?_
            refine xi_iconst (pc' := 2) (v := 0) kc_10_1 rfl rfl ?_
            refine xi_putfield (pc' := 5) (fs' := [.int 0, .int 0, .ref 116, .ref 117, .ref 118, .ref 119, .ref 120, .ref 121, .ref 122, .ref 123, .ref 124, .ref 125, .ref 126, .ref 127, .ref 128, .ref 129, .int 4, .ref 130, .int 0, .ref 131, .ref 132, .ref 133, .ref 134, .int 0, .ref 135, .ref 136, .ref 137, .ref 138, .ref 139, .ref 140, .ref 141, .ref 142, .int 0, .int 0, .int 0, .ref 143, .ref 144, .ref 145, .ref 146, .ref 147, .ref 148, .int 0, .ref 149, .ref 150, .ref 151, .int 0, .ref 152, .ref 153, .ref 154, .ref 155, .ref 156, .ref 157, .ref 158, .ref 159, .int 0, .ref 160, .int 0, .ref 161, .ref 162, .ref 163, .ref 164, .int 0, .ref 165, .ref 166]) kc_10_2 rfl rfl rfl ((eh1.2.1 115 (by decide)).trans (F 115 _ hl_115)) rfl rfl rfl (Nat.le_of_ble_eq_true rfl) rfl (fun hh2 eh2 => ?_)
            refine xi_iload_n (pc' := 6) (x := a1) kc_10_5 rfl rfl ?_
            refine xi_static (mj := 11) (as := [.int a1]) (st1 := []) (lv0 := [(0, .int a1)]) kc_10_6 rfl rfl (Nat.le_of_ble_eq_true rfl) rfl rfl (Nat.le_of_ble_eq_true rfl) (hJ _ _ _ _ (by decide)) (xm_le ml_11 rfl) rfl ?_
            refine xi_iload_n (pc' := 1) (x := a1) kc_11_0 rfl rfl ?_
            refine xi_iconst (pc' := 2) (v := 0) kc_11_1 rfl rfl ?_
            refine xi_iconst (pc' := 3) (v := 5) kc_11_2 rfl rfl ?_
            refine xi_static (mj := 12) (as := [.int a1, .int 0, .int 5]) (st1 := []) (lv0 := [(0, .int a1), (1, .int 0), (2, .int 5)]) kc_11_3 rfl rfl (Nat.le_of_ble_eq_true rfl) rfl rfl (Nat.le_of_ble_eq_true rfl) (hJ _ _ _ _ (by decide)) (xm_le ml_12 rfl) rfl ?_
            refine xi_iload_n (pc' := 1) (x := a1) kc_12_0 rfl rfl ?_
            refine xi_iload_n (pc' := 2) (x := 0) kc_12_1 rfl rfl ?_
            refine xi_cmf (pc' := 5) kc_12_2 rfl (xc_lt_f (X := a1.toInt) (Y := 0) rfl (by decide) (by omega)) ?_
            refine xi_iload_n (pc' := 6) (x := a1) kc_12_5 rfl rfl ?_
            refine xi_iload_n (pc' := 7) (x := 5) kc_12_6 rfl rfl ?_
            refine xi_cmf (pc' := 10) kc_12_7 rfl (xc_gt_f (X := a1.toInt) (Y := 5) rfl (by decide) (by omega)) ?_
            refine xi_iconst (pc' := 11) (v := 1) kc_12_10 rfl rfl ?_
            refine xi_goto (pc' := 15) kc_12_11 rfl ?_
            refine xi_ireturn kc_12_15 mr_12 rfl ?_
            show xw J ov 98 11 (6, [(0, .int a1)], [.int 1], hh2) _
            refine xi_ireturn kc_11_6 mr_11 rfl ?_
            show xw J ov 99 10 (9, [(0, .ref 115), (1, .int a1), (2, .int 5), (3, .int a3)], [.int 1], hh2) _
            refine xi_ift (pc' := 18) kc_10_9 rfl rfl ?_
            refine xi_iload_n (pc' := 19) (x := 5) kc_10_18 rfl rfl ?_
            refine xi_iconst (pc' := 20) (v := 0) kc_10_19 rfl rfl ?_
            refine xi_iconst (pc' := 21) (v := 5) kc_10_20 rfl rfl ?_
            refine xi_static (mj := 12) (as := [.int 5, .int 0, .int 5]) (st1 := []) (lv0 := [(0, .int 5), (1, .int 0), (2, .int 5)]) kc_10_21 rfl rfl (Nat.le_of_ble_eq_true rfl) rfl rfl (Nat.le_of_ble_eq_true rfl) (hJ _ _ _ _ (by decide)) (xm_le ml_12 rfl) rfl ?_
            refine xi_iload_n (pc' := 1) (x := 5) kc_12_0 rfl rfl ?_
            refine xi_iload_n (pc' := 2) (x := 0) kc_12_1 rfl rfl ?_
            refine xi_cmf (pc' := 5) kc_12_2 rfl rfl ?_
            refine xi_iload_n (pc' := 6) (x := 5) kc_12_5 rfl rfl ?_
            refine xi_iload_n (pc' := 7) (x := 5) kc_12_6 rfl rfl ?_
            refine xi_cmf (pc' := 10) kc_12_7 rfl rfl ?_
            refine xi_iconst (pc' := 11) (v := 1) kc_12_10 rfl rfl ?_
            refine xi_goto (pc' := 15) kc_12_11 rfl ?_
            refine xi_ireturn kc_12_15 mr_12 rfl ?_
            show xw J ov 99 10 (24, [(0, .ref 115), (1, .int a1), (2, .int 5), (3, .int a3)], [.int 1], hh2) _
            refine xi_ift (pc' := 34) kc_10_24 rfl rfl ?_
            refine xi_iload_n (pc' := 35) (x := a3) kc_10_34 rfl rfl ?_
            refine xi_iload_n (pc' := 36) (x := 5) kc_10_35 rfl rfl ?_
            refine xi_ift (pc' := 44) kc_10_36 rfl rfl ?_
            refine xi_iconst (pc' := 45) (v := 0) kc_10_44 rfl rfl ?_
            refine xi_cmf (pc' := 48) kc_10_45 rfl (xc_ge_f (X := a3.toInt) (Y := 0) rfl (by decide) (by omega)) ?_
            refine xi_aload_n (pc' := 49) (x := 115) kc_10_48 rfl rfl ?_
            refine xi_bipush (pc' := 51) (v := (-4)) kc_10_49 rfl rfl ?_
            refine xi_virtual (mj := 13) (as := [.int (-4)]) (st1 := []) (lv0 := [(0, .ref 115), (1, .int (-4))]) kc_10_51 rfl rfl rfl rfl rfl eh2.1 (Nat.le_of_ble_eq_true rfl) (hJ _ _ _ _ (by decide)) (xm_le ml_13 rfl) rfl ?_
            refine xi_aload_n (pc' := 1) (x := 115) kc_13_0 rfl rfl ?_
            refine xi_getfield (pc' := 4) (v := .ref 140) kc_13_1 rfl rfl rfl eh2.1 rfl ?_
            refine xi_iload_n (pc' := 5) (x := (-4)) kc_13_4 rfl rfl ?_
            refine xi_ineg (pc' := 6) (v := 4) kc_13_5 rfl rfl ?_
            refine xi_dup2 (pc' := 7) kc_13_6 rfl ⟨rfl, rfl⟩ ?_
            refine xi_iaload (pc' := 8) (v := 0) kc_13_7 rfl ((eh2.2.1 140 (by decide)).trans ((eh1.2.1 140 (by decide)).trans (F 140 _ hl_140))) (by decide) rfl (xi_in (n := 7) (by decide) (by decide)) rfl ?_
            refine xi_iconst (pc' := 9) (v := 1) kc_13_8 rfl rfl ?_
            refine xi_iadd (pc' := 10) (v := 1) kc_13_9 rfl rfl ?_
            refine xi_iastore (pc' := 11) (x' := [0, 0, 0, 0, 1, 0, 0]) kc_13_10 rfl ((eh2.2.1 140 (by decide)).trans ((eh1.2.1 140 (by decide)).trans (F 140 _ hl_140))) rfl (xi_in (n := 7) (by decide) (by decide)) rfl (fun hh3 eh3 => ?_)
            refine xi_iload_n (pc' := 12) (x := (-4)) kc_13_11 rfl rfl ?_
            refine xi_ireturn kc_13_12 mr_13 rfl ?_
            show xw J ov 99 10 (54, [(0, .ref 115), (1, .int a1), (2, .int 5), (3, .int a3)], [.int (-4)], hh3) _
            refine xi_ireturn kc_10_54 mr_10 rfl ?_
            show xw J ov 100 196 (236, [(4, .int 0), (3, .ref 167), (2, .ref 115), (1, .ref 0), (0, .ref 1000000)], [.int (-4), .int (-4)], hh3) _
            refine xi_cmt (pc' := 1528) kc_196_236 rfl rfl ?_
            refine xi_iinc (pc' := 1531) (x := 0) (v := 6) (lv' := [(4, .int 6), (3, .ref 167), (2, .ref 115), (1, .ref 0), (0, .ref 1000000)]) kc_196_1528 rfl rfl rfl rfl (xm_lt ml_196 rfl) ?_
            refine xi_goto (pc' := 23) kc_196_1531 rfl ?_
            refine xi_iload (pc' := 25) (x := 6) kc_196_23 rfl rfl ?_
            refine xi_aload_n (pc' := 26) (x := 1000000) kc_196_25 rfl rfl ?_
            refine xi_arraylength (pc' := 27) (n := 6) (v := 6) kc_196_26 rfl (xl_lenO (by decide) hov0 rfl) rfl ?_
            refine xi_bipush (pc' := 29) (v := 6) kc_196_27 rfl rfl ?_
            refine xi_isub (pc' := 30) (v := 0) kc_196_29 rfl rfl ?_
            refine xi_cmt (pc' := 1534) kc_196_30 rfl rfl ?_
            refine xi_iconst (pc' := 1535) (v := 1) kc_196_1534 rfl rfl ?_
            refine xi_ireturn kc_196_1535 mr_196 rfl ?_
            refine ⟨rfl, ?_, ?_⟩
            · rw [eh3.2.2.1, eh2.2.2.1, eh1.2.2.1]; exact hn0
            · rw [eh3.2.2.2, eh2.2.2.2, eh1.2.2.2]; exact hz0
        · refine xi_cmf (pc' := 22) kc_89_19 rfl (xc_le_f (X := a2.toInt) (Y := 5) rfl (by decide) (by omega)) ?_
          refine xi_aload_n (pc' := 23) (x := 0) kc_89_22 rfl rfl ?_
          refine xi_bipush (pc' := 25) (v := (-2)) kc_89_23 rfl rfl ?_
          refine xi_virtual (mj := 91) (as := [.int (-2)]) (st1 := []) (lv0 := [(0, .ref 0), (1, .int (-2))]) kc_89_25 rfl rfl rfl rfl rfl (F 0 _ hl_0) (Nat.le_of_ble_eq_true rfl) (hJ _ _ _ _ (by decide)) (xm_le ml_91 rfl) rfl ?_
          refine xi_iload_n (pc' := 1) (x := (-2)) kc_91_0 rfl rfl ?_
          refine xi_ineg (pc' := 2) (v := 2) kc_91_1 rfl rfl ?_
          refine xi_istore_n (pc' := 3) (lv' := [(2, .int 2), (0, .ref 0), (1, .int (-2))]) kc_91_2 rfl rfl (xm_lt ml_91 rfl) ?_
          refine xi_iload_n (pc' := 4) (x := 2) kc_91_3 rfl rfl ?_
          refine xi_iff (pc' := 7) kc_91_4 rfl rfl ?_
          refine xi_iload_n (pc' := 8) (x := 2) kc_91_7 rfl rfl ?_
          refine xi_aload_n (pc' := 9) (x := 0) kc_91_8 rfl rfl ?_
          refine xi_getfield (pc' := 12) (v := .ref 94) kc_91_9 rfl rfl rfl (F 0 _ hl_0) rfl ?_
          refine xi_arraylength (pc' := 13) (n := 7) (v := 7) kc_91_12 rfl (xl_lenI (by decide) (by decide) (F 94 _ hl_94) (by simp only [List.length_replicate, List.length_cons, List.length_nil])) rfl ?_
          refine xi_cmf (pc' := 16) kc_91_13 rfl rfl ?_
          refine xi_aload_n (pc' := 17) (x := 0) kc_91_16 rfl rfl ?_
          refine xi_getfield (pc' := 20) (v := .ref 94) kc_91_17 rfl rfl rfl (F 0 _ hl_0) rfl ?_
          refine xi_iload_n (pc' := 21) (x := 2) kc_91_20 rfl rfl ?_
          refine xi_dup2 (pc' := 22) kc_91_21 rfl ⟨rfl, rfl⟩ ?_
          refine xi_iaload (pc' := 23) (v := 0) kc_91_22 rfl (F 94 _ hl_94) (by decide) rfl (xi_in (n := 7) (by decide) (by decide)) rfl ?_
          refine xi_iconst (pc' := 24) (v := 1) kc_91_23 rfl rfl ?_
          refine xi_iadd (pc' := 25) (v := 1) kc_91_24 rfl rfl ?_
          refine xi_iastore (pc' := 26) (x' := [0, 0, 1, 0, 0, 0, 0]) kc_91_25 rfl (F 94 _ hl_94) rfl (xi_in (n := 7) (by decide) (by decide)) rfl (fun hh1 eh1 => ?_)
          refine xi_iload_n (pc' := 27) (x := (-2)) kc_91_26 rfl rfl ?_
          refine xi_ireturn kc_91_27 mr_91 rfl ?_
          show xw J ov 99 89 (28, [(0, .ref 0), (1, .int a1), (2, .int a2), (3, .int a3)], [.int (-2)], hh1) _
          refine xi_ireturn kc_89_28 mr_89 rfl ?_
          show xw J ov 100 196 (214, [(4, .int 0), (3, .ref 167), (2, .ref 115), (1, .ref 0), (0, .ref 1000000)], [.int (-2)], hh1) _
          refine xi_aload_n (pc' := 215) (x := 115) kc_196_214 rfl rfl ?_
          refine xi_aload_n (pc' := 216) (x := 1000000) kc_196_215 rfl rfl ?_
          refine xi_iload (pc' := 218) (x := 0) kc_196_216 rfl rfl ?_
          refine xi_iconst (pc' := 219) (v := 1) kc_196_218 rfl rfl ?_
          refine xi_iadd (pc' := 220) (v := 1) kc_196_219 rfl rfl ?_
          refine xi_ialoadO (pc' := 221) (v := a1) kc_196_220 rfl (by decide) hov0 (xi_in (n := 6) (by decide) (by decide)) rfl ?_
          refine xi_aload_n (pc' := 222) (x := 1000000) kc_196_221 rfl rfl ?_
          refine xi_iload (pc' := 224) (x := 0) kc_196_222 rfl rfl ?_
          refine xi_iconst (pc' := 225) (v := 2) kc_196_224 rfl rfl ?_
          refine xi_iadd (pc' := 226) (v := 2) kc_196_225 rfl rfl ?_
          refine xi_ialoadO (pc' := 227) (v := a2) kc_196_226 rfl (by decide) hov0 (xi_in (n := 6) (by decide) (by decide)) rfl ?_
          refine xi_aload_n (pc' := 228) (x := 1000000) kc_196_227 rfl rfl ?_
          refine xi_iload (pc' := 230) (x := 0) kc_196_228 rfl rfl ?_
          refine xi_iconst (pc' := 231) (v := 3) kc_196_230 rfl rfl ?_
          refine xi_iadd (pc' := 232) (v := 3) kc_196_231 rfl rfl ?_
          refine xi_ialoadO (pc' := 233) (v := a3) kc_196_232 rfl (by decide) hov0 (xi_in (n := 6) (by decide) (by decide)) rfl ?_
          refine xi_virtual (mj := 10) (as := [.int a1, .int a2, .int a3]) (st1 := [.int (-2)]) (lv0 := [(0, .ref 115), (1, .int a1), (2, .int a2), (3, .int a3)]) kc_196_233 rfl rfl rfl rfl rfl ((eh1.2.1 115 (by decide)).trans (F 115 _ hl_115)) (Nat.le_of_ble_eq_true rfl) (hJ _ _ _ _ (by decide)) (xm_le ml_10 rfl) rfl ?_
          refine xi_aload_n (pc' := 1) (x := 115) kc_10_0 rfl rfl ?_
          refine xi_iconst (pc' := 2) (v := 0) kc_10_1 rfl rfl ?_
          refine xi_putfield (pc' := 5) (fs' := [.int 0, .int 0, .ref 116, .ref 117, .ref 118, .ref 119, .ref 120, .ref 121, .ref 122, .ref 123, .ref 124, .ref 125, .ref 126, .ref 127, .ref 128, .ref 129, .int 4, .ref 130, .int 0, .ref 131, .ref 132, .ref 133, .ref 134, .int 0, .ref 135, .ref 136, .ref 137, .ref 138, .ref 139, .ref 140, .ref 141, .ref 142, .int 0, .int 0, .int 0, .ref 143, .ref 144, .ref 145, .ref 146, .ref 147, .ref 148, .int 0, .ref 149, .ref 150, .ref 151, .int 0, .ref 152, .ref 153, .ref 154, .ref 155, .ref 156, .ref 157, .ref 158, .ref 159, .int 0, .ref 160, .int 0, .ref 161, .ref 162, .ref 163, .ref 164, .int 0, .ref 165, .ref 166]) kc_10_2 rfl rfl rfl ((eh1.2.1 115 (by decide)).trans (F 115 _ hl_115)) rfl rfl rfl (Nat.le_of_ble_eq_true rfl) rfl (fun hh2 eh2 => ?_)
          refine xi_iload_n (pc' := 6) (x := a1) kc_10_5 rfl rfl ?_
          refine xi_static (mj := 11) (as := [.int a1]) (st1 := []) (lv0 := [(0, .int a1)]) kc_10_6 rfl rfl (Nat.le_of_ble_eq_true rfl) rfl rfl (Nat.le_of_ble_eq_true rfl) (hJ _ _ _ _ (by decide)) (xm_le ml_11 rfl) rfl ?_
          refine xi_iload_n (pc' := 1) (x := a1) kc_11_0 rfl rfl ?_
          refine xi_iconst (pc' := 2) (v := 0) kc_11_1 rfl rfl ?_
          refine xi_iconst (pc' := 3) (v := 5) kc_11_2 rfl rfl ?_
          refine xi_static (mj := 12) (as := [.int a1, .int 0, .int 5]) (st1 := []) (lv0 := [(0, .int a1), (1, .int 0), (2, .int 5)]) kc_11_3 rfl rfl (Nat.le_of_ble_eq_true rfl) rfl rfl (Nat.le_of_ble_eq_true rfl) (hJ _ _ _ _ (by decide)) (xm_le ml_12 rfl) rfl ?_
          refine xi_iload_n (pc' := 1) (x := a1) kc_12_0 rfl rfl ?_
          refine xi_iload_n (pc' := 2) (x := 0) kc_12_1 rfl rfl ?_
          refine xi_cmf (pc' := 5) kc_12_2 rfl (xc_lt_f (X := a1.toInt) (Y := 0) rfl (by decide) (by omega)) ?_
          refine xi_iload_n (pc' := 6) (x := a1) kc_12_5 rfl rfl ?_
          refine xi_iload_n (pc' := 7) (x := 5) kc_12_6 rfl rfl ?_
          refine xi_cmf (pc' := 10) kc_12_7 rfl (xc_gt_f (X := a1.toInt) (Y := 5) rfl (by decide) (by omega)) ?_
          refine xi_iconst (pc' := 11) (v := 1) kc_12_10 rfl rfl ?_
          refine xi_goto (pc' := 15) kc_12_11 rfl ?_
          refine xi_ireturn kc_12_15 mr_12 rfl ?_
          show xw J ov 98 11 (6, [(0, .int a1)], [.int 1], hh2) _
          refine xi_ireturn kc_11_6 mr_11 rfl ?_
          show xw J ov 99 10 (9, [(0, .ref 115), (1, .int a1), (2, .int a2), (3, .int a3)], [.int 1], hh2) _
          refine xi_ift (pc' := 18) kc_10_9 rfl rfl ?_
          refine xi_iload_n (pc' := 19) (x := a2) kc_10_18 rfl rfl ?_
          refine xi_iconst (pc' := 20) (v := 0) kc_10_19 rfl rfl ?_
          refine xi_iconst (pc' := 21) (v := 5) kc_10_20 rfl rfl ?_
          refine xi_static (mj := 12) (as := [.int a2, .int 0, .int 5]) (st1 := []) (lv0 := [(0, .int a2), (1, .int 0), (2, .int 5)]) kc_10_21 rfl rfl (Nat.le_of_ble_eq_true rfl) rfl rfl (Nat.le_of_ble_eq_true rfl) (hJ _ _ _ _ (by decide)) (xm_le ml_12 rfl) rfl ?_
          refine xi_iload_n (pc' := 1) (x := a2) kc_12_0 rfl rfl ?_
          refine xi_iload_n (pc' := 2) (x := 0) kc_12_1 rfl rfl ?_
          refine xi_cmf (pc' := 5) kc_12_2 rfl (xc_lt_f (X := a2.toInt) (Y := 0) rfl (by decide) (by omega)) ?_
          refine xi_iload_n (pc' := 6) (x := a2) kc_12_5 rfl rfl ?_
          refine xi_iload_n (pc' := 7) (x := 5) kc_12_6 rfl rfl ?_
          refine xi_cmt (pc' := 14) kc_12_7 rfl (xc_gt_t (X := a2.toInt) (Y := 5) rfl (by decide) (by omega)) ?_
          refine xi_iconst (pc' := 15) (v := 0) kc_12_14 rfl rfl ?_
          refine xi_ireturn kc_12_15 mr_12 rfl ?_
          show xw J ov 99 10 (24, [(0, .ref 115), (1, .int a1), (2, .int a2), (3, .int a3)], [.int 0], hh2) _
          refine xi_iff (pc' := 27) kc_10_24 rfl rfl ?_
          refine xi_aload_n (pc' := 28) (x := 115) kc_10_27 rfl rfl ?_
          refine xi_bipush (pc' := 30) (v := (-2)) kc_10_28 rfl rfl ?_
          refine xi_virtual (mj := 13) (as := [.int (-2)]) (st1 := []) (lv0 := [(0, .ref 115), (1, .int (-2))]) kc_10_30 rfl rfl rfl rfl rfl eh2.1 (Nat.le_of_ble_eq_true rfl) (hJ _ _ _ _ (by decide)) (xm_le ml_13 rfl) rfl ?_
          refine xi_aload_n (pc' := 1) (x := 115) kc_13_0 rfl rfl ?_
          refine xi_getfield (pc' := 4) (v := .ref 140) kc_13_1 rfl rfl rfl eh2.1 rfl ?_
          refine xi_iload_n (pc' := 5) (x := (-2)) kc_13_4 rfl rfl ?_
          refine xi_ineg (pc' := 6) (v := 2) kc_13_5 rfl rfl ?_
          refine xi_dup2 (pc' := 7) kc_13_6 rfl ⟨rfl, rfl⟩ ?_
          refine xi_iaload (pc' := 8) (v := 0) kc_13_7 rfl ((eh2.2.1 140 (by decide)).trans ((eh1.2.1 140 (by decide)).trans (F 140 _ hl_140))) (by decide) rfl (xi_in (n := 7) (by decide) (by decide)) rfl ?_
          refine xi_iconst (pc' := 9) (v := 1) kc_13_8 rfl rfl ?_
          refine xi_iadd (pc' := 10) (v := 1) kc_13_9 rfl rfl ?_
          refine xi_iastore (pc' := 11) (x' := [0, 0, 1, 0, 0, 0, 0]) kc_13_10 rfl ((eh2.2.1 140 (by decide)).trans ((eh1.2.1 140 (by decide)).trans (F 140 _ hl_140))) rfl (xi_in (n := 7) (by decide) (by decide)) rfl (fun hh3 eh3 => ?_)
          refine xi_iload_n (pc' := 12) (x := (-2)) kc_13_11 rfl rfl ?_
          refine xi_ireturn kc_13_12 mr_13 rfl ?_
          show xw J ov 99 10 (33, [(0, .ref 115), (1, .int a1), (2, .int a2), (3, .int a3)], [.int (-2)], hh3) _
          refine xi_ireturn kc_10_33 mr_10 rfl ?_
          show xw J ov 100 196 (236, [(4, .int 0), (3, .ref 167), (2, .ref 115), (1, .ref 0), (0, .ref 1000000)], [.int (-2), .int (-2)], hh3) _
          refine xi_cmt (pc' := 1528) kc_196_236 rfl rfl ?_
          refine xi_iinc (pc' := 1531) (x := 0) (v := 6) (lv' := [(4, .int 6), (3, .ref 167), (2, .ref 115), (1, .ref 0), (0, .ref 1000000)]) kc_196_1528 rfl rfl rfl rfl (xm_lt ml_196 rfl) ?_
          refine xi_goto (pc' := 23) kc_196_1531 rfl ?_
          refine xi_iload (pc' := 25) (x := 6) kc_196_23 rfl rfl ?_
          refine xi_aload_n (pc' := 26) (x := 1000000) kc_196_25 rfl rfl ?_
          refine xi_arraylength (pc' := 27) (n := 6) (v := 6) kc_196_26 rfl (xl_lenO (by decide) hov0 rfl) rfl ?_
          refine xi_bipush (pc' := 29) (v := 6) kc_196_27 rfl rfl ?_
          refine xi_isub (pc' := 30) (v := 0) kc_196_29 rfl rfl ?_
          refine xi_cmt (pc' := 1534) kc_196_30 rfl rfl ?_
          refine xi_iconst (pc' := 1535) (v := 1) kc_196_1534 rfl rfl ?_
          refine xi_ireturn kc_196_1535 mr_196 rfl ?_
          refine ⟨rfl, ?_, ?_⟩
          · rw [eh3.2.2.1, eh2.2.2.1, eh1.2.2.1]; exact hn0
          · rw [eh3.2.2.2, eh2.2.2.2, eh1.2.2.2]; exact hz0
