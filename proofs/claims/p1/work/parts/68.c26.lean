set_option maxHeartbeats 8000000 in
theorem lc_26 {J : xe_J} {ov : List (List Int32)} (hJ : ∀ d mj as h, mj ≠ xe_loff → J d mj as h = none) {a0 a1 a2 a3 a4 a5 : Int32} (hov0 : ov[0]? = some [a0, a1, a2, a3, a4, a5]) (hov1 : ov[1]? = some [10, 0, 0, 0, 0, 0]) (hov2 : ov[2]? = some [99, 30, 50, 50, 1, 99999]) {h0 : xe_H} (F : xf_fr h0) (hn0 : h0.length ≤ 600002) (hz0 : xe_sz h0 ≤ 7302232) : xw J ov 100 196 (1220, [(4, .int 0), (3, .ref 167), (2, .ref 115), (1, .ref 0), (0, .ref 1000000)], [], h0) xf_Q := by
  have rr1 := xc_rng a1
  have rr2 := xc_rng a2
  have rr3 := xc_rng a3
  have rr4 := xc_rng a4
  have rr5 := xc_rng a5
  refine xi_aload_n (pc' := 1221) (x := 0) kc_196_1220 rfl rfl ?_
  refine xi_virtual (mj := 170) (as := []) (st1 := []) (lv0 := [(0, .ref 0)]) kc_196_1221 rfl rfl rfl rfl rfl (F 0 _ hl_0) (Nat.le_of_ble_eq_true rfl) (hJ _ _ _ _ (by decide)) (xm_le ml_170 rfl) rfl ?_
  refine xi_aload_n (pc' := 1) (x := 0) kc_170_0 rfl rfl ?_
  refine xi_getfield (pc' := 4) (v := .ref 80) kc_170_1 rfl rfl rfl (F 0 _ hl_0) rfl ?_
  refine xi_virtual (mj := 171) (as := []) (st1 := []) (lv0 := [(0, .ref 80)]) kc_170_4 rfl rfl rfl rfl rfl (F 80 _ hl_80) (Nat.le_of_ble_eq_true rfl) (hJ _ _ _ _ (by decide)) (xm_le ml_171 rfl) rfl ?_
  refine mj_class hJ (F 80 _ hl_80) (F 83 _ hl_83) ?_
  show xw J ov 99 170 (7, [(0, .ref 0)], [.int 0], h0) _
  refine xi_ireturn kc_170_7 mr_170 rfl ?_
  show xw J ov 100 196 (1224, [(4, .int 0), (3, .ref 167), (2, .ref 115), (1, .ref 0), (0, .ref 1000000)], [.int 0], h0) _
  refine xi_aload_n (pc' := 1225) (x := 115) kc_196_1224 rfl rfl ?_
  refine xi_virtual (mj := 66) (as := []) (st1 := [.int 0]) (lv0 := [(0, .ref 115)]) kc_196_1225 rfl rfl rfl rfl rfl (F 115 _ hl_115) (Nat.le_of_ble_eq_true rfl) (hJ _ _ _ _ (by decide)) (xm_le ml_66 rfl) rfl ?_
  refine xi_aload_n (pc' := 1) (x := 115) kc_66_0 rfl rfl ?_
  refine xi_iconst (pc' := 2) (v := 0) kc_66_1 rfl rfl ?_
  refine xi_putfield (pc' := 5) (fs' := [.int 0, .int 0, .ref 116, .ref 117, .ref 118, .ref 119, .ref 120, .ref 121, .ref 122, .ref 123, .ref 124, .ref 125, .ref 126, .ref 127, .ref 128, .ref 129, .int 4, .ref 130, .int 0, .ref 131, .ref 132, .ref 133, .ref 134, .int 0, .ref 135, .ref 136, .ref 137, .ref 138, .ref 139, .ref 140, .ref 141, .ref 142, .int 0, .int 0, .int 0, .ref 143, .ref 144, .ref 145, .ref 146, .ref 147, .ref 148, .int 0, .ref 149, .ref 150, .ref 151, .int 0, .ref 152, .ref 153, .ref 154, .ref 155, .ref 156, .ref 157, .ref 158, .ref 159, .int 0, .ref 160, .int 0, .ref 161, .ref 162, .ref 163, .ref 164, .int 0, .ref 165, .ref 166]) kc_66_2 rfl rfl rfl (F 115 _ hl_115) rfl rfl rfl (Nat.le_of_ble_eq_true rfl) rfl (fun hh1 eh1 => ?_)
  refine xi_aload_n (pc' := 6) (x := 115) kc_66_5 rfl rfl ?_
  refine xi_virtual (mj := 67) (as := []) (st1 := []) (lv0 := [(0, .ref 115)]) kc_66_6 rfl rfl rfl rfl rfl eh1.1 (Nat.le_of_ble_eq_true rfl) (hJ _ _ _ _ (by decide)) (xm_le ml_67 rfl) rfl ?_
  refine mj_ref hJ eh1.1 ((eh1.2.1 158 (by decide)).trans (F 158 _ hl_158)) ?_
  show xw J ov 99 66 (9, [(0, .ref 115)], [.int 0], hh1) _
  refine xi_ireturn kc_66_9 mr_66 rfl ?_
  show xw J ov 100 196 (1228, [(4, .int 0), (3, .ref 167), (2, .ref 115), (1, .ref 0), (0, .ref 1000000)], [.int 0, .int 0], hh1) _
  refine xi_cmt (pc' := 1528) kc_196_1228 rfl rfl ?_
  refine xi_iinc (pc' := 1531) (x := 0) (v := 6) (lv' := [(4, .int 6), (3, .ref 167), (2, .ref 115), (1, .ref 0), (0, .ref 1000000)]) kc_196_1528 rfl rfl rfl rfl (xm_lt ml_196 rfl) ?_
  refine xi_goto (pc' := 23) kc_196_1531 rfl ?_
  refine xi_iload (pc' := 25) (x := 6) kc_196_23 rfl rfl ?_
  refine xi_aload_n (pc' := 26) (x := 1000000) kc_196_25 rfl rfl ?_
  refine xi_arraylength (pc' := 27) (n := 6) (v := 6) kc_196_26 rfl (xl_lenO (by decide) hov0 rfl) rfl ?_
  refine xi_bipush (pc' := 29) (v := 6) kc_196_27 rfl rfl ?_
  refine xi_isub (pc' := 30) (v := 0) kc_196_29 rfl rfl ?_
  refine xi_cmt (pc' := 1534) kc_196_30 rfl rfl ?_
  refine xi_iconst (pc' := 1535) (v := 1) kc_196_1534 rfl rfl ?_
  refine xi_ireturn kc_196_1535 mr_196 rfl ?_
  refine ⟨rfl, ?_, ?_⟩
  · rw [eh1.2.2.1]; exact hn0
  · rw [eh1.2.2.2]; exact hz0
