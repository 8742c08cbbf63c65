theorem xi_staticJ {J : xe_J} {ov : List (List Int32)} {d mi : Nat} {Q : Option Value → xe_H → Prop} {pc : Nat} {ax : List Nat} {lv : List (Nat × Value)} {st : List Value} {h : xe_H} {n mj k : Nat} {as st1 : List Value} {r : Option Value} {h' : xe_H} (hc : xe_code mi pc = some (.invokestatic n, ax)) (h0 : ax.headD 0 = mj) (h1 : ax.getD 1 0 = k) (hk : k ≤ st.length) (ht : (st.take k).reverse = as) (hd : st.drop k = st1) (hs : (st1.map fun v : Value => v.category).sum ≤ 8) (hj : J d mj as h = some (r, h')) (kk : xw J ov (d + 1) mi (pc + 3, lv, r.toList ++ st1, h') Q) : xw J ov (d + 1) mi (pc, lv, st, h) Q := by
  subst hd; subst ht; subst h1; subst h0
  refine xw_callJ ?_ hj kk
  rw [xe_nx_of hc]
  exact if_pos ⟨hk, hs⟩
set_option maxHeartbeats 4000000 in
theorem xo_r139 {ov : List (List Int32)} {d : Nat} {h0 : xe_H} (F : xf_fr h0) {Q : Option Value → xe_H → Prop} {v : Int32} (hv : v.toInt ≠ 0) (kk : Q (some (.int 0)) h0) : xw xe_J0 ov (d + 3) 139 (0, [(0, .ref 66), (1, .int v)], [], h0) Q := by
  have hJ : ∀ d mj as h, mj ≠ xe_loff → xe_J0 d mj as h = none := fun _ _ _ _ _ => rfl
  have rv := xc_rng v
  refine xi_iload_n (pc' := 1) (x := v) kc_139_0 rfl rfl ?_
  by_cases c1 : v.toInt < 0
  · refine xi_ift (pc' := 16) kc_139_1 rfl (xc_lt_t (X := v.toInt) (Y := 0) rfl (by decide) (by omega)) ?_
    refine xi_iconst (pc' := 17) (v := 0) kc_139_16 rfl rfl ?_
    refine xi_ireturn kc_139_17 mr_139 rfl ?_
    exact kk
  · refine xi_iff (pc' := 4) kc_139_1 rfl (xc_lt_f (X := v.toInt) (Y := 0) rfl (by decide) (by omega)) ?_
    refine xi_iload_n (pc' := 5) (x := v) kc_139_4 rfl rfl ?_
    refine xi_aload_n (pc' := 6) (x := 66) kc_139_5 rfl rfl ?_
    refine xi_virtual (mj := 140) (as := []) (st1 := [.int v]) (lv0 := [(0, .ref 66)]) kc_139_6 rfl rfl rfl rfl rfl (F 66 _ hl_66) (Nat.le_of_ble_eq_true rfl) (hJ _ _ _ _ (by decide)) (xm_le ml_140 rfl) rfl ?_
    refine xi_iconst (pc' := 1) (v := 1) kc_140_0 rfl rfl ?_
    refine xi_aload_n (pc' := 2) (x := 66) kc_140_1 rfl rfl ?_
    refine xi_getfield (pc' := 5) (v := .ref 1) kc_140_2 rfl rfl rfl (F 66 _ hl_66) rfl ?_
    refine xi_virtual (mj := 141) (as := []) (st1 := [.int 1]) (lv0 := [(0, .ref 1)]) kc_140_5 rfl rfl rfl rfl rfl (F 1 _ hl_1) (Nat.le_of_ble_eq_true rfl) (hJ _ _ _ _ (by decide)) (xm_le ml_141 rfl) rfl ?_
    refine xi_aload_n (pc' := 1) (x := 1) kc_141_0 rfl rfl ?_
    refine xi_getfield (pc' := 4) (v := .int 0) kc_141_1 rfl rfl rfl (F 1 _ hl_1) rfl ?_
    refine xi_bipush (pc' := 6) (v := 6) kc_141_4 rfl rfl ?_
    refine xi_cmf (pc' := 9) kc_141_6 rfl rfl ?_
    refine xi_aload_n (pc' := 10) (x := 1) kc_141_9 rfl rfl ?_
    refine xi_getfield (pc' := 13) (v := .int 0) kc_141_10 rfl rfl rfl (F 1 _ hl_1) rfl ?_
    refine xi_goto (pc' := 18) kc_141_13 rfl ?_
    refine xi_ireturn kc_141_18 mr_141 rfl ?_
    show xw xe_J0 ov (d + 2) 140 (8, [(0, .ref 66)], [.int 0, .int 1], h0) _
    refine xi_ishl (pc' := 9) (v := 1) kc_140_8 rfl rfl ?_
    refine xi_ireturn kc_140_9 mr_140 rfl ?_
    show xw xe_J0 ov (d + 3) 139 (9, [(0, .ref 66), (1, .int v)], [.int 1, .int v], h0) _
    refine xi_cmt (pc' := 16) kc_139_9 rfl (xc_ge_t (X := v.toInt) (Y := 1) rfl (by decide) (by omega)) ?_
    refine xi_iconst (pc' := 17) (v := 0) kc_139_16 rfl rfl ?_
    refine xi_ireturn kc_139_17 mr_139 rfl ?_
    exact kk
set_option maxHeartbeats 4000000 in
theorem xo_r194 {ov : List (List Int32)} {d : Nat} {h0 : xe_H} (F : xf_fr h0) {Q : Option Value → xe_H → Prop} (kk : ∀ h1 : xe_H, (∀ k, 115 ≤ k → h1[k]? = h0[k]?) → h1.length = h0.length → xe_sz h1 = xe_sz h0 → Q (some (.long 0)) h1) : xw xe_J0 ov (d + 8) 194 (0, [(0, .ref 0), (1, .int 0)], [], h0) Q := by
  have hJ : ∀ d mj as h, mj ≠ xe_loff → xe_J0 d mj as h = none := fun _ _ _ _ _ => rfl
  refine xi_aload_n (pc' := 1) (x := 0) kc_194_0 rfl rfl ?_
  refine xi_getfield (pc' := 4) (v := .ref 66) kc_194_1 rfl rfl rfl (F 0 _ hl_0) rfl ?_
  refine xi_iload_n (pc' := 5) (x := 0) kc_194_4 rfl rfl ?_
  refine xi_virtual (mj := 139) (as := [.int 0]) (st1 := []) (lv0 := [(0, .ref 66), (1, .int 0)]) kc_194_5 rfl rfl rfl rfl rfl (F 66 _ hl_66) (Nat.le_of_ble_eq_true rfl) (hJ _ _ _ _ (by decide)) (xm_le ml_139 rfl) rfl ?_
  refine xi_iload_n (pc' := 1) (x := 0) kc_139_0 rfl rfl ?_
  refine xi_iff (pc' := 4) kc_139_1 rfl rfl ?_
  refine xi_iload_n (pc' := 5) (x := 0) kc_139_4 rfl rfl ?_
  refine xi_aload_n (pc' := 6) (x := 66) kc_139_5 rfl rfl ?_
  refine xi_virtual (mj := 140) (as := []) (st1 := [.int 0]) (lv0 := [(0, .ref 66)]) kc_139_6 rfl rfl rfl rfl rfl (F 66 _ hl_66) (Nat.le_of_ble_eq_true rfl) (hJ _ _ _ _ (by decide)) (xm_le ml_140 rfl) rfl ?_
  refine xi_iconst (pc' := 1) (v := 1) kc_140_0 rfl rfl ?_
  refine xi_aload_n (pc' := 2) (x := 66) kc_140_1 rfl rfl ?_
  refine xi_getfield (pc' := 5) (v := .ref 1) kc_140_2 rfl rfl rfl (F 66 _ hl_66) rfl ?_
  refine xi_virtual (mj := 141) (as := []) (st1 := [.int 1]) (lv0 := [(0, .ref 1)]) kc_140_5 rfl rfl rfl rfl rfl (F 1 _ hl_1) (Nat.le_of_ble_eq_true rfl) (hJ _ _ _ _ (by decide)) (xm_le ml_141 rfl) rfl ?_
  refine xi_aload_n (pc' := 1) (x := 1) kc_141_0 rfl rfl ?_
  refine xi_getfield (pc' := 4) (v := .int 0) kc_141_1 rfl rfl rfl (F 1 _ hl_1) rfl ?_
  refine xi_bipush (pc' := 6) (v := 6) kc_141_4 rfl rfl ?_
  refine xi_cmf (pc' := 9) kc_141_6 rfl rfl ?_
  refine xi_aload_n (pc' := 10) (x := 1) kc_141_9 rfl rfl ?_
  refine xi_getfield (pc' := 13) (v := .int 0) kc_141_10 rfl rfl rfl (F 1 _ hl_1) rfl ?_
  refine xi_goto (pc' := 18) kc_141_13 rfl ?_
  refine xi_ireturn kc_141_18 mr_141 rfl ?_
  show xw xe_J0 ov (d + 6) 140 (8, [(0, .ref 66)], [.int 0, .int 1], h0) _
  refine xi_ishl (pc' := 9) (v := 1) kc_140_8 rfl rfl ?_
  refine xi_ireturn kc_140_9 mr_140 rfl ?_
  show xw xe_J0 ov (d + 7) 139 (9, [(0, .ref 66), (1, .int 0)], [.int 1, .int 0], h0) _
  refine xi_cmf (pc' := 12) kc_139_9 rfl rfl ?_
  refine xi_iconst (pc' := 13) (v := 1) kc_139_12 rfl rfl ?_
  refine xi_goto (pc' := 17) kc_139_13 rfl ?_
  refine xi_ireturn kc_139_17 mr_139 rfl ?_
  show xw xe_J0 ov (d + 8) 194 (8, [(0, .ref 0), (1, .int 0)], [.int 1], h0) _
  refine xi_ift (pc' := 21) kc_194_8 rfl rfl ?_
  refine xi_aload_n (pc' := 22) (x := 0) kc_194_21 rfl rfl ?_
  refine xi_getfield (pc' := 25) (v := .ref 66) kc_194_22 rfl rfl rfl (F 0 _ hl_0) rfl ?_
  refine xi_iload_n (pc' := 26) (x := 0) kc_194_25 rfl rfl ?_
  refine xi_virtual (mj := 147) (as := [.int 0]) (st1 := []) (lv0 := [(0, .ref 66), (1, .int 0)]) kc_194_26 rfl rfl rfl rfl rfl (F 66 _ hl_66) (Nat.le_of_ble_eq_true rfl) (hJ _ _ _ _ (by decide)) (xm_le ml_147 rfl) rfl ?_
  refine xi_aload_n (pc' := 1) (x := 66) kc_147_0 rfl rfl ?_
  refine xi_iload_n (pc' := 2) (x := 0) kc_147_1 rfl rfl ?_
  refine xi_virtual (mj := 139) (as := [.int 0]) (st1 := []) (lv0 := [(0, .ref 66), (1, .int 0)]) kc_147_2 rfl rfl rfl rfl rfl (F 66 _ hl_66) (Nat.le_of_ble_eq_true rfl) (hJ _ _ _ _ (by decide)) (xm_le ml_139 rfl) rfl ?_
  refine xi_iload_n (pc' := 1) (x := 0) kc_139_0 rfl rfl ?_
  refine xi_iff (pc' := 4) kc_139_1 rfl rfl ?_
  refine xi_iload_n (pc' := 5) (x := 0) kc_139_4 rfl rfl ?_
  refine xi_aload_n (pc' := 6) (x := 66) kc_139_5 rfl rfl ?_
  refine xi_virtual (mj := 140) (as := []) (st1 := [.int 0]) (lv0 := [(0, .ref 66)]) kc_139_6 rfl rfl rfl rfl rfl (F 66 _ hl_66) (Nat.le_of_ble_eq_true rfl) (hJ _ _ _ _ (by decide)) (xm_le ml_140 rfl) rfl ?_
  refine xi_iconst (pc' := 1) (v := 1) kc_140_0 rfl rfl ?_
  refine xi_aload_n (pc' := 2) (x := 66) kc_140_1 rfl rfl ?_
  refine xi_getfield (pc' := 5) (v := .ref 1) kc_140_2 rfl rfl rfl (F 66 _ hl_66) rfl ?_
  refine xi_virtual (mj := 141) (as := []) (st1 := [.int 1]) (lv0 := [(0, .ref 1)]) kc_140_5 rfl rfl rfl rfl rfl (F 1 _ hl_1) (Nat.le_of_ble_eq_true rfl) (hJ _ _ _ _ (by decide)) (xm_le ml_141 rfl) rfl ?_
  refine xi_aload_n (pc' := 1) (x := 1) kc_141_0 rfl rfl ?_
  refine xi_getfield (pc' := 4) (v := .int 0) kc_141_1 rfl rfl rfl (F 1 _ hl_1) rfl ?_
  refine xi_bipush (pc' := 6) (v := 6) kc_141_4 rfl rfl ?_
  refine xi_cmf (pc' := 9) kc_141_6 rfl rfl ?_
  refine xi_aload_n (pc' := 10) (x := 1) kc_141_9 rfl rfl ?_
  refine xi_getfield (pc' := 13) (v := .int 0) kc_141_10 rfl rfl rfl (F 1 _ hl_1) rfl ?_
  refine xi_goto (pc' := 18) kc_141_13 rfl ?_
  refine xi_ireturn kc_141_18 mr_141 rfl ?_
  show xw xe_J0 ov (d + 5) 140 (8, [(0, .ref 66)], [.int 0, .int 1], h0) _
  refine xi_ishl (pc' := 9) (v := 1) kc_140_8 rfl rfl ?_
  refine xi_ireturn kc_140_9 mr_140 rfl ?_
  show xw xe_J0 ov (d + 6) 139 (9, [(0, .ref 66), (1, .int 0)], [.int 1, .int 0], h0) _
  refine xi_cmf (pc' := 12) kc_139_9 rfl rfl ?_
  refine xi_iconst (pc' := 13) (v := 1) kc_139_12 rfl rfl ?_
  refine xi_goto (pc' := 17) kc_139_13 rfl ?_
  refine xi_ireturn kc_139_17 mr_139 rfl ?_
  show xw xe_J0 ov (d + 7) 147 (5, [(0, .ref 66), (1, .int 0)], [.int 1], h0) _
  refine xi_ift (pc' := 10) kc_147_5 rfl rfl ?_
  refine xi_aload_n (pc' := 11) (x := 66) kc_147_10 rfl rfl ?_
  refine xi_getfield (pc' := 14) (v := .long 0) kc_147_11 rfl rfl rfl (F 66 _ hl_66) rfl ?_
  refine xi_iload_n (pc' := 15) (x := 0) kc_147_14 rfl rfl ?_
  refine xi_lshr (pc' := 16) (v := 0) kc_147_15 rfl (by decide) ?_
  refine xi_lconst (pc' := 17) (v := 1) kc_147_16 rfl rfl ?_
  refine xi_land (pc' := 18) (v := 0) kc_147_17 rfl (by decide) ?_
  refine xi_lconst (pc' := 19) (v := 0) kc_147_18 rfl rfl ?_
  refine xi_lcmp (pc' := 20) (v := 0) kc_147_19 rfl (by decide) ?_
  refine xi_ift (pc' := 30) kc_147_20 rfl rfl ?_
  refine xi_aload_n (pc' := 31) (x := 66) kc_147_30 rfl rfl ?_
  refine xi_getfield (pc' := 34) (v := .ref 67) kc_147_31 rfl rfl rfl (F 66 _ hl_66) rfl ?_
  refine xi_iload_n (pc' := 35) (x := 0) kc_147_34 rfl rfl ?_
  refine xi_aload_n (pc' := 36) (x := 66) kc_147_35 rfl rfl ?_
  refine xi_getfield (pc' := 39) (v := .ref 1) kc_147_36 rfl rfl rfl (F 66 _ hl_66) rfl ?_
  refine xi_virtual (mj := 143) (as := []) (st1 := [.int 0, .ref 67]) (lv0 := [(0, .ref 1)]) kc_147_39 rfl rfl rfl rfl rfl (F 1 _ hl_1) (Nat.le_of_ble_eq_true rfl) (hJ _ _ _ _ (by decide)) (xm_le ml_143 rfl) rfl ?_
  refine xi_iconst (pc' := 1) (v := 0) kc_143_0 rfl rfl ?_
  refine xi_istore_n (pc' := 2) (lv' := [(1, .int 0), (0, .ref 1)]) kc_143_1 rfl rfl (xm_lt ml_143 rfl) ?_
  refine xi_iconst (pc' := 3) (v := 0) kc_143_2 rfl rfl ?_
  refine xi_istore_n (pc' := 4) (lv' := [(2, .int 0), (1, .int 0), (0, .ref 1)]) kc_143_3 rfl rfl (xm_lt ml_143 rfl) ?_
  refine xi_iload_n (pc' := 5) (x := 0) kc_143_4 rfl rfl ?_
  refine xi_bipush (pc' := 7) (v := 12) kc_143_5 rfl rfl ?_
  refine xi_cmf (pc' := 10) kc_143_7 rfl rfl ?_
  refine xi_aload_n (pc' := 11) (x := 1) kc_143_10 rfl rfl ?_
  refine xi_getfield (pc' := 14) (v := .ref 3) kc_143_11 rfl rfl rfl (F 1 _ hl_1) rfl ?_
  refine xi_iload_n (pc' := 15) (x := 0) kc_143_14 rfl rfl ?_
  refine xi_aaload (pc' := 16) (b := 29) kc_143_15 rfl (F 3 _ hl_3) rfl (xi_in (n := 12) (by decide) (by decide)) rfl ?_
  refine xi_virtual (mj := 106) (as := []) (st1 := []) (lv0 := [(0, .ref 29)]) kc_143_16 rfl rfl rfl rfl rfl (F 29 _ hl_29) (Nat.le_of_ble_eq_true rfl) (hJ _ _ _ _ (by decide)) (xm_le ml_106 rfl) rfl ?_
  refine xi_aload_n (pc' := 1) (x := 29) kc_106_0 rfl rfl ?_
  refine xi_getfield (pc' := 4) (v := .int (-9)) kc_106_1 rfl rfl rfl (F 29 _ hl_29) rfl ?_
  refine xi_static (mj := 90) (as := [.int (-9)]) (st1 := []) (lv0 := [(0, .int (-9))]) kc_106_4 rfl rfl (Nat.le_of_ble_eq_true rfl) rfl rfl (Nat.le_of_ble_eq_true rfl) (hJ _ _ _ _ (by decide)) (xm_le ml_90 rfl) rfl ?_
  refine xi_iload_n (pc' := 1) (x := (-9)) kc_90_0 rfl rfl ?_
  refine xi_ift (pc' := 14) kc_90_1 rfl rfl ?_
  refine xi_iconst (pc' := 15) (v := 0) kc_90_14 rfl rfl ?_
  refine xi_ireturn kc_90_15 mr_90 rfl ?_
  show xw xe_J0 ov (d + 5) 106 (7, [(0, .ref 29)], [.int 0], h0) _
  refine xi_ireturn kc_106_7 mr_106 rfl ?_
  show xw xe_J0 ov (d + 6) 143 (19, [(2, .int 0), (1, .int 0), (0, .ref 1)], [.int 0], h0) _
  refine xi_ift (pc' := 36) kc_143_19 rfl rfl ?_
  refine xi_iinc (pc' := 39) (x := 0) (v := 1) (lv' := [(2, .int 1), (1, .int 0), (0, .ref 1)]) kc_143_36 rfl rfl rfl rfl (xm_lt ml_143 rfl) ?_
  refine xi_goto (pc' := 4) kc_143_39 rfl ?_
  refine xi_iload_n (pc' := 5) (x := 1) kc_143_4 rfl rfl ?_
  refine xi_bipush (pc' := 7) (v := 12) kc_143_5 rfl rfl ?_
  refine xi_cmf (pc' := 10) kc_143_7 rfl rfl ?_
  refine xi_aload_n (pc' := 11) (x := 1) kc_143_10 rfl rfl ?_
  refine xi_getfield (pc' := 14) (v := .ref 3) kc_143_11 rfl rfl rfl (F 1 _ hl_1) rfl ?_
  refine xi_iload_n (pc' := 15) (x := 1) kc_143_14 rfl rfl ?_
  refine xi_aaload (pc' := 16) (b := 31) kc_143_15 rfl (F 3 _ hl_3) rfl (xi_in (n := 12) (by decide) (by decide)) rfl ?_
  refine xi_virtual (mj := 106) (as := []) (st1 := []) (lv0 := [(0, .ref 31)]) kc_143_16 rfl rfl rfl rfl rfl (F 31 _ hl_31) (Nat.le_of_ble_eq_true rfl) (hJ _ _ _ _ (by decide)) (xm_le ml_106 rfl) rfl ?_
  refine xi_aload_n (pc' := 1) (x := 31) kc_106_0 rfl rfl ?_
  refine xi_getfield (pc' := 4) (v := .int (-9)) kc_106_1 rfl rfl rfl (F 31 _ hl_31) rfl ?_
  refine xi_static (mj := 90) (as := [.int (-9)]) (st1 := []) (lv0 := [(0, .int (-9))]) kc_106_4 rfl rfl (Nat.le_of_ble_eq_true rfl) rfl rfl (Nat.le_of_ble_eq_true rfl) (hJ _ _ _ _ (by decide)) (xm_le ml_90 rfl) rfl ?_
  refine xi_iload_n (pc' := 1) (x := (-9)) kc_90_0 rfl rfl ?_
  refine xi_ift (pc' := 14) kc_90_1 rfl rfl ?_
  refine xi_iconst (pc' := 15) (v := 0) kc_90_14 rfl rfl ?_
  refine xi_ireturn kc_90_15 mr_90 rfl ?_
  show xw xe_J0 ov (d + 5) 106 (7, [(0, .ref 31)], [.int 0], h0) _
  refine xi_ireturn kc_106_7 mr_106 rfl ?_
  show xw xe_J0 ov (d + 6) 143 (19, [(2, .int 1), (1, .int 0), (0, .ref 1)], [.int 0], h0) _
  refine xi_ift (pc' := 36) kc_143_19 rfl rfl ?_
  refine xi_iinc (pc' := 39) (x := 1) (v := 2) (lv' := [(2, .int 2), (1, .int 0), (0, .ref 1)]) kc_143_36 rfl rfl rfl rfl (xm_lt ml_143 rfl) ?_
  refine xi_goto (pc' := 4) kc_143_39 rfl ?_
  refine xi_iload_n (pc' := 5) (x := 2) kc_143_4 rfl rfl ?_
  refine xi_bipush (pc' := 7) (v := 12) kc_143_5 rfl rfl ?_
  refine xi_cmf (pc' := 10) kc_143_7 rfl rfl ?_
  refine xi_aload_n (pc' := 11) (x := 1) kc_143_10 rfl rfl ?_
  refine xi_getfield (pc' := 14) (v := .ref 3) kc_143_11 rfl rfl rfl (F 1 _ hl_1) rfl ?_
  refine xi_iload_n (pc' := 15) (x := 2) kc_143_14 rfl rfl ?_
  refine xi_aaload (pc' := 16) (b := 33) kc_143_15 rfl (F 3 _ hl_3) rfl (xi_in (n := 12) (by decide) (by decide)) rfl ?_
  refine xi_virtual (mj := 106) (as := []) (st1 := []) (lv0 := [(0, .ref 33)]) kc_143_16 rfl rfl rfl rfl rfl (F 33 _ hl_33) (Nat.le_of_ble_eq_true rfl) (hJ _ _ _ _ (by decide)) (xm_le ml_106 rfl) rfl ?_
  refine xi_aload_n (pc' := 1) (x := 33) kc_106_0 rfl rfl ?_
  refine xi_getfield (pc' := 4) (v := .int (-9)) kc_106_1 rfl rfl rfl (F 33 _ hl_33) rfl ?_
  refine xi_static (mj := 90) (as := [.int (-9)]) (st1 := []) (lv0 := [(0, .int (-9))]) kc_106_4 rfl rfl (Nat.le_of_ble_eq_true rfl) rfl rfl (Nat.le_of_ble_eq_true rfl) (hJ _ _ _ _ (by decide)) (xm_le ml_90 rfl) rfl ?_
  refine xi_iload_n (pc' := 1) (x := (-9)) kc_90_0 rfl rfl ?_
  refine xi_ift (pc' := 14) kc_90_1 rfl rfl ?_
  refine xi_iconst (pc' := 15) (v := 0) kc_90_14 rfl rfl ?_
  refine xi_ireturn kc_90_15 mr_90 rfl ?_
  show xw xe_J0 ov (d + 5) 106 (7, [(0, .ref 33)], [.int 0], h0) _
  refine xi_ireturn kc_106_7 mr_106 rfl ?_
  show xw xe_J0 ov (d + 6) 143 (19, [(2, .int 2), (1, .int 0), (0, .ref 1)], [.int 0], h0) _
  refine xi_ift (pc' := 36) kc_143_19 rfl rfl ?_
  refine xi_iinc (pc' := 39) (x := 2) (v := 3) (lv' := [(2, .int 3), (1, .int 0), (0, .ref 1)]) kc_143_36 rfl rfl rfl rfl (xm_lt ml_143 rfl) ?_
  refine xi_goto (pc' := 4) kc_143_39 rfl ?_
  refine xi_iload_n (pc' := 5) (x := 3) kc_143_4 rfl rfl ?_
  refine xi_bipush (pc' := 7) (v := 12) kc_143_5 rfl rfl ?_
  refine xi_cmf (pc' := 10) kc_143_7 rfl rfl ?_
  refine xi_aload_n (pc' := 11) (x := 1) kc_143_10 rfl rfl ?_
  refine xi_getfield (pc' := 14) (v := .ref 3) kc_143_11 rfl rfl rfl (F 1 _ hl_1) rfl ?_
  refine xi_iload_n (pc' := 15) (x := 3) kc_143_14 rfl rfl ?_
  refine xi_aaload (pc' := 16) (b := 35) kc_143_15 rfl (F 3 _ hl_3) rfl (xi_in (n := 12) (by decide) (by decide)) rfl ?_
  refine xi_virtual (mj := 106) (as := []) (st1 := []) (lv0 := [(0, .ref 35)]) kc_143_16 rfl rfl rfl rfl rfl (F 35 _ hl_35) (Nat.le_of_ble_eq_true rfl) (hJ _ _ _ _ (by decide)) (xm_le ml_106 rfl) rfl ?_
  refine xi_aload_n (pc' := 1) (x := 35) kc_106_0 rfl rfl ?_
  refine xi_getfield (pc' := 4) (v := .int (-9)) kc_106_1 rfl rfl rfl (F 35 _ hl_35) rfl ?_
  refine xi_static (mj := 90) (as := [.int (-9)]) (st1 := []) (lv0 := [(0, .int (-9))]) kc_106_4 rfl rfl (Nat.le_of_ble_eq_true rfl) rfl rfl (Nat.le_of_ble_eq_true rfl) (hJ _ _ _ _ (by decide)) (xm_le ml_90 rfl) rfl ?_
  refine xi_iload_n (pc' := 1) (x := (-9)) kc_90_0 rfl rfl ?_
  refine xi_ift (pc' := 14) kc_90_1 rfl rfl ?_
  refine xi_iconst (pc' := 15) (v := 0) kc_90_14 rfl rfl ?_
  refine xi_ireturn kc_90_15 mr_90 rfl ?_
  show xw xe_J0 ov (d + 5) 106 (7, [(0, .ref 35)], [.int 0], h0) _
  refine xi_ireturn kc_106_7 mr_106 rfl ?_
  show xw xe_J0 ov (d + 6) 143 (19, [(2, .int 3), (1, .int 0), (0, .ref 1)], [.int 0], h0) _
  refine xi_ift (pc' := 36) kc_143_19 rfl rfl ?_
  refine xi_iinc (pc' := 39) (x := 3) (v := 4) (lv' := [(2, .int 4), (1, .int 0), (0, .ref 1)]) kc_143_36 rfl rfl rfl rfl (xm_lt ml_143 rfl) ?_
  refine xi_goto (pc' := 4) kc_143_39 rfl ?_
  refine xi_iload_n (pc' := 5) (x := 4) kc_143_4 rfl rfl ?_
  refine xi_bipush (pc' := 7) (v := 12) kc_143_5 rfl rfl ?_
  refine xi_cmf (pc' := 10) kc_143_7 rfl rfl ?_
  refine xi_aload_n (pc' := 11) (x := 1) kc_143_10 rfl rfl ?_
  refine xi_getfield (pc' := 14) (v := .ref 3) kc_143_11 rfl rfl rfl (F 1 _ hl_1) rfl ?_
  refine xi_iload_n (pc' := 15) (x := 4) kc_143_14 rfl rfl ?_
  refine xi_aaload (pc' := 16) (b := 37) kc_143_15 rfl (F 3 _ hl_3) rfl (xi_in (n := 12) (by decide) (by decide)) rfl ?_
  refine xi_virtual (mj := 106) (as := []) (st1 := []) (lv0 := [(0, .ref 37)]) kc_143_16 rfl rfl rfl rfl rfl (F 37 _ hl_37) (Nat.le_of_ble_eq_true rfl) (hJ _ _ _ _ (by decide)) (xm_le ml_106 rfl) rfl ?_
  refine xi_aload_n (pc' := 1) (x := 37) kc_106_0 rfl rfl ?_
  refine xi_getfield (pc' := 4) (v := .int (-9)) kc_106_1 rfl rfl rfl (F 37 _ hl_37) rfl ?_
  refine xi_static (mj := 90) (as := [.int (-9)]) (st1 := []) (lv0 := [(0, .int (-9))]) kc_106_4 rfl rfl (Nat.le_of_ble_eq_true rfl) rfl rfl (Nat.le_of_ble_eq_true rfl) (hJ _ _ _ _ (by decide)) (xm_le ml_90 rfl) rfl ?_
  refine xi_iload_n (pc' := 1) (x := (-9)) kc_90_0 rfl rfl ?_
  refine xi_ift (pc' := 14) kc_90_1 rfl rfl ?_
  refine xi_iconst (pc' := 15) (v := 0) kc_90_14 rfl rfl ?_
  refine xi_ireturn kc_90_15 mr_90 rfl ?_
  show xw xe_J0 ov (d + 5) 106 (7, [(0, .ref 37)], [.int 0], h0) _
  refine xi_ireturn kc_106_7 mr_106 rfl ?_
  show xw xe_J0 ov (d + 6) 143 (19, [(2, .int 4), (1, .int 0), (0, .ref 1)], [.int 0], h0) _
  refine xi_ift (pc' := 36) kc_143_19 rfl rfl ?_
  refine xi_iinc (pc' := 39) (x := 4) (v := 5) (lv' := [(2, .int 5), (1, .int 0), (0, .ref 1)]) kc_143_36 rfl rfl rfl rfl (xm_lt ml_143 rfl) ?_
  refine xi_goto (pc' := 4) kc_143_39 rfl ?_
  refine xi_iload_n (pc' := 5) (x := 5) kc_143_4 rfl rfl ?_
  refine xi_bipush (pc' := 7) (v := 12) kc_143_5 rfl rfl ?_
  refine xi_cmf (pc' := 10) kc_143_7 rfl rfl ?_
  refine xi_aload_n (pc' := 11) (x := 1) kc_143_10 rfl rfl ?_
  refine xi_getfield (pc' := 14) (v := .ref 3) kc_143_11 rfl rfl rfl (F 1 _ hl_1) rfl ?_
  refine xi_iload_n (pc' := 15) (x := 5) kc_143_14 rfl rfl ?_
  refine xi_aaload (pc' := 16) (b := 39) kc_143_15 rfl (F 3 _ hl_3) rfl (xi_in (n := 12) (by decide) (by decide)) rfl ?_
  refine xi_virtual (mj := 106) (as := []) (st1 := []) (lv0 := [(0, .ref 39)]) kc_143_16 rfl rfl rfl rfl rfl (F 39 _ hl_39) (Nat.le_of_ble_eq_true rfl) (hJ _ _ _ _ (by decide)) (xm_le ml_106 rfl) rfl ?_
  refine xi_aload_n (pc' := 1) (x := 39) kc_106_0 rfl rfl ?_
  refine xi_getfield (pc' := 4) (v := .int (-9)) kc_106_1 rfl rfl rfl (F 39 _ hl_39) rfl ?_
  refine xi_static (mj := 90) (as := [.int (-9)]) (st1 := []) (lv0 := [(0, .int (-9))]) kc_106_4 rfl rfl (Nat.le_of_ble_eq_true rfl) rfl rfl (Nat.le_of_ble_eq_true rfl) (hJ _ _ _ _ (by decide)) (xm_le ml_90 rfl) rfl ?_
  refine xi_iload_n (pc' := 1) (x := (-9)) kc_90_0 rfl rfl ?_
  refine xi_ift (pc' := 14) kc_90_1 rfl rfl ?_
  refine xi_iconst (pc' := 15) (v := 0) kc_90_14 rfl rfl ?_
  refine xi_ireturn kc_90_15 mr_90 rfl ?_
  show xw xe_J0 ov (d + 5) 106 (7, [(0, .ref 39)], [.int 0], h0) _
  refine xi_ireturn kc_106_7 mr_106 rfl ?_
  show xw xe_J0 ov (d + 6) 143 (19, [(2, .int 5), (1, .int 0), (0, .ref 1)], [.int 0], h0) _
  refine xi_ift (pc' := 36) kc_143_19 rfl rfl ?_
  refine xi_iinc (pc' := 39) (x := 5) (v := 6) (lv' := [(2, .int 6), (1, .int 0), (0, .ref 1)]) kc_143_36 rfl rfl rfl rfl (xm_lt ml_143 rfl) ?_
  refine xi_goto (pc' := 4) kc_143_39 rfl ?_
  refine xi_iload_n (pc' := 5) (x := 6) kc_143_4 rfl rfl ?_
  refine xi_bipush (pc' := 7) (v := 12) kc_143_5 rfl rfl ?_
  refine xi_cmf (pc' := 10) kc_143_7 rfl rfl ?_
  refine xi_aload_n (pc' := 11) (x := 1) kc_143_10 rfl rfl ?_
  refine xi_getfield (pc' := 14) (v := .ref 3) kc_143_11 rfl rfl rfl (F 1 _ hl_1) rfl ?_
  refine xi_iload_n (pc' := 15) (x := 6) kc_143_14 rfl rfl ?_
  refine xi_aaload (pc' := 16) (b := 41) kc_143_15 rfl (F 3 _ hl_3) rfl (xi_in (n := 12) (by decide) (by decide)) rfl ?_
  refine xi_virtual (mj := 106) (as := []) (st1 := []) (lv0 := [(0, .ref 41)]) kc_143_16 rfl rfl rfl rfl rfl (F 41 _ hl_41) (Nat.le_of_ble_eq_true rfl) (hJ _ _ _ _ (by decide)) (xm_le ml_106 rfl) rfl ?_
  refine xi_aload_n (pc' := 1) (x := 41) kc_106_0 rfl rfl ?_
  refine xi_getfield (pc' := 4) (v := .int (-9)) kc_106_1 rfl rfl rfl (F 41 _ hl_41) rfl ?_
  refine xi_static (mj := 90) (as := [.int (-9)]) (st1 := []) (lv0 := [(0, .int (-9))]) kc_106_4 rfl rfl (Nat.le_of_ble_eq_true rfl) rfl rfl (Nat.le_of_ble_eq_true rfl) (hJ _ _ _ _ (by decide)) (xm_le ml_90 rfl) rfl ?_
  refine xi_iload_n (pc' := 1) (x := (-9)) kc_90_0 rfl rfl ?_
  refine xi_ift (pc' := 14) kc_90_1 rfl rfl ?_
  refine xi_iconst (pc' := 15) (v := 0) kc_90_14 rfl rfl ?_
  refine xi_ireturn kc_90_15 mr_90 rfl ?_
  show xw xe_J0 ov (d + 5) 106 (7, [(0, .ref 41)], [.int 0], h0) _
  refine xi_ireturn kc_106_7 mr_106 rfl ?_
  show xw xe_J0 ov (d + 6) 143 (19, [(2, .int 6), (1, .int 0), (0, .ref 1)], [.int 0], h0) _
  refine xi_ift (pc' := 36) kc_143_19 rfl rfl ?_
  refine xi_iinc (pc' := 39) (x := 6) (v := 7) (lv' := [(2, .int 7), (1, .int 0), (0, .ref 1)]) kc_143_36 rfl rfl rfl rfl (xm_lt ml_143 rfl) ?_
  refine xi_goto (pc' := 4) kc_143_39 rfl ?_
  refine xi_iload_n (pc' := 5) (x := 7) kc_143_4 rfl rfl ?_
  refine xi_bipush (pc' := 7) (v := 12) kc_143_5 rfl rfl ?_
  refine xi_cmf (pc' := 10) kc_143_7 rfl rfl ?_
  refine xi_aload_n (pc' := 11) (x := 1) kc_143_10 rfl rfl ?_
  refine xi_getfield (pc' := 14) (v := .ref 3) kc_143_11 rfl rfl rfl (F 1 _ hl_1) rfl ?_
  refine xi_iload_n (pc' := 15) (x := 7) kc_143_14 rfl rfl ?_
  refine xi_aaload (pc' := 16) (b := 43) kc_143_15 rfl (F 3 _ hl_3) rfl (xi_in (n := 12) (by decide) (by decide)) rfl ?_
  refine xi_virtual (mj := 106) (as := []) (st1 := []) (lv0 := [(0, .ref 43)]) kc_143_16 rfl rfl rfl rfl rfl (F 43 _ hl_43) (Nat.le_of_ble_eq_true rfl) (hJ _ _ _ _ (by decide)) (xm_le ml_106 rfl) rfl ?_
  refine xi_aload_n (pc' := 1) (x := 43) kc_106_0 rfl rfl ?_
  refine xi_getfield (pc' := 4) (v := .int (-9)) kc_106_1 rfl rfl rfl (F 43 _ hl_43) rfl ?_
  refine xi_static (mj := 90) (as := [.int (-9)]) (st1 := []) (lv0 := [(0, .int (-9))]) kc_106_4 rfl rfl (Nat.le_of_ble_eq_true rfl) rfl rfl (Nat.le_of_ble_eq_true rfl) (hJ _ _ _ _ (by decide)) (xm_le ml_90 rfl) rfl ?_
  refine xi_iload_n (pc' := 1) (x := (-9)) kc_90_0 rfl rfl ?_
  refine xi_ift (pc' := 14) kc_90_1 rfl rfl ?_
  refine xi_iconst (pc' := 15) (v := 0) kc_90_14 rfl rfl ?_
  refine xi_ireturn kc_90_15 mr_90 rfl ?_
  show xw xe_J0 ov (d + 5) 106 (7, [(0, .ref 43)], [.int 0], h0) _
  refine xi_ireturn kc_106_7 mr_106 rfl ?_
  show xw xe_J0 ov (d + 6) 143 (19, [(2, .int 7), (1, .int 0), (0, .ref 1)], [.int 0], h0) _
  refine xi_ift (pc' := 36) kc_143_19 rfl rfl ?_
  refine xi_iinc (pc' := 39) (x := 7) (v := 8) (lv' := [(2, .int 8), (1, .int 0), (0, .ref 1)]) kc_143_36 rfl rfl rfl rfl (xm_lt ml_143 rfl) ?_
  refine xi_goto (pc' := 4) kc_143_39 rfl ?_
  refine xi_iload_n (pc' := 5) (x := 8) kc_143_4 rfl rfl ?_
  refine xi_bipush (pc' := 7) (v := 12) kc_143_5 rfl rfl ?_
  refine xi_cmf (pc' := 10) kc_143_7 rfl rfl ?_
  refine xi_aload_n (pc' := 11) (x := 1) kc_143_10 rfl rfl ?_
  refine xi_getfield (pc' := 14) (v := .ref 3) kc_143_11 rfl rfl rfl (F 1 _ hl_1) rfl ?_
  refine xi_iload_n (pc' := 15) (x := 8) kc_143_14 rfl rfl ?_
  refine xi_aaload (pc' := 16) (b := 45) kc_143_15 rfl (F 3 _ hl_3) rfl (xi_in (n := 12) (by decide) (by decide)) rfl ?_
  refine xi_virtual (mj := 106) (as := []) (st1 := []) (lv0 := [(0, .ref 45)]) kc_143_16 rfl rfl rfl rfl rfl (F 45 _ hl_45) (Nat.le_of_ble_eq_true rfl) (hJ _ _ _ _ (by decide)) (xm_le ml_106 rfl) rfl ?_
  refine xi_aload_n (pc' := 1) (x := 45) kc_106_0 rfl rfl ?_
  refine xi_getfield (pc' := 4) (v := .int (-9)) kc_106_1 rfl rfl rfl (F 45 _ hl_45) rfl ?_
  refine xi_static (mj := 90) (as := [.int (-9)]) (st1 := []) (lv0 := [(0, .int (-9))]) kc_106_4 rfl rfl (Nat.le_of_ble_eq_true rfl) rfl rfl (Nat.le_of_ble_eq_true rfl) (hJ _ _ _ _ (by decide)) (xm_le ml_90 rfl) rfl ?_
  refine xi_iload_n (pc' := 1) (x := (-9)) kc_90_0 rfl rfl ?_
  refine xi_ift (pc' := 14) kc_90_1 rfl rfl ?_
  refine xi_iconst (pc' := 15) (v := 0) kc_90_14 rfl rfl ?_
  refine xi_ireturn kc_90_15 mr_90 rfl ?_
  show xw xe_J0 ov (d + 5) 106 (7, [(0, .ref 45)], [.int 0], h0) _
  refine xi_ireturn kc_106_7 mr_106 rfl ?_
  show xw xe_J0 ov (d + 6) 143 (19, [(2, .int 8), (1, .int 0), (0, .ref 1)], [.int 0], h0) _
  refine xi_ift (pc' := 36) kc_143_19 rfl rfl ?_
  refine xi_iinc (pc' := 39) (x := 8) (v := 9) (lv' := [(2, .int 9), (1, .int 0), (0, .ref 1)]) kc_143_36 rfl rfl rfl rfl (xm_lt ml_143 rfl) ?_
  refine xi_goto (pc' := 4) kc_143_39 rfl ?_
  refine xi_iload_n (pc' := 5) (x := 9) kc_143_4 rfl rfl ?_
  refine xi_bipush (pc' := 7) (v := 12) kc_143_5 rfl rfl ?_
  refine xi_cmf (pc' := 10) kc_143_7 rfl rfl ?_
  refine xi_aload_n (pc' := 11) (x := 1) kc_143_10 rfl rfl ?_
  refine xi_getfield (pc' := 14) (v := .ref 3) kc_143_11 rfl rfl rfl (F 1 _ hl_1) rfl ?_
  refine xi_iload_n (pc' := 15) (x := 9) kc_143_14 rfl rfl ?_
  refine xi_aaload (pc' := 16) (b := 47) kc_143_15 rfl (F 3 _ hl_3) rfl (xi_in (n := 12) (by decide) (by decide)) rfl ?_
  refine xi_virtual (mj := 106) (as := []) (st1 := []) (lv0 := [(0, .ref 47)]) kc_143_16 rfl rfl rfl rfl rfl (F 47 _ hl_47) (Nat.le_of_ble_eq_true rfl) (hJ _ _ _ _ (by decide)) (xm_le ml_106 rfl) rfl ?_
  refine xi_aload_n (pc' := 1) (x := 47) kc_106_0 rfl rfl ?_
  refine xi_getfield (pc' := 4) (v := .int (-9)) kc_106_1 rfl rfl rfl (F 47 _ hl_47) rfl ?_
  refine xi_static (mj := 90) (as := [.int (-9)]) (st1 := []) (lv0 := [(0, .int (-9))]) kc_106_4 rfl rfl (Nat.le_of_ble_eq_true rfl) rfl rfl (Nat.le_of_ble_eq_true rfl) (hJ _ _ _ _ (by decide)) (xm_le ml_90 rfl) rfl ?_
  refine xi_iload_n (pc' := 1) (x := (-9)) kc_90_0 rfl rfl ?_
  refine xi_ift (pc' := 14) kc_90_1 rfl rfl ?_
  refine xi_iconst (pc' := 15) (v := 0) kc_90_14 rfl rfl ?_
  refine xi_ireturn kc_90_15 mr_90 rfl ?_
  show xw xe_J0 ov (d + 5) 106 (7, [(0, .ref 47)], [.int 0], h0) _
  refine xi_ireturn kc_106_7 mr_106 rfl ?_
  show xw xe_J0 ov (d + 6) 143 (19, [(2, .int 9), (1, .int 0), (0, .ref 1)], [.int 0], h0) _
  refine xi_ift (pc' := 36) kc_143_19 rfl rfl ?_
  refine xi_iinc (pc' := 39) (x := 9) (v := 10) (lv' := [(2, .int 10), (1, .int 0), (0, .ref 1)]) kc_143_36 rfl rfl rfl rfl (xm_lt ml_143 rfl) ?_
  refine xi_goto (pc' := 4) kc_143_39 rfl ?_
  refine xi_iload_n (pc' := 5) (x := 10) kc_143_4 rfl rfl ?_
  refine xi_bipush (pc' := 7) (v := 12) kc_143_5 rfl rfl ?_
  refine xi_cmf (pc' := 10) kc_143_7 rfl rfl ?_
  refine xi_aload_n (pc' := 11) (x := 1) kc_143_10 rfl rfl ?_
  refine xi_getfield (pc' := 14) (v := .ref 3) kc_143_11 rfl rfl rfl (F 1 _ hl_1) rfl ?_
  refine xi_iload_n (pc' := 15) (x := 10) kc_143_14 rfl rfl ?_
  refine xi_aaload (pc' := 16) (b := 49) kc_143_15 rfl (F 3 _ hl_3) rfl (xi_in (n := 12) (by decide) (by decide)) rfl ?_
  refine xi_virtual (mj := 106) (as := []) (st1 := []) (lv0 := [(0, .ref 49)]) kc_143_16 rfl rfl rfl rfl rfl (F 49 _ hl_49) (Nat.le_of_ble_eq_true rfl) (hJ _ _ _ _ (by decide)) (xm_le ml_106 rfl) rfl ?_
  refine xi_aload_n (pc' := 1) (x := 49) kc_106_0 rfl rfl ?_
  refine xi_getfield (pc' := 4) (v := .int (-9)) kc_106_1 rfl rfl rfl (F 49 _ hl_49) rfl ?_
  refine xi_static (mj := 90) (as := [.int (-9)]) (st1 := []) (lv0 := [(0, .int (-9))]) kc_106_4 rfl rfl (Nat.le_of_ble_eq_true rfl) rfl rfl (Nat.le_of_ble_eq_true rfl) (hJ _ _ _ _ (by decide)) (xm_le ml_90 rfl) rfl ?_
  refine xi_iload_n (pc' := 1) (x := (-9)) kc_90_0 rfl rfl ?_
  refine xi_ift (pc' := 14) kc_90_1 rfl rfl ?_
  refine xi_iconst (pc' := 15) (v := 0) kc_90_14 rfl rfl ?_
  refine xi_ireturn kc_90_15 mr_90 rfl ?_
  show xw xe_J0 ov (d + 5) 106 (7, [(0, .ref 49)], [.int 0], h0) _
  refine xi_ireturn kc_106_7 mr_106 rfl ?_
  show xw xe_J0 ov (d + 6) 143 (19, [(2, .int 10), (1, .int 0), (0, .ref 1)], [.int 0], h0) _
  refine xi_ift (pc' := 36) kc_143_19 rfl rfl ?_
  refine xi_iinc (pc' := 39) (x := 10) (v := 11) (lv' := [(2, .int 11), (1, .int 0), (0, .ref 1)]) kc_143_36 rfl rfl rfl rfl (xm_lt ml_143 rfl) ?_
  refine xi_goto (pc' := 4) kc_143_39 rfl ?_
  refine xi_iload_n (pc' := 5) (x := 11) kc_143_4 rfl rfl ?_
  refine xi_bipush (pc' := 7) (v := 12) kc_143_5 rfl rfl ?_
  refine xi_cmf (pc' := 10) kc_143_7 rfl rfl ?_
  refine xi_aload_n (pc' := 11) (x := 1) kc_143_10 rfl rfl ?_
  refine xi_getfield (pc' := 14) (v := .ref 3) kc_143_11 rfl rfl rfl (F 1 _ hl_1) rfl ?_
  refine xi_iload_n (pc' := 15) (x := 11) kc_143_14 rfl rfl ?_
  refine xi_aaload (pc' := 16) (b := 51) kc_143_15 rfl (F 3 _ hl_3) rfl (xi_in (n := 12) (by decide) (by decide)) rfl ?_
  refine xi_virtual (mj := 106) (as := []) (st1 := []) (lv0 := [(0, .ref 51)]) kc_143_16 rfl rfl rfl rfl rfl (F 51 _ hl_51) (Nat.le_of_ble_eq_true rfl) (hJ _ _ _ _ (by decide)) (xm_le ml_106 rfl) rfl ?_
  refine xi_aload_n (pc' := 1) (x := 51) kc_106_0 rfl rfl ?_
  refine xi_getfield (pc' := 4) (v := .int (-9)) kc_106_1 rfl rfl rfl (F 51 _ hl_51) rfl ?_
  refine xi_static (mj := 90) (as := [.int (-9)]) (st1 := []) (lv0 := [(0, .int (-9))]) kc_106_4 rfl rfl (Nat.le_of_ble_eq_true rfl) rfl rfl (Nat.le_of_ble_eq_true rfl) (hJ _ _ _ _ (by decide)) (xm_le ml_90 rfl) rfl ?_
  refine xi_iload_n (pc' := 1) (x := (-9)) kc_90_0 rfl rfl ?_
  refine xi_ift (pc' := 14) kc_90_1 rfl rfl ?_
  refine xi_iconst (pc' := 15) (v := 0) kc_90_14 rfl rfl ?_
  refine xi_ireturn kc_90_15 mr_90 rfl ?_
  show xw xe_J0 ov (d + 5) 106 (7, [(0, .ref 51)], [.int 0], h0) _
  refine xi_ireturn kc_106_7 mr_106 rfl ?_
  show xw xe_J0 ov (d + 6) 143 (19, [(2, .int 11), (1, .int 0), (0, .ref 1)], [.int 0], h0) _
  refine xi_ift (pc' := 36) kc_143_19 rfl rfl ?_
  refine xi_iinc (pc' := 39) (x := 11) (v := 12) (lv' := [(2, .int 12), (1, .int 0), (0, .ref 1)]) kc_143_36 rfl rfl rfl rfl (xm_lt ml_143 rfl) ?_
  refine xi_goto (pc' := 4) kc_143_39 rfl ?_
  refine xi_iload_n (pc' := 5) (x := 12) kc_143_4 rfl rfl ?_
  refine xi_bipush (pc' := 7) (v := 12) kc_143_5 rfl rfl ?_
  refine xi_cmt (pc' := 42) kc_143_7 rfl rfl ?_
  refine xi_iload_n (pc' := 43) (x := 0) kc_143_42 rfl rfl ?_
  refine xi_ireturn kc_143_43 mr_143 rfl ?_
  show xw xe_J0 ov (d + 7) 147 (42, [(0, .ref 66), (1, .int 0)], [.int 0, .int 0, .ref 67], h0) _
  refine xi_virtual (mj := 144) (as := [.int 0, .int 0]) (st1 := []) (lv0 := [(0, .ref 67), (1, .int 0), (2, .int 0)]) kc_147_42 rfl rfl rfl rfl rfl (F 67 _ hl_67) (Nat.le_of_ble_eq_true rfl) (hJ _ _ _ _ (by decide)) (xm_le ml_144 rfl) rfl ?_
  refine xi_aload_n (pc' := 1) (x := 67) kc_144_0 rfl rfl ?_
  refine xi_getfield (pc' := 4) (v := .ref 68) kc_144_1 rfl rfl rfl (F 67 _ hl_67) rfl ?_
  refine xi_iconst (pc' := 5) (v := 0) kc_144_4 rfl rfl ?_
  refine xi_static (mj := 1) (as := [.ref 68, .int 0]) (st1 := []) (lv0 := [(0, .ref 68), (1, .int 0)]) kc_144_5 rfl rfl (Nat.le_of_ble_eq_true rfl) rfl rfl (Nat.le_of_ble_eq_true rfl) (hJ _ _ _ _ (by decide)) (xm_le ml_1 rfl) rfl ?_
  refine xl_fill (N := 6) (by decide) rfl (by decide) (by simp only [List.length_replicate, List.length_cons, List.length_nil]) (F 68 _ hl_68) (fun hh1 eh1 => ?_)
  show xw xe_J0 ov (d + 6) 144 (8, [(0, .ref 67), (1, .int 0), (2, .int 0)], [], hh1) _
  refine xi_aload_n (pc' := 9) (x := 67) kc_144_8 rfl rfl ?_
  refine xi_getfield (pc' := 12) (v := .ref 69) kc_144_9 rfl rfl rfl ((eh1.2.1 67 (by decide)).trans (F 67 _ hl_67)) rfl ?_
  refine xi_iconst (pc' := 13) (v := 0) kc_144_12 rfl rfl ?_
  refine xi_static (mj := 1) (as := [.ref 69, .int 0]) (st1 := []) (lv0 := [(0, .ref 69), (1, .int 0)]) kc_144_13 rfl rfl (Nat.le_of_ble_eq_true rfl) rfl rfl (Nat.le_of_ble_eq_true rfl) (hJ _ _ _ _ (by decide)) (xm_le ml_1 rfl) rfl ?_
  refine xl_fill (N := 12) (by decide) rfl (by decide) (by simp only [List.length_replicate, List.length_cons, List.length_nil]) ((eh1.2.1 69 (by decide)).trans (F 69 _ hl_69)) (fun hh2 eh2 => ?_)
  show xw xe_J0 ov (d + 6) 144 (16, [(0, .ref 67), (1, .int 0), (2, .int 0)], [], hh2) _
  refine xi_aload_n (pc' := 17) (x := 67) kc_144_16 rfl rfl ?_
  refine xi_iload_n (pc' := 18) (x := 0) kc_144_17 rfl rfl ?_
  refine xi_putfield (pc' := 21) (fs' := [.ref 68, .ref 69, .int 0, .int 0]) kc_144_18 rfl rfl rfl ((eh2.2.1 67 (by decide)).trans ((eh1.2.1 67 (by decide)).trans (F 67 _ hl_67))) rfl rfl rfl (Nat.le_of_ble_eq_true rfl) rfl (fun hh3 eh3 => ?_)
  refine xi_aload_n (pc' := 22) (x := 67) kc_144_21 rfl rfl ?_
  refine xi_iload_n (pc' := 23) (x := 0) kc_144_22 rfl rfl ?_
  refine xi_putfield (pc' := 26) (fs' := [.ref 68, .ref 69, .int 0, .int 0]) kc_144_23 rfl rfl rfl eh3.1 rfl rfl rfl (Nat.le_of_ble_eq_true rfl) rfl (fun hh4 eh4 => ?_)
  refine xi_return kc_144_26 mr_144 ?_
  show xw xe_J0 ov (d + 7) 147 (45, [(0, .ref 66), (1, .int 0)], [], hh4) _
  refine xi_lconst (pc' := 46) (v := 0) kc_147_45 rfl rfl ?_
  refine xi_lstore_n (pc' := 47) (lv' := [(2, .long 0), (0, .ref 66), (1, .int 0)]) kc_147_46 rfl rfl (xm_lt ml_147 rfl) ?_
  refine xi_iconst (pc' := 48) (v := 0) kc_147_47 rfl rfl ?_
  refine xi_istore (pc' := 50) (lv' := [(4, .int 0), (2, .long 0), (0, .ref 66), (1, .int 0)]) kc_147_48 rfl rfl (xm_lt ml_147 rfl) ?_
  refine xi_iconst (pc' := 51) (v := 0) kc_147_50 rfl rfl ?_
  refine xi_istore (pc' := 53) (lv' := [(5, .int 0), (4, .int 0), (2, .long 0), (0, .ref 66), (1, .int 0)]) kc_147_51 rfl rfl (xm_lt ml_147 rfl) ?_
  refine xi_iload (pc' := 55) (x := 0) kc_147_53 rfl rfl ?_
  refine xi_aload_n (pc' := 56) (x := 66) kc_147_55 rfl rfl ?_
  refine xi_getfield (pc' := 59) (v := .int 0) kc_147_56 rfl rfl rfl ((eh4.2.1 66 (by decide)).trans ((eh3.2.1 66 (by decide)).trans ((eh2.2.1 66 (by decide)).trans ((eh1.2.1 66 (by decide)).trans (F 66 _ hl_66))))) rfl ?_
  refine xi_cmt (pc' := 129) kc_147_59 rfl rfl ?_
  refine xi_aload_n (pc' := 130) (x := 66) kc_147_129 rfl rfl ?_
  refine xi_getfield (pc' := 133) (v := .ref 74) kc_147_130 rfl rfl rfl ((eh4.2.1 66 (by decide)).trans ((eh3.2.1 66 (by decide)).trans ((eh2.2.1 66 (by decide)).trans ((eh1.2.1 66 (by decide)).trans (F 66 _ hl_66))))) rfl ?_
  refine xi_iload_n (pc' := 134) (x := 0) kc_147_133 rfl rfl ?_
  refine xi_lload_n (pc' := 135) (x := 0) kc_147_134 rfl rfl ?_
  refine xi_lastore (pc' := 136) (x' := _) kc_147_135 rfl ((eh4.2.1 74 (by decide)).trans ((eh3.2.1 74 (by decide)).trans ((eh2.2.1 74 (by decide)).trans ((eh1.2.1 74 (by decide)).trans (F 74 _ hl_74))))) rfl (xi_in (by decide) (by simp only [List.length_replicate, List.length_set]; decide)) rfl (fun hh5 eh5 => ?_)
  refine xi_aload_n (pc' := 137) (x := 66) kc_147_136 rfl rfl ?_
  refine xi_dup (pc' := 138) kc_147_137 rfl rfl ?_
  refine xi_getfield (pc' := 141) (v := .long 0) kc_147_138 rfl rfl rfl ((eh5.2.1 66 (by decide)).trans ((eh4.2.1 66 (by decide)).trans ((eh3.2.1 66 (by decide)).trans ((eh2.2.1 66 (by decide)).trans ((eh1.2.1 66 (by decide)).trans (F 66 _ hl_66)))))) rfl ?_
  refine xi_lconst (pc' := 142) (v := 1) kc_147_141 rfl rfl ?_
  refine xi_iload_n (pc' := 143) (x := 0) kc_147_142 rfl rfl ?_
  refine xi_lshl (pc' := 144) (v := 1) kc_147_143 rfl (by decide) ?_
  refine xi_lor (pc' := 145) (v := 1) kc_147_144 rfl (by decide) ?_
  refine xi_putfield (pc' := 148) (fs' := [.ref 1, .ref 67, .ref 70, .ref 71, .ref 72, .ref 73, .ref 74, .long 1, .int 0]) kc_147_145 rfl rfl rfl ((eh5.2.1 66 (by decide)).trans ((eh4.2.1 66 (by decide)).trans ((eh3.2.1 66 (by decide)).trans ((eh2.2.1 66 (by decide)).trans ((eh1.2.1 66 (by decide)).trans (F 66 _ hl_66)))))) rfl rfl rfl (Nat.le_of_ble_eq_true rfl) rfl (fun hh6 eh6 => ?_)
  refine xi_lload_n (pc' := 149) (x := 0) kc_147_148 rfl rfl ?_
  refine xi_lreturn kc_147_149 mr_147 ?_
  show xw xe_J0 ov (d + 8) 194 (29, [(0, .ref 0), (1, .int 0)], [.long 0], hh6) _
  refine xi_lreturn kc_194_29 mr_194 ?_
  refine kk hh6 (fun k hk => ((eh6.2.1 k (by omega)).trans ((eh5.2.1 k (by omega)).trans ((eh4.2.1 k (by omega)).trans ((eh3.2.1 k (by omega)).trans ((eh2.2.1 k (by omega)).trans (eh1.2.1 k (by omega)))))))) ?_ ?_
  · rw [eh6.2.2.1, eh5.2.2.1, eh4.2.2.1, eh3.2.2.1, eh2.2.2.1, eh1.2.2.1]
  · rw [eh6.2.2.2, eh5.2.2.2, eh4.2.2.2, eh3.2.2.2, eh2.2.2.2, eh1.2.2.2]
set_option maxHeartbeats 8000000 in
set_option maxRecDepth 20000 in
theorem lc_14 {J : xe_J} {ov : List (List Int32)} (hJ : ∀ d mj as h, mj ≠ xe_loff → J d mj as h = none) {a0 a1 a2 a3 a4 a5 : Int32} (hov0 : ov[0]? = some [a0, a1, a2, a3, a4, a5]) (hov1 : ov[1]? = some [10, 0, 0, 0, 0, 0]) (hov2 : ov[2]? = some [99, 30, 50, 50, 1, 99999]) {h0 : xe_H} (F : xf_fr h0) (hn0 : h0.length + 1 ≤ 600002) (hz0 : xe_sz h0 + 6 ≤ 7302232) (j0 : ∃ h' : xe_H, J 99 195 [.ref 0, .int 0, .ref 167] h0 = some (some (.int 0), h') ∧ (∀ (k : Nat) (x : xe_E), 115 ≤ k → k ≠ 167 → hL[k]? = some x → h'[k]? = some x) ∧ h'[167]? = some (.inl (1, .inr (.inl [0]))) ∧ h'.length = h0.length ∧ xe_sz h' = xe_sz h0) (j1 : ∀ v : Int32, v.toInt ≠ 0 → ∃ h' : xe_H, J 99 195 [.ref 0, .int v, .ref 167] h0 = some (some (.int 1), h') ∧ (∀ (k : Nat) (x : xe_E), 115 ≤ k → k ≠ 167 → hL[k]? = some x → h'[k]? = some x) ∧ h'.length = h0.length + 1 ∧ xe_sz h' = xe_sz h0 + 6) : xw J ov 100 196 (790, [(4, .int 0), (3, .ref 167), (2, .ref 115), (1, .ref 0), (0, .ref 1000000)], [], h0) xf_Q := by
  have rr1 := xc_rng a1
  refine xi_aload_n (pc' := 791) (x := 0) kc_196_790 rfl rfl ?_
  refine xi_aload_n (pc' := 792) (x := 1000000) kc_196_791 rfl rfl ?_
  refine xi_iload (pc' := 794) (x := 0) kc_196_792 rfl rfl ?_
  refine xi_iconst (pc' := 795) (v := 1) kc_196_794 rfl rfl ?_
  refine xi_iadd (pc' := 796) (v := 1) kc_196_795 rfl rfl ?_
  refine xi_ialoadO (pc' := 797) (v := a1) kc_196_796 rfl (by decide) hov0 (xi_in (n := 6) (by decide) (by decide)) rfl ?_
  refine xi_aload_n (pc' := 798) (x := 167) kc_196_797 rfl rfl ?_
  by_cases c1 : a1.toInt = 0
  · have qa1 : a1 = 0 := xc_of (Eq.trans (by omega) (show (0 : Int) = (0 : Int32).toInt by decide))
    subst qa1
    obtain ⟨hh1, ej, G1, e167, n1, z1⟩ := j0
    refine xi_staticJ (mj := 195) (as := [.ref 0, .int 0, .ref 167]) (st1 := []) (r := some (.int 0)) (h' := hh1) kc_196_798 rfl rfl (Nat.le_of_ble_eq_true rfl) rfl rfl (Nat.le_of_ble_eq_true rfl) ej ?_
    show xw J ov 100 196 (801, [(4, .int 0), (3, .ref 167), (2, .ref 115), (1, .ref 0), (0, .ref 1000000)], [.int 0], hh1) _
    refine xi_istore (pc' := 803) (lv' := [(5, .int 0), (4, .int 0), (3, .ref 167), (2, .ref 115), (1, .ref 0), (0, .ref 1000000)]) kc_196_801 rfl rfl (xm_lt ml_196 rfl) ?_
    refine xi_aload_n (pc' := 804) (x := 115) kc_196_803 rfl rfl ?_
    refine xi_aload_n (pc' := 805) (x := 1000000) kc_196_804 rfl rfl ?_
    refine xi_iload (pc' := 807) (x := 0) kc_196_805 rfl rfl ?_
    refine xi_iconst (pc' := 808) (v := 1) kc_196_807 rfl rfl ?_
    refine xi_iadd (pc' := 809) (v := 1) kc_196_808 rfl rfl ?_
    refine xi_ialoadO (pc' := 810) (v := 0) kc_196_809 rfl (by decide) hov0 (xi_in (n := 6) (by decide) (by decide)) rfl ?_
    refine xi_virtual (mj := 42) (as := [.int 0]) (st1 := []) (lv0 := [(0, .ref 115), (1, .int 0)]) kc_196_810 rfl rfl rfl rfl rfl (G1 115 _ (by decide) (by decide) hl_115) (Nat.le_of_ble_eq_true rfl) (hJ _ _ _ _ (by decide)) (xm_le ml_42 rfl) rfl ?_
    refine xi_aload_n (pc' := 1) (x := 115) kc_42_0 rfl rfl ?_
    refine xi_iload_n (pc' := 2) (x := 0) kc_42_1 rfl rfl ?_
    refine xi_iconst (pc' := 3) (v := 0) kc_42_2 rfl rfl ?_
    refine xi_aload_n (pc' := 4) (x := 115) kc_42_3 rfl rfl ?_
    refine xi_virtual (mj := 43) (as := []) (st1 := [.int 0, .int 0, .ref 115]) (lv0 := [(0, .ref 115)]) kc_42_4 rfl rfl rfl rfl rfl (G1 115 _ (by decide) (by decide) hl_115) (Nat.le_of_ble_eq_true rfl) (hJ _ _ _ _ (by decide)) (xm_le ml_43 rfl) rfl ?_
    refine xi_iconst (pc' := 1) (v := 1) kc_43_0 rfl rfl ?_
    refine xi_aload_n (pc' := 2) (x := 115) kc_43_1 rfl rfl ?_
    refine xi_getfield (pc' := 5) (v := .int 0) kc_43_2 rfl rfl rfl (G1 115 _ (by decide) (by decide) hl_115) rfl ?_
    refine xi_bipush (pc' := 7) (v := 6) kc_43_5 rfl rfl ?_
    refine xi_cmf (pc' := 10) kc_43_7 rfl rfl ?_
    refine xi_aload_n (pc' := 11) (x := 115) kc_43_10 rfl rfl ?_
    refine xi_getfield (pc' := 14) (v := .int 0) kc_43_11 rfl rfl rfl (G1 115 _ (by decide) (by decide) hl_115) rfl ?_
    refine xi_goto (pc' := 19) kc_43_14 rfl ?_
    refine xi_ishl (pc' := 20) (v := 1) kc_43_19 rfl rfl ?_
    refine xi_ireturn kc_43_20 mr_43 rfl ?_
    show xw J ov 99 42 (7, [(0, .ref 115), (1, .int 0)], [.int 1, .int 0, .int 0, .ref 115], hh1) _
    refine xi_iconst (pc' := 8) (v := 1) kc_42_7 rfl rfl ?_
    refine xi_isub (pc' := 9) (v := 0) kc_42_8 rfl rfl ?_
    refine xi_static (mj := 12) (as := [.int 0, .int 0, .int 0]) (st1 := [.ref 115]) (lv0 := [(0, .int 0), (1, .int 0), (2, .int 0)]) kc_42_9 rfl rfl (Nat.le_of_ble_eq_true rfl) rfl rfl (Nat.le_of_ble_eq_true rfl) (hJ _ _ _ _ (by decide)) (xm_le ml_12 rfl) rfl ?_
    refine xi_iload_n (pc' := 1) (x := 0) kc_12_0 rfl rfl ?_
    refine xi_iload_n (pc' := 2) (x := 0) kc_12_1 rfl rfl ?_
    refine xi_cmf (pc' := 5) kc_12_2 rfl rfl ?_
    refine xi_iload_n (pc' := 6) (x := 0) kc_12_5 rfl rfl ?_
    refine xi_iload_n (pc' := 7) (x := 0) kc_12_6 rfl rfl ?_
    refine xi_cmf (pc' := 10) kc_12_7 rfl rfl ?_
    refine xi_iconst (pc' := 11) (v := 1) kc_12_10 rfl rfl ?_
    refine xi_goto (pc' := 15) kc_12_11 rfl ?_
    refine xi_ireturn kc_12_15 mr_12 rfl ?_
    show xw J ov 99 42 (12, [(0, .ref 115), (1, .int 0)], [.int 1, .ref 115], hh1) _
    refine xi_iff (pc' := 15) kc_42_12 rfl rfl ?_
    refine xi_iconst (pc' := 16) (v := 0) kc_42_15 rfl rfl ?_
    refine xi_goto (pc' := 20) kc_42_16 rfl ?_
    refine xi_putfield (pc' := 23) (fs' := [.int 0, .int 0, .ref 116, .ref 117, .ref 118, .ref 119, .ref 120, .ref 121, .ref 122, .ref 123, .ref 124, .ref 125, .ref 126, .ref 127, .ref 128, .ref 129, .int 4, .ref 130, .int 0, .ref 131, .ref 132, .ref 133, .ref 134, .int 0, .ref 135, .ref 136, .ref 137, .ref 138, .ref 139, .ref 140, .ref 141, .ref 142, .int 0, .int 0, .int 0, .ref 143, .ref 144, .ref 145, .ref 146, .ref 147, .ref 148, .int 0, .ref 149, .ref 150, .ref 151, .int 0, .ref 152, .ref 153, .ref 154, .ref 155, .ref 156, .ref 157, .ref 158, .ref 159, .int 0, .ref 160, .int 0, .ref 161, .ref 162, .ref 163, .ref 164, .int 0, .ref 165, .ref 166]) kc_42_20 rfl rfl rfl (G1 115 _ (by decide) (by decide) hl_115) rfl rfl rfl (Nat.le_of_ble_eq_true rfl) rfl (fun hh2 eh2 => ?_)
    refine xi_aload_n (pc' := 24) (x := 115) kc_42_23 rfl rfl ?_
    refine xi_getfield (pc' := 27) (v := .int 0) kc_42_24 rfl rfl rfl eh2.1 rfl ?_
    refine xi_ift (pc' := 32) kc_42_27 rfl rfl ?_
    refine xi_aload_n (pc' := 33) (x := 115) kc_42_32 rfl rfl ?_
    refine xi_virtual (mj := 44) (as := []) (st1 := []) (lv0 := [(0, .ref 115)]) kc_42_33 rfl rfl rfl rfl rfl eh2.1 (Nat.le_of_ble_eq_true rfl) (hJ _ _ _ _ (by decide)) (xm_le ml_44 rfl) rfl ?_
    refine xi_aload_n (pc' := 1) (x := 115) kc_44_0 rfl rfl ?_
    refine xi_getfield (pc' := 4) (v := .int 0) kc_44_1 rfl rfl rfl eh2.1 rfl ?_
    refine xi_ift (pc' := 8) kc_44_4 rfl rfl ?_
    refine xi_aload_n (pc' := 9) (x := 115) kc_44_8 rfl rfl ?_
    refine xi_iconst (pc' := 10) (v := 1) kc_44_9 rfl rfl ?_
    refine xi_putfield (pc' := 13) (fs' := [.int 0, .int 0, .ref 116, .ref 117, .ref 118, .ref 119, .ref 120, .ref 121, .ref 122, .ref 123, .ref 124, .ref 125, .ref 126, .ref 127, .ref 128, .ref 129, .int 4, .ref 130, .int 0, .ref 131, .ref 132, .ref 133, .ref 134, .int 0, .ref 135, .ref 136, .ref 137, .ref 138, .ref 139, .ref 140, .ref 141, .ref 142, .int 0, .int 0, .int 0, .ref 143, .ref 144, .ref 145, .ref 146, .ref 147, .ref 148, .int 1, .ref 149, .ref 150, .ref 151, .int 0, .ref 152, .ref 153, .ref 154, .ref 155, .ref 156, .ref 157, .ref 158, .ref 159, .int 0, .ref 160, .int 0, .ref 161, .ref 162, .ref 163, .ref 164, .int 0, .ref 165, .ref 166]) kc_44_10 rfl rfl rfl eh2.1 rfl rfl rfl (Nat.le_of_ble_eq_true rfl) rfl (fun hh3 eh3 => ?_)
    refine xi_aload_n (pc' := 14) (x := 115) kc_44_13 rfl rfl ?_
    refine xi_virtual (mj := 45) (as := []) (st1 := []) (lv0 := [(0, .ref 115)]) kc_44_14 rfl rfl rfl rfl rfl eh3.1 (Nat.le_of_ble_eq_true rfl) (hJ _ _ _ _ (by decide)) (xm_le ml_45 rfl) rfl ?_
    refine xi_iconst (pc' := 1) (v := 5) kc_45_0 rfl rfl ?_
    refine xi_istore_n (pc' := 2) (lv' := [(1, .int 5), (0, .ref 115)]) kc_45_1 rfl rfl (xm_lt ml_45 rfl) ?_
    refine xi_iconst (pc' := 3) (v := 0) kc_45_2 rfl rfl ?_
    refine xi_istore_n (pc' := 4) (lv' := [(2, .int 0), (1, .int 5), (0, .ref 115)]) kc_45_3 rfl rfl (xm_lt ml_45 rfl) ?_
    refine xi_iconst (pc' := 5) (v := 0) kc_45_4 rfl rfl ?_
    refine xi_istore_n (pc' := 6) (lv' := [(3, .int 0), (2, .int 0), (1, .int 5), (0, .ref 115)]) kc_45_5 rfl rfl (xm_lt ml_45 rfl) ?_
    refine lp_weather hJ eh3.1 ((eh3.2.1 123 (by decide)).trans ((eh2.2.1 123 (by decide)).trans (G1 123 _ (by decide) (by decide) hl_123))) ((eh3.2.1 124 (by decide)).trans ((eh2.2.1 124 (by decide)).trans (G1 124 _ (by decide) (by decide) hl_124))) (fun y4 z4 hh4 ly4 lz4 et4 => ?_) 600 0 (List.replicate 600 0) (List.replicate 600 0) hh3 (by decide) (by decide) (by decide) (by simp only [List.length_replicate]) (by simp only [List.length_replicate]) ⟨((eh3.2.1 150 (by decide)).trans ((eh2.2.1 150 (by decide)).trans (G1 150 _ (by decide) (by decide) hl_150))), ((eh3.2.1 151 (by decide)).trans ((eh2.2.1 151 (by decide)).trans (G1 151 _ (by decide) (by decide) hl_151))), fun _ _ _ => rfl, rfl, rfl⟩
    show xw J ov 98 44 (17, [(0, .ref 115)], [], hh4) _
    refine xi_iconst (pc' := 18) (v := 0) kc_44_17 rfl rfl ?_
    refine xi_istore_n (pc' := 19) (lv' := [(1, .int 0), (0, .ref 115)]) kc_44_18 rfl rfl (xm_lt ml_44 rfl) ?_
    refine xi_iload_n (pc' := 20) (x := 0) kc_44_19 rfl rfl ?_
    refine xi_aload_n (pc' := 21) (x := 115) kc_44_20 rfl rfl ?_
    refine xi_virtual (mj := 43) (as := []) (st1 := [.int 0]) (lv0 := [(0, .ref 115)]) kc_44_21 rfl rfl rfl rfl rfl ((et4.2.2.1 115 (by decide) (by decide)).trans eh3.1) (Nat.le_of_ble_eq_true rfl) (hJ _ _ _ _ (by decide)) (xm_le ml_43 rfl) rfl ?_
    refine xi_iconst (pc' := 1) (v := 1) kc_43_0 rfl rfl ?_
    refine xi_aload_n (pc' := 2) (x := 115) kc_43_1 rfl rfl ?_
    refine xi_getfield (pc' := 5) (v := .int 0) kc_43_2 rfl rfl rfl ((et4.2.2.1 115 (by decide) (by decide)).trans eh3.1) rfl ?_
    refine xi_bipush (pc' := 7) (v := 6) kc_43_5 rfl rfl ?_
    refine xi_cmf (pc' := 10) kc_43_7 rfl rfl ?_
    refine xi_aload_n (pc' := 11) (x := 115) kc_43_10 rfl rfl ?_
    refine xi_getfield (pc' := 14) (v := .int 0) kc_43_11 rfl rfl rfl ((et4.2.2.1 115 (by decide) (by decide)).trans eh3.1) rfl ?_
    refine xi_goto (pc' := 19) kc_43_14 rfl ?_
    refine xi_ishl (pc' := 20) (v := 1) kc_43_19 rfl rfl ?_
    refine xi_ireturn kc_43_20 mr_43 rfl ?_
    show xw J ov 98 44 (24, [(1, .int 0), (0, .ref 115)], [.int 1, .int 0], hh4) _
    refine xi_cmf (pc' := 27) kc_44_24 rfl rfl ?_
    refine xi_aload_n (pc' := 28) (x := 115) kc_44_27 rfl rfl ?_
    refine xi_getfield (pc' := 31) (v := .ref 149) kc_44_28 rfl rfl rfl ((et4.2.2.1 115 (by decide) (by decide)).trans eh3.1) rfl ?_
    refine xi_iload_n (pc' := 32) (x := 0) kc_44_31 rfl rfl ?_
    refine xi_aload_n (pc' := 33) (x := 115) kc_44_32 rfl rfl ?_
    refine xi_iload_n (pc' := 34) (x := 0) kc_44_33 rfl rfl ?_
    refine xi_virtual (mj := 46) (as := [.int 0]) (st1 := [.int 0, .ref 149]) (lv0 := [(0, .ref 115), (1, .int 0)]) kc_44_34 rfl rfl rfl rfl rfl ((et4.2.2.1 115 (by decide) (by decide)).trans eh3.1) (Nat.le_of_ble_eq_true rfl) (hJ _ _ _ _ (by decide)) (xm_le ml_46 rfl) rfl ?_
    refine xi_lconst (pc' := 1) (v := 0) kc_46_0 rfl rfl ?_
    refine xi_lstore_n (pc' := 2) (lv' := [(2, .long 0), (0, .ref 115), (1, .int 0)]) kc_46_1 rfl rfl (xm_lt ml_46 rfl) ?_
    refine xi_iconst (pc' := 3) (v := 0) kc_46_2 rfl rfl ?_
    refine xi_istore (pc' := 5) (lv' := [(4, .int 0), (2, .long 0), (0, .ref 115), (1, .int 0)]) kc_46_3 rfl rfl (xm_lt ml_46 rfl) ?_
    refine xi_iconst (pc' := 6) (v := 0) kc_46_5 rfl rfl ?_
    refine xi_istore (pc' := 8) (lv' := [(5, .int 0), (4, .int 0), (2, .long 0), (0, .ref 115), (1, .int 0)]) kc_46_6 rfl rfl (xm_lt ml_46 rfl) ?_
    refine xi_iload (pc' := 10) (x := 0) kc_46_8 rfl rfl ?_
    refine xi_bipush (pc' := 12) (v := 6) kc_46_10 rfl rfl ?_
    refine xi_cmf (pc' := 15) kc_46_12 rfl rfl ?_
    refine xi_aload_n (pc' := 16) (x := 115) kc_46_15 rfl rfl ?_
    refine xi_getfield (pc' := 19) (v := .ref 141) kc_46_16 rfl rfl rfl ((et4.2.2.1 115 (by decide) (by decide)).trans eh3.1) rfl ?_
    refine xi_iload (pc' := 21) (x := 0) kc_46_19 rfl rfl ?_
    refine xi_iconst (pc' := 22) (v := 0) kc_46_21 rfl rfl ?_
    refine xi_iastore (pc' := 23) (x' := [0, 0, 0, 0, 0, 0]) kc_46_22 rfl ((et4.2.2.1 141 (by decide) (by decide)).trans ((eh3.2.1 141 (by decide)).trans ((eh2.2.1 141 (by decide)).trans (G1 141 _ (by decide) (by decide) hl_141)))) rfl (xi_in (n := 6) (by decide) (by decide)) rfl (fun hh5 eh5 => ?_)
    refine xi_iinc (pc' := 26) (x := 0) (v := 1) (lv' := [(5, .int 1), (4, .int 0), (2, .long 0), (0, .ref 115), (1, .int 0)]) kc_46_23 rfl rfl rfl rfl (xm_lt ml_46 rfl) ?_
    refine xi_goto (pc' := 8) kc_46_26 rfl ?_
    refine xi_iload (pc' := 10) (x := 1) kc_46_8 rfl rfl ?_
    refine xi_bipush (pc' := 12) (v := 6) kc_46_10 rfl rfl ?_
    refine xi_cmf (pc' := 15) kc_46_12 rfl rfl ?_
    refine xi_aload_n (pc' := 16) (x := 115) kc_46_15 rfl rfl ?_
    refine xi_getfield (pc' := 19) (v := .ref 141) kc_46_16 rfl rfl rfl ((eh5.2.1 115 (by decide)).trans ((et4.2.2.1 115 (by decide) (by decide)).trans eh3.1)) rfl ?_
    refine xi_iload (pc' := 21) (x := 1) kc_46_19 rfl rfl ?_
    refine xi_iconst (pc' := 22) (v := 0) kc_46_21 rfl rfl ?_
    refine xi_iastore (pc' := 23) (x' := [0, 0, 0, 0, 0, 0]) kc_46_22 rfl eh5.1 rfl (xi_in (n := 6) (by decide) (by decide)) rfl (fun hh6 eh6 => ?_)
    refine xi_iinc (pc' := 26) (x := 1) (v := 2) (lv' := [(5, .int 2), (4, .int 0), (2, .long 0), (0, .ref 115), (1, .int 0)]) kc_46_23 rfl rfl rfl rfl (xm_lt ml_46 rfl) ?_
    refine xi_goto (pc' := 8) kc_46_26 rfl ?_
    refine xi_iload (pc' := 10) (x := 2) kc_46_8 rfl rfl ?_
    refine xi_bipush (pc' := 12) (v := 6) kc_46_10 rfl rfl ?_
    refine xi_cmf (pc' := 15) kc_46_12 rfl rfl ?_
    refine xi_aload_n (pc' := 16) (x := 115) kc_46_15 rfl rfl ?_
    refine xi_getfield (pc' := 19) (v := .ref 141) kc_46_16 rfl rfl rfl ((eh6.2.1 115 (by decide)).trans ((eh5.2.1 115 (by decide)).trans ((et4.2.2.1 115 (by decide) (by decide)).trans eh3.1))) rfl ?_
    refine xi_iload (pc' := 21) (x := 2) kc_46_19 rfl rfl ?_
    refine xi_iconst (pc' := 22) (v := 0) kc_46_21 rfl rfl ?_
    refine xi_iastore (pc' := 23) (x' := [0, 0, 0, 0, 0, 0]) kc_46_22 rfl eh6.1 rfl (xi_in (n := 6) (by decide) (by decide)) rfl (fun hh7 eh7 => ?_)
    refine xi_iinc (pc' := 26) (x := 2) (v := 3) (lv' := [(5, .int 3), (4, .int 0), (2, .long 0), (0, .ref 115), (1, .int 0)]) kc_46_23 rfl rfl rfl rfl (xm_lt ml_46 rfl) ?_
    refine xi_goto (pc' := 8) kc_46_26 rfl ?_
    refine xi_iload (pc' := 10) (x := 3) kc_46_8 rfl rfl ?_
    refine xi_bipush (pc' := 12) (v := 6) kc_46_10 rfl rfl ?_
    refine xi_cmf (pc' := 15) kc_46_12 rfl rfl ?_
    refine xi_aload_n (pc' := 16) (x := 115) kc_46_15 rfl rfl ?_
    refine xi_getfield (pc' := 19) (v := .ref 141) kc_46_16 rfl rfl rfl ((eh7.2.1 115 (by decide)).trans ((eh6.2.1 115 (by decide)).trans ((eh5.2.1 115 (by decide)).trans ((et4.2.2.1 115 (by decide) (by decide)).trans eh3.1)))) rfl ?_
    refine xi_iload (pc' := 21) (x := 3) kc_46_19 rfl rfl ?_
    refine xi_iconst (pc' := 22) (v := 0) kc_46_21 rfl rfl ?_
    refine xi_iastore (pc' := 23) (x' := [0, 0, 0, 0, 0, 0]) kc_46_22 rfl eh7.1 rfl (xi_in (n := 6) (by decide) (by decide)) rfl (fun hh8 eh8 => ?_)
    refine xi_iinc (pc' := 26) (x := 3) (v := 4) (lv' := [(5, .int 4), (4, .int 0), (2, .long 0), (0, .ref 115), (1, .int 0)]) kc_46_23 rfl rfl rfl rfl (xm_lt ml_46 rfl) ?_
    refine xi_goto (pc' := 8) kc_46_26 rfl ?_
    refine xi_iload (pc' := 10) (x := 4) kc_46_8 rfl rfl ?_
    refine xi_bipush (pc' := 12) (v := 6) kc_46_10 rfl rfl ?_
    refine xi_cmf (pc' := 15) kc_46_12 rfl rfl ?_
    refine xi_aload_n (pc' := 16) (x := 115) kc_46_15 rfl rfl ?_
    refine xi_getfield (pc' := 19) (v := .ref 141) kc_46_16 rfl rfl rfl ((eh8.2.1 115 (by decide)).trans ((eh7.2.1 115 (by decide)).trans ((eh6.2.1 115 (by decide)).trans ((eh5.2.1 115 (by decide)).trans ((et4.2.2.1 115 (by decide) (by decide)).trans eh3.1))))) rfl ?_
    refine xi_iload (pc' := 21) (x := 4) kc_46_19 rfl rfl ?_
    refine xi_iconst (pc' := 22) (v := 0) kc_46_21 rfl rfl ?_
    refine xi_iastore (pc' := 23) (x' := [0, 0, 0, 0, 0, 0]) kc_46_22 rfl eh8.1 rfl (xi_in (n := 6) (by decide) (by decide)) rfl (fun hh9 eh9 => ?_)
    refine xi_iinc (pc' := 26) (x := 4) (v := 5) (lv' := [(5, .int 5), (4, .int 0), (2, .long 0), (0, .ref 115), (1, .int 0)]) kc_46_23 rfl rfl rfl rfl (xm_lt ml_46 rfl) ?_
    refine xi_goto (pc' := 8) kc_46_26 rfl ?_
    refine xi_iload (pc' := 10) (x := 5) kc_46_8 rfl rfl ?_
    refine xi_bipush (pc' := 12) (v := 6) kc_46_10 rfl rfl ?_
    refine xi_cmf (pc' := 15) kc_46_12 rfl rfl ?_
    refine xi_aload_n (pc' := 16) (x := 115) kc_46_15 rfl rfl ?_
    refine xi_getfield (pc' := 19) (v := .ref 141) kc_46_16 rfl rfl rfl ((eh9.2.1 115 (by decide)).trans ((eh8.2.1 115 (by decide)).trans ((eh7.2.1 115 (by decide)).trans ((eh6.2.1 115 (by decide)).trans ((eh5.2.1 115 (by decide)).trans ((et4.2.2.1 115 (by decide) (by decide)).trans eh3.1)))))) rfl ?_
    refine xi_iload (pc' := 21) (x := 5) kc_46_19 rfl rfl ?_
    refine xi_iconst (pc' := 22) (v := 0) kc_46_21 rfl rfl ?_
    refine xi_iastore (pc' := 23) (x' := [0, 0, 0, 0, 0, 0]) kc_46_22 rfl eh9.1 rfl (xi_in (n := 6) (by decide) (by decide)) rfl (fun hh10 eh10 => ?_)
    refine xi_iinc (pc' := 26) (x := 5) (v := 6) (lv' := [(5, .int 6), (4, .int 0), (2, .long 0), (0, .ref 115), (1, .int 0)]) kc_46_23 rfl rfl rfl rfl (xm_lt ml_46 rfl) ?_
    refine xi_goto (pc' := 8) kc_46_26 rfl ?_
    refine xi_iload (pc' := 10) (x := 6) kc_46_8 rfl rfl ?_
    refine xi_bipush (pc' := 12) (v := 6) kc_46_10 rfl rfl ?_
    refine xi_cmt (pc' := 29) kc_46_12 rfl rfl ?_
    refine xi_iconst (pc' := 30) (v := 0) kc_46_29 rfl rfl ?_
    refine xi_istore (pc' := 32) (lv' := [(5, .int 0), (4, .int 0), (2, .long 0), (0, .ref 115), (1, .int 0)]) kc_46_30 rfl rfl (xm_lt ml_46 rfl) ?_
    refine xi_iload (pc' := 34) (x := 0) kc_46_32 rfl rfl ?_
    refine xi_bipush (pc' := 36) (v := 12) kc_46_34 rfl rfl ?_
    refine xi_cmf (pc' := 39) kc_46_36 rfl rfl ?_
    refine xi_aload_n (pc' := 40) (x := 115) kc_46_39 rfl rfl ?_
    refine xi_getfield (pc' := 43) (v := .ref 142) kc_46_40 rfl rfl rfl ((eh10.2.1 115 (by decide)).trans ((eh9.2.1 115 (by decide)).trans ((eh8.2.1 115 (by decide)).trans ((eh7.2.1 115 (by decide)).trans ((eh6.2.1 115 (by decide)).trans ((eh5.2.1 115 (by decide)).trans ((et4.2.2.1 115 (by decide) (by decide)).trans eh3.1))))))) rfl ?_
    refine xi_iload (pc' := 45) (x := 0) kc_46_43 rfl rfl ?_
    refine xi_iconst (pc' := 46) (v := 0) kc_46_45 rfl rfl ?_
    refine xi_iastore (pc' := 47) (x' := [0, 0, 0, 0, 0, 0, 0, 0, 0, 0, 0, 0]) kc_46_46 rfl ((eh10.2.1 142 (by decide)).trans ((eh9.2.1 142 (by decide)).trans ((eh8.2.1 142 (by decide)).trans ((eh7.2.1 142 (by decide)).trans ((eh6.2.1 142 (by decide)).trans ((eh5.2.1 142 (by decide)).trans ((et4.2.2.1 142 (by decide) (by decide)).trans ((eh3.2.1 142 (by decide)).trans ((eh2.2.1 142 (by decide)).trans (G1 142 _ (by decide) (by decide) hl_142)))))))))) rfl (xi_in (n := 12) (by decide) (by decide)) rfl (fun hh11 eh11 => ?_)
    refine xi_iinc (pc' := 50) (x := 0) (v := 1) (lv' := [(5, .int 1), (4, .int 0), (2, .long 0), (0, .ref 115), (1, .int 0)]) kc_46_47 rfl rfl rfl rfl (xm_lt ml_46 rfl) ?_
    refine xi_goto (pc' := 32) kc_46_50 rfl ?_
    refine xi_iload (pc' := 34) (x := 1) kc_46_32 rfl rfl ?_
    refine xi_bipush (pc' := 36) (v := 12) kc_46_34 rfl rfl ?_
    refine xi_cmf (pc' := 39) kc_46_36 rfl rfl ?_
    refine xi_aload_n (pc' := 40) (x := 115) kc_46_39 rfl rfl ?_
    refine xi_getfield (pc' := 43) (v := .ref 142) kc_46_40 rfl rfl rfl ((eh11.2.1 115 (by decide)).trans ((eh10.2.1 115 (by decide)).trans ((eh9.2.1 115 (by decide)).trans ((eh8.2.1 115 (by decide)).trans ((eh7.2.1 115 (by decide)).trans ((eh6.2.1 115 (by decide)).trans ((eh5.2.1 115 (by decide)).trans ((et4.2.2.1 115 (by decide) (by decide)).trans eh3.1)))))))) rfl ?_
    refine xi_iload (pc' := 45) (x := 1) kc_46_43 rfl rfl ?_
    refine xi_iconst (pc' := 46) (v := 0) kc_46_45 rfl rfl ?_
    refine xi_iastore (pc' := 47) (x' := [0, 0, 0, 0, 0, 0, 0, 0, 0, 0, 0, 0]) kc_46_46 rfl eh11.1 rfl (xi_in (n := 12) (by decide) (by decide)) rfl (fun hh12 eh12 => ?_)
    refine xi_iinc (pc' := 50) (x := 1) (v := 2) (lv' := [(5, .int 2), (4, .int 0), (2, .long 0), (0, .ref 115), (1, .int 0)]) kc_46_47 rfl rfl rfl rfl (xm_lt ml_46 rfl) ?_
    refine xi_goto (pc' := 32) kc_46_50 rfl ?_
    refine xi_iload (pc' := 34) (x := 2) kc_46_32 rfl rfl ?_
    refine xi_bipush (pc' := 36) (v := 12) kc_46_34 rfl rfl ?_
    refine xi_cmf (pc' := 39) kc_46_36 rfl rfl ?_
    refine xi_aload_n (pc' := 40) (x := 115) kc_46_39 rfl rfl ?_
    refine xi_getfield (pc' := 43) (v := .ref 142) kc_46_40 rfl rfl rfl ((eh12.2.1 115 (by decide)).trans ((eh11.2.1 115 (by decide)).trans ((eh10.2.1 115 (by decide)).trans ((eh9.2.1 115 (by decide)).trans ((eh8.2.1 115 (by decide)).trans ((eh7.2.1 115 (by decide)).trans ((eh6.2.1 115 (by decide)).trans ((eh5.2.1 115 (by decide)).trans ((et4.2.2.1 115 (by decide) (by decide)).trans eh3.1))))))))) rfl ?_
    refine xi_iload (pc' := 45) (x := 2) kc_46_43 rfl rfl ?_
    refine xi_iconst (pc' := 46) (v := 0) kc_46_45 rfl rfl ?_
    refine xi_iastore (pc' := 47) (x' := [0, 0, 0, 0, 0, 0, 0, 0, 0, 0, 0, 0]) kc_46_46 rfl eh12.1 rfl (xi_in (n := 12) (by decide) (by decide)) rfl (fun hh13 eh13 => ?_)
    refine xi_iinc (pc' := 50) (x := 2) (v := 3) (lv' := [(5, .int 3), (4, .int 0), (2, .long 0), (0, .ref 115), (1, .int 0)]) kc_46_47 rfl rfl rfl rfl (xm_lt ml_46 rfl) ?_
    refine xi_goto (pc' := 32) kc_46_50 rfl ?_
    refine xi_iload (pc' := 34) (x := 3) kc_46_32 rfl rfl ?_
    refine xi_bipush (pc' := 36) (v := 12) kc_46_34 rfl rfl ?_
    refine xi_cmf (pc' := 39) kc_46_36 rfl rfl ?_
    refine xi_aload_n (pc' := 40) (x := 115) kc_46_39 rfl rfl ?_
    refine xi_getfield (pc' := 43) (v := .ref 142) kc_46_40 rfl rfl rfl ((eh13.2.1 115 (by decide)).trans ((eh12.2.1 115 (by decide)).trans ((eh11.2.1 115 (by decide)).trans ((eh10.2.1 115 (by decide)).trans ((eh9.2.1 115 (by decide)).trans ((eh8.2.1 115 (by decide)).trans ((eh7.2.1 115 (by decide)).trans ((eh6.2.1 115 (by decide)).trans ((eh5.2.1 115 (by decide)).trans ((et4.2.2.1 115 (by decide) (by decide)).trans eh3.1)))))))))) rfl ?_
    refine xi_iload (pc' := 45) (x := 3) kc_46_43 rfl rfl ?_
    refine xi_iconst (pc' := 46) (v := 0) kc_46_45 rfl rfl ?_
    refine xi_iastore (pc' := 47) (x' := [0, 0, 0, 0, 0, 0, 0, 0, 0, 0, 0, 0]) kc_46_46 rfl eh13.1 rfl (xi_in (n := 12) (by decide) (by decide)) rfl (fun hh14 eh14 => ?_)
    refine xi_iinc (pc' := 50) (x := 3) (v := 4) (lv' := [(5, .int 4), (4, .int 0), (2, .long 0), (0, .ref 115), (1, .int 0)]) kc_46_47 rfl rfl rfl rfl (xm_lt ml_46 rfl) ?_
    refine xi_goto (pc' := 32) kc_46_50 rfl ?_
    refine xi_iload (pc' := 34) (x := 4) kc_46_32 rfl rfl ?_
    refine xi_bipush (pc' := 36) (v := 12) kc_46_34 rfl rfl ?_
    refine xi_cmf (pc' := 39) kc_46_36 rfl rfl ?_
    refine xi_aload_n (pc' := 40) (x := 115) kc_46_39 rfl rfl ?_
    refine xi_getfield (pc' := 43) (v := .ref 142) kc_46_40 rfl rfl rfl ((eh14.2.1 115 (by decide)).trans ((eh13.2.1 115 (by decide)).trans ((eh12.2.1 115 (by decide)).trans ((eh11.2.1 115 (by decide)).trans ((eh10.2.1 115 (by decide)).trans ((eh9.2.1 115 (by decide)).trans ((eh8.2.1 115 (by decide)).trans ((eh7.2.1 115 (by decide)).trans ((eh6.2.1 115 (by decide)).trans ((eh5.2.1 115 (by decide)).trans ((et4.2.2.1 115 (by decide) (by decide)).trans eh3.1))))))))))) rfl ?_
    refine xi_iload (pc' := 45) (x := 4) kc_46_43 rfl rfl ?_
    refine xi_iconst (pc' := 46) (v := 0) kc_46_45 rfl rfl ?_
    refine xi_iastore (pc' := 47) (x' := [0, 0, 0, 0, 0, 0, 0, 0, 0, 0, 0, 0]) kc_46_46 rfl eh14.1 rfl (xi_in (n := 12) (by decide) (by decide)) rfl (fun hh15 eh15 => ?_)
    refine xi_iinc (pc' := 50) (x := 4) (v := 5) (lv' := [(5, .int 5), (4, .int 0), (2, .long 0), (0, .ref 115), (1, .int 0)]) kc_46_47 rfl rfl rfl rfl (xm_lt ml_46 rfl) ?_
    refine xi_goto (pc' := 32) kc_46_50 rfl ?_
    refine xi_iload (pc' := 34) (x := 5) kc_46_32 rfl rfl ?_
    refine xi_bipush (pc' := 36) (v := 12) kc_46_34 rfl rfl ?_
    refine xi_cmf (pc' := 39) kc_46_36 rfl rfl ?_
    refine xi_aload_n (pc' := 40) (x := 115) kc_46_39 rfl rfl ?_
    refine xi_getfield (pc' := 43) (v := .ref 142) kc_46_40 rfl rfl rfl ((eh15.2.1 115 (by decide)).trans ((eh14.2.1 115 (by decide)).trans ((eh13.2.1 115 (by decide)).trans ((eh12.2.1 115 (by decide)).trans ((eh11.2.1 115 (by decide)).trans ((eh10.2.1 115 (by decide)).trans ((eh9.2.1 115 (by decide)).trans ((eh8.2.1 115 (by decide)).trans ((eh7.2.1 115 (by decide)).trans ((eh6.2.1 115 (by decide)).trans ((eh5.2.1 115 (by decide)).trans ((et4.2.2.1 115 (by decide) (by decide)).trans eh3.1)))))))))))) rfl ?_
    refine xi_iload (pc' := 45) (x := 5) kc_46_43 rfl rfl ?_
    refine xi_iconst (pc' := 46) (v := 0) kc_46_45 rfl rfl ?_
    refine xi_iastore (pc' := 47) (x' := [0, 0, 0, 0, 0, 0, 0, 0, 0, 0, 0, 0]) kc_46_46 rfl eh15.1 rfl (xi_in (n := 12) (by decide) (by decide)) rfl (fun hh16 eh16 => ?_)
    refine xi_iinc (pc' := 50) (x := 5) (v := 6) (lv' := [(5, .int 6), (4, .int 0), (2, .long 0), (0, .ref 115), (1, .int 0)]) kc_46_47 rfl rfl rfl rfl (xm_lt ml_46 rfl) ?_
    refine xi_goto (pc' := 32) kc_46_50 rfl ?_
    refine xi_iload (pc' := 34) (x := 6) kc_46_32 rfl rfl ?_
    refine xi_bipush (pc' := 36) (v := 12) kc_46_34 rfl rfl ?_
    refine xi_cmf (pc' := 39) kc_46_36 rfl rfl ?_
    refine xi_aload_n (pc' := 40) (x := 115) kc_46_39 rfl rfl ?_
    refine xi_getfield (pc' := 43) (v := .ref 142) kc_46_40 rfl rfl rfl ((eh16.2.1 115 (by decide)).trans ((eh15.2.1 115 (by decide)).trans ((eh14.2.1 115 (by decide)).trans ((eh13.2.1 115 (by decide)).trans ((eh12.2.1 115 (by decide)).trans ((eh11.2.1 115 (by decide)).trans ((eh10.2.1 115 (by decide)).trans ((eh9.2.1 115 (by decide)).trans ((eh8.2.1 115 (by decide)).trans ((eh7.2.1 115 (by decide)).trans ((eh6.2.1 115 (by decide)).trans ((eh5.2.1 115 (by decide)).trans ((et4.2.2.1 115 (by decide) (by decide)).trans eh3.1))))))))))))) rfl ?_
    refine xi_iload (pc' := 45) (x := 6) kc_46_43 rfl rfl ?_
    refine xi_iconst (pc' := 46) (v := 0) kc_46_45 rfl rfl ?_
    refine xi_iastore (pc' := 47) (x' := [0, 0, 0, 0, 0, 0, 0, 0, 0, 0, 0, 0]) kc_46_46 rfl eh16.1 rfl (xi_in (n := 12) (by decide) (by decide)) rfl (fun hh17 eh17 => ?_)
    refine xi_iinc (pc' := 50) (x := 6) (v := 7) (lv' := [(5, .int 7), (4, .int 0), (2, .long 0), (0, .ref 115), (1, .int 0)]) kc_46_47 rfl rfl rfl rfl (xm_lt ml_46 rfl) ?_
    refine xi_goto (pc' := 32) kc_46_50 rfl ?_
    refine xi_iload (pc' := 34) (x := 7) kc_46_32 rfl rfl ?_
    refine xi_bipush (pc' := 36) (v := 12) kc_46_34 rfl rfl ?_
    refine xi_cmf (pc' := 39) kc_46_36 rfl rfl ?_
    refine xi_aload_n (pc' := 40) (x := 115) kc_46_39 rfl rfl ?_
    refine xi_getfield (pc' := 43) (v := .ref 142) kc_46_40 rfl rfl rfl ((eh17.2.1 115 (by decide)).trans ((eh16.2.1 115 (by decide)).trans ((eh15.2.1 115 (by decide)).trans ((eh14.2.1 115 (by decide)).trans ((eh13.2.1 115 (by decide)).trans ((eh12.2.1 115 (by decide)).trans ((eh11.2.1 115 (by decide)).trans ((eh10.2.1 115 (by decide)).trans ((eh9.2.1 115 (by decide)).trans ((eh8.2.1 115 (by decide)).trans ((eh7.2.1 115 (by decide)).trans ((eh6.2.1 115 (by decide)).trans ((eh5.2.1 115 (by decide)).trans ((et4.2.2.1 115 (by decide) (by decide)).trans eh3.1)))))))))))))) rfl ?_
    refine xi_iload (pc' := 45) (x := 7) kc_46_43 rfl rfl ?_
    refine xi_iconst (pc' := 46) (v := 0) kc_46_45 rfl rfl ?_
    refine xi_iastore (pc' := 47) (x' := [0, 0, 0, 0, 0, 0, 0, 0, 0, 0, 0, 0]) kc_46_46 rfl eh17.1 rfl (xi_in (n := 12) (by decide) (by decide)) rfl (fun hh18 eh18 => ?_)
    refine xi_iinc (pc' := 50) (x := 7) (v := 8) (lv' := [(5, .int 8), (4, .int 0), (2, .long 0), (0, .ref 115), (1, .int 0)]) kc_46_47 rfl rfl rfl rfl (xm_lt ml_46 rfl) ?_
    refine xi_goto (pc' := 32) kc_46_50 rfl ?_
    refine xi_iload (pc' := 34) (x := 8) kc_46_32 rfl rfl ?_
    refine xi_bipush (pc' := 36) (v := 12) kc_46_34 rfl rfl ?_
    refine xi_cmf (pc' := 39) kc_46_36 rfl rfl ?_
    refine xi_aload_n (pc' := 40) (x := 115) kc_46_39 rfl rfl ?_
    refine xi_getfield (pc' := 43) (v := .ref 142) kc_46_40 rfl rfl rfl ((eh18.2.1 115 (by decide)).trans ((eh17.2.1 115 (by decide)).trans ((eh16.2.1 115 (by decide)).trans ((eh15.2.1 115 (by decide)).trans ((eh14.2.1 115 (by decide)).trans ((eh13.2.1 115 (by decide)).trans ((eh12.2.1 115 (by decide)).trans ((eh11.2.1 115 (by decide)).trans ((eh10.2.1 115 (by decide)).trans ((eh9.2.1 115 (by decide)).trans ((eh8.2.1 115 (by decide)).trans ((eh7.2.1 115 (by decide)).trans ((eh6.2.1 115 (by decide)).trans ((eh5.2.1 115 (by decide)).trans ((et4.2.2.1 115 (by decide) (by decide)).trans eh3.1))))))))))))))) rfl ?_
    refine xi_iload (pc' := 45) (x := 8) kc_46_43 rfl rfl ?_
    refine xi_iconst (pc' := 46) (v := 0) kc_46_45 rfl rfl ?_
    refine xi_iastore (pc' := 47) (x' := [0, 0, 0, 0, 0, 0, 0, 0, 0, 0, 0, 0]) kc_46_46 rfl eh18.1 rfl (xi_in (n := 12) (by decide) (by decide)) rfl (fun hh19 eh19 => ?_)
    refine xi_iinc (pc' := 50) (x := 8) (v := 9) (lv' := [(5, .int 9), (4, .int 0), (2, .long 0), (0, .ref 115), (1, .int 0)]) kc_46_47 rfl rfl rfl rfl (xm_lt ml_46 rfl) ?_
    refine xi_goto (pc' := 32) kc_46_50 rfl ?_
    refine xi_iload (pc' := 34) (x := 9) kc_46_32 rfl rfl ?_
    refine xi_bipush (pc' := 36) (v := 12) kc_46_34 rfl rfl ?_
    refine xi_cmf (pc' := 39) kc_46_36 rfl rfl ?_
    refine xi_aload_n (pc' := 40) (x := 115) kc_46_39 rfl rfl ?_
    refine xi_getfield (pc' := 43) (v := .ref 142) kc_46_40 rfl rfl rfl ((eh19.2.1 115 (by decide)).trans ((eh18.2.1 115 (by decide)).trans ((eh17.2.1 115 (by decide)).trans ((eh16.2.1 115 (by decide)).trans ((eh15.2.1 115 (by decide)).trans ((eh14.2.1 115 (by decide)).trans ((eh13.2.1 115 (by decide)).trans ((eh12.2.1 115 (by decide)).trans ((eh11.2.1 115 (by decide)).trans ((eh10.2.1 115 (by decide)).trans ((eh9.2.1 115 (by decide)).trans ((eh8.2.1 115 (by decide)).trans ((eh7.2.1 115 (by decide)).trans ((eh6.2.1 115 (by decide)).trans ((eh5.2.1 115 (by decide)).trans ((et4.2.2.1 115 (by decide) (by decide)).trans eh3.1)))))))))))))))) rfl ?_
    refine xi_iload (pc' := 45) (x := 9) kc_46_43 rfl rfl ?_
    refine xi_iconst (pc' := 46) (v := 0) kc_46_45 rfl rfl ?_
    refine xi_iastore (pc' := 47) (x' := [0, 0, 0, 0, 0, 0, 0, 0, 0, 0, 0, 0]) kc_46_46 rfl eh19.1 rfl (xi_in (n := 12) (by decide) (by decide)) rfl (fun hh20 eh20 => ?_)
    refine xi_iinc (pc' := 50) (x := 9) (v := 10) (lv' := [(5, .int 10), (4, .int 0), (2, .long 0), (0, .ref 115), (1, .int 0)]) kc_46_47 rfl rfl rfl rfl (xm_lt ml_46 rfl) ?_
    refine xi_goto (pc' := 32) kc_46_50 rfl ?_
    refine xi_iload (pc' := 34) (x := 10) kc_46_32 rfl rfl ?_
    refine xi_bipush (pc' := 36) (v := 12) kc_46_34 rfl rfl ?_
    refine xi_cmf (pc' := 39) kc_46_36 rfl rfl ?_
    refine xi_aload_n (pc' := 40) (x := 115) kc_46_39 rfl rfl ?_
    refine xi_getfield (pc' := 43) (v := .ref 142) kc_46_40 rfl rfl rfl ((eh20.2.1 115 (by decide)).trans ((eh19.2.1 115 (by decide)).trans ((eh18.2.1 115 (by decide)).trans ((eh17.2.1 115 (by decide)).trans ((eh16.2.1 115 (by decide)).trans ((eh15.2.1 115 (by decide)).trans ((eh14.2.1 115 (by decide)).trans ((eh13.2.1 115 (by decide)).trans ((eh12.2.1 115 (by decide)).trans ((eh11.2.1 115 (by decide)).trans ((eh10.2.1 115 (by decide)).trans ((eh9.2.1 115 (by decide)).trans ((eh8.2.1 115 (by decide)).trans ((eh7.2.1 115 (by decide)).trans ((eh6.2.1 115 (by decide)).trans ((eh5.2.1 115 (by decide)).trans ((et4.2.2.1 115 (by decide) (by decide)).trans eh3.1))))))))))))))))) rfl ?_
    refine xi_iload (pc' := 45) (x := 10) kc_46_43 rfl rfl ?_
    refine xi_iconst (pc' := 46) (v := 0) kc_46_45 rfl rfl ?_
    refine xi_iastore (pc' := 47) (x' := [0, 0, 0, 0, 0, 0, 0, 0, 0, 0, 0, 0]) kc_46_46 rfl eh20.1 rfl (xi_in (n := 12) (by decide) (by decide)) rfl (fun hh21 eh21 => ?_)
    refine xi_iinc (pc' := 50) (x := 10) (v := 11) (lv' := [(5, .int 11), (4, .int 0), (2, .long 0), (0, .ref 115), (1, .int 0)]) kc_46_47 rfl rfl rfl rfl (xm_lt ml_46 rfl) ?_
    refine xi_goto (pc' := 32) kc_46_50 rfl ?_
    refine xi_iload (pc' := 34) (x := 11) kc_46_32 rfl rfl ?_
    refine xi_bipush (pc' := 36) (v := 12) kc_46_34 rfl rfl ?_
    refine xi_cmf (pc' := 39) kc_46_36 rfl rfl ?_
    refine xi_aload_n (pc' := 40) (x := 115) kc_46_39 rfl rfl ?_
    refine xi_getfield (pc' := 43) (v := .ref 142) kc_46_40 rfl rfl rfl ((eh21.2.1 115 (by decide)).trans ((eh20.2.1 115 (by decide)).trans ((eh19.2.1 115 (by decide)).trans ((eh18.2.1 115 (by decide)).trans ((eh17.2.1 115 (by decide)).trans ((eh16.2.1 115 (by decide)).trans ((eh15.2.1 115 (by decide)).trans ((eh14.2.1 115 (by decide)).trans ((eh13.2.1 115 (by decide)).trans ((eh12.2.1 115 (by decide)).trans ((eh11.2.1 115 (by decide)).trans ((eh10.2.1 115 (by decide)).trans ((eh9.2.1 115 (by decide)).trans ((eh8.2.1 115 (by decide)).trans ((eh7.2.1 115 (by decide)).trans ((eh6.2.1 115 (by decide)).trans ((eh5.2.1 115 (by decide)).trans ((et4.2.2.1 115 (by decide) (by decide)).trans eh3.1)))))))))))))))))) rfl ?_
    refine xi_iload (pc' := 45) (x := 11) kc_46_43 rfl rfl ?_
    refine xi_iconst (pc' := 46) (v := 0) kc_46_45 rfl rfl ?_
    refine xi_iastore (pc' := 47) (x' := [0, 0, 0, 0, 0, 0, 0, 0, 0, 0, 0, 0]) kc_46_46 rfl eh21.1 rfl (xi_in (n := 12) (by decide) (by decide)) rfl (fun hh22 eh22 => ?_)
    refine xi_iinc (pc' := 50) (x := 11) (v := 12) (lv' := [(5, .int 12), (4, .int 0), (2, .long 0), (0, .ref 115), (1, .int 0)]) kc_46_47 rfl rfl rfl rfl (xm_lt ml_46 rfl) ?_
    refine xi_goto (pc' := 32) kc_46_50 rfl ?_
    refine xi_iload (pc' := 34) (x := 12) kc_46_32 rfl rfl ?_
    refine xi_bipush (pc' := 36) (v := 12) kc_46_34 rfl rfl ?_
    refine xi_cmt (pc' := 53) kc_46_36 rfl rfl ?_
    refine xi_iconst (pc' := 54) (v := 0) kc_46_53 rfl rfl ?_
    refine xi_istore (pc' := 56) (lv' := [(5, .int 0), (4, .int 0), (2, .long 0), (0, .ref 115), (1, .int 0)]) kc_46_54 rfl rfl (xm_lt ml_46 rfl) ?_
    refine xi_iload (pc' := 58) (x := 0) kc_46_56 rfl rfl ?_
    refine xi_aload_n (pc' := 59) (x := 115) kc_46_58 rfl rfl ?_
    refine xi_getfield (pc' := 62) (v := .int 0) kc_46_59 rfl rfl rfl ((eh22.2.1 115 (by decide)).trans ((eh21.2.1 115 (by decide)).trans ((eh20.2.1 115 (by decide)).trans ((eh19.2.1 115 (by decide)).trans ((eh18.2.1 115 (by decide)).trans ((eh17.2.1 115 (by decide)).trans ((eh16.2.1 115 (by decide)).trans ((eh15.2.1 115 (by decide)).trans ((eh14.2.1 115 (by decide)).trans ((eh13.2.1 115 (by decide)).trans ((eh12.2.1 115 (by decide)).trans ((eh11.2.1 115 (by decide)).trans ((eh10.2.1 115 (by decide)).trans ((eh9.2.1 115 (by decide)).trans ((eh8.2.1 115 (by decide)).trans ((eh7.2.1 115 (by decide)).trans ((eh6.2.1 115 (by decide)).trans ((eh5.2.1 115 (by decide)).trans ((et4.2.2.1 115 (by decide) (by decide)).trans eh3.1))))))))))))))))))) rfl ?_
    refine xi_cmf (pc' := 65) kc_46_62 rfl rfl ?_
    refine xi_iload (pc' := 67) (x := 0) kc_46_65 rfl rfl ?_
    refine xi_aload_n (pc' := 68) (x := 115) kc_46_67 rfl rfl ?_
    refine xi_getfield (pc' := 71) (v := .int 0) kc_46_68 rfl rfl rfl ((eh22.2.1 115 (by decide)).trans ((eh21.2.1 115 (by decide)).trans ((eh20.2.1 115 (by decide)).trans ((eh19.2.1 115 (by decide)).trans ((eh18.2.1 115 (by decide)).trans ((eh17.2.1 115 (by decide)).trans ((eh16.2.1 115 (by decide)).trans ((eh15.2.1 115 (by decide)).trans ((eh14.2.1 115 (by decide)).trans ((eh13.2.1 115 (by decide)).trans ((eh12.2.1 115 (by decide)).trans ((eh11.2.1 115 (by decide)).trans ((eh10.2.1 115 (by decide)).trans ((eh9.2.1 115 (by decide)).trans ((eh8.2.1 115 (by decide)).trans ((eh7.2.1 115 (by decide)).trans ((eh6.2.1 115 (by decide)).trans ((eh5.2.1 115 (by decide)).trans ((et4.2.2.1 115 (by decide) (by decide)).trans eh3.1))))))))))))))))))) rfl ?_
    refine xi_cmt (pc' := 176) kc_46_71 rfl rfl ?_
    refine xi_iload (pc' := 178) (x := 0) kc_46_176 rfl rfl ?_
    refine xi_aload_n (pc' := 179) (x := 115) kc_46_178 rfl rfl ?_
    refine xi_getfield (pc' := 182) (v := .int 0) kc_46_179 rfl rfl rfl ((eh22.2.1 115 (by decide)).trans ((eh21.2.1 115 (by decide)).trans ((eh20.2.1 115 (by decide)).trans ((eh19.2.1 115 (by decide)).trans ((eh18.2.1 115 (by decide)).trans ((eh17.2.1 115 (by decide)).trans ((eh16.2.1 115 (by decide)).trans ((eh15.2.1 115 (by decide)).trans ((eh14.2.1 115 (by decide)).trans ((eh13.2.1 115 (by decide)).trans ((eh12.2.1 115 (by decide)).trans ((eh11.2.1 115 (by decide)).trans ((eh10.2.1 115 (by decide)).trans ((eh9.2.1 115 (by decide)).trans ((eh8.2.1 115 (by decide)).trans ((eh7.2.1 115 (by decide)).trans ((eh6.2.1 115 (by decide)).trans ((eh5.2.1 115 (by decide)).trans ((et4.2.2.1 115 (by decide) (by decide)).trans eh3.1))))))))))))))))))) rfl ?_
    refine xi_cmt (pc' := 215) kc_46_182 rfl rfl ?_
    refine xi_iinc (pc' := 218) (x := 0) (v := 1) (lv' := [(5, .int 1), (4, .int 0), (2, .long 0), (0, .ref 115), (1, .int 0)]) kc_46_215 rfl rfl rfl rfl (xm_lt ml_46 rfl) ?_
    refine xi_goto (pc' := 56) kc_46_218 rfl ?_
    refine xi_iload (pc' := 58) (x := 1) kc_46_56 rfl rfl ?_
    refine xi_aload_n (pc' := 59) (x := 115) kc_46_58 rfl rfl ?_
    refine xi_getfield (pc' := 62) (v := .int 0) kc_46_59 rfl rfl rfl ((eh22.2.1 115 (by decide)).trans ((eh21.2.1 115 (by decide)).trans ((eh20.2.1 115 (by decide)).trans ((eh19.2.1 115 (by decide)).trans ((eh18.2.1 115 (by decide)).trans ((eh17.2.1 115 (by decide)).trans ((eh16.2.1 115 (by decide)).trans ((eh15.2.1 115 (by decide)).trans ((eh14.2.1 115 (by decide)).trans ((eh13.2.1 115 (by decide)).trans ((eh12.2.1 115 (by decide)).trans ((eh11.2.1 115 (by decide)).trans ((eh10.2.1 115 (by decide)).trans ((eh9.2.1 115 (by decide)).trans ((eh8.2.1 115 (by decide)).trans ((eh7.2.1 115 (by decide)).trans ((eh6.2.1 115 (by decide)).trans ((eh5.2.1 115 (by decide)).trans ((et4.2.2.1 115 (by decide) (by decide)).trans eh3.1))))))))))))))))))) rfl ?_
    refine xi_cmt (pc' := 221) kc_46_62 rfl rfl ?_
    refine xi_lload_n (pc' := 222) (x := 0) kc_46_221 rfl rfl ?_
    refine xi_lreturn kc_46_222 mr_46 ?_
    show xw J ov 98 44 (37, [(1, .int 0), (0, .ref 115)], [.long 0, .int 0, .ref 149], hh22) _
    refine xi_lastore (pc' := 38) (x' := _) kc_44_37 rfl ((eh22.2.1 149 (by decide)).trans ((eh21.2.1 149 (by decide)).trans ((eh20.2.1 149 (by decide)).trans ((eh19.2.1 149 (by decide)).trans ((eh18.2.1 149 (by decide)).trans ((eh17.2.1 149 (by decide)).trans ((eh16.2.1 149 (by decide)).trans ((eh15.2.1 149 (by decide)).trans ((eh14.2.1 149 (by decide)).trans ((eh13.2.1 149 (by decide)).trans ((eh12.2.1 149 (by decide)).trans ((eh11.2.1 149 (by decide)).trans ((eh10.2.1 149 (by decide)).trans ((eh9.2.1 149 (by decide)).trans ((eh8.2.1 149 (by decide)).trans ((eh7.2.1 149 (by decide)).trans ((eh6.2.1 149 (by decide)).trans ((eh5.2.1 149 (by decide)).trans ((et4.2.2.1 149 (by decide) (by decide)).trans ((eh3.2.1 149 (by decide)).trans ((eh2.2.1 149 (by decide)).trans (G1 149 _ (by decide) (by decide) hl_149)))))))))))))))))))))) rfl (xi_in (by decide) (by simp only [List.length_replicate, List.length_set]; decide)) rfl (fun hh23 eh23 => ?_)
    refine xi_iinc (pc' := 41) (x := 0) (v := 1) (lv' := [(1, .int 1), (0, .ref 115)]) kc_44_38 rfl rfl rfl rfl (xm_lt ml_44 rfl) ?_
    refine xi_goto (pc' := 19) kc_44_41 rfl ?_
    refine xi_iload_n (pc' := 20) (x := 1) kc_44_19 rfl rfl ?_
    refine xi_aload_n (pc' := 21) (x := 115) kc_44_20 rfl rfl ?_
    refine xi_virtual (mj := 43) (as := []) (st1 := [.int 1]) (lv0 := [(0, .ref 115)]) kc_44_21 rfl rfl rfl rfl rfl ((eh23.2.1 115 (by decide)).trans ((eh22.2.1 115 (by decide)).trans ((eh21.2.1 115 (by decide)).trans ((eh20.2.1 115 (by decide)).trans ((eh19.2.1 115 (by decide)).trans ((eh18.2.1 115 (by decide)).trans ((eh17.2.1 115 (by decide)).trans ((eh16.2.1 115 (by decide)).trans ((eh15.2.1 115 (by decide)).trans ((eh14.2.1 115 (by decide)).trans ((eh13.2.1 115 (by decide)).trans ((eh12.2.1 115 (by decide)).trans ((eh11.2.1 115 (by decide)).trans ((eh10.2.1 115 (by decide)).trans ((eh9.2.1 115 (by decide)).trans ((eh8.2.1 115 (by decide)).trans ((eh7.2.1 115 (by decide)).trans ((eh6.2.1 115 (by decide)).trans ((eh5.2.1 115 (by decide)).trans ((et4.2.2.1 115 (by decide) (by decide)).trans eh3.1)))))))))))))))))))) (Nat.le_of_ble_eq_true rfl) (hJ _ _ _ _ (by decide)) (xm_le ml_43 rfl) rfl ?_
    refine xi_iconst (pc' := 1) (v := 1) kc_43_0 rfl rfl ?_
    refine xi_aload_n (pc' := 2) (x := 115) kc_43_1 rfl rfl ?_
    refine xi_getfield (pc' := 5) (v := .int 0) kc_43_2 rfl rfl rfl ((eh23.2.1 115 (by decide)).trans ((eh22.2.1 115 (by decide)).trans ((eh21.2.1 115 (by decide)).trans ((eh20.2.1 115 (by decide)).trans ((eh19.2.1 115 (by decide)).trans ((eh18.2.1 115 (by decide)).trans ((eh17.2.1 115 (by decide)).trans ((eh16.2.1 115 (by decide)).trans ((eh15.2.1 115 (by decide)).trans ((eh14.2.1 115 (by decide)).trans ((eh13.2.1 115 (by decide)).trans ((eh12.2.1 115 (by decide)).trans ((eh11.2.1 115 (by decide)).trans ((eh10.2.1 115 (by decide)).trans ((eh9.2.1 115 (by decide)).trans ((eh8.2.1 115 (by decide)).trans ((eh7.2.1 115 (by decide)).trans ((eh6.2.1 115 (by decide)).trans ((eh5.2.1 115 (by decide)).trans ((et4.2.2.1 115 (by decide) (by decide)).trans eh3.1)))))))))))))))))))) rfl ?_
    refine xi_bipush (pc' := 7) (v := 6) kc_43_5 rfl rfl ?_
    refine xi_cmf (pc' := 10) kc_43_7 rfl rfl ?_
    refine xi_aload_n (pc' := 11) (x := 115) kc_43_10 rfl rfl ?_
    refine xi_getfield (pc' := 14) (v := .int 0) kc_43_11 rfl rfl rfl ((eh23.2.1 115 (by decide)).trans ((eh22.2.1 115 (by decide)).trans ((eh21.2.1 115 (by decide)).trans ((eh20.2.1 115 (by decide)).trans ((eh19.2.1 115 (by decide)).trans ((eh18.2.1 115 (by decide)).trans ((eh17.2.1 115 (by decide)).trans ((eh16.2.1 115 (by decide)).trans ((eh15.2.1 115 (by decide)).trans ((eh14.2.1 115 (by decide)).trans ((eh13.2.1 115 (by decide)).trans ((eh12.2.1 115 (by decide)).trans ((eh11.2.1 115 (by decide)).trans ((eh10.2.1 115 (by decide)).trans ((eh9.2.1 115 (by decide)).trans ((eh8.2.1 115 (by decide)).trans ((eh7.2.1 115 (by decide)).trans ((eh6.2.1 115 (by decide)).trans ((eh5.2.1 115 (by decide)).trans ((et4.2.2.1 115 (by decide) (by decide)).trans eh3.1)))))))))))))))))))) rfl ?_
    refine xi_goto (pc' := 19) kc_43_14 rfl ?_
    refine xi_ishl (pc' := 20) (v := 1) kc_43_19 rfl rfl ?_
    refine xi_ireturn kc_43_20 mr_43 rfl ?_
    show xw J ov 98 44 (24, [(1, .int 1), (0, .ref 115)], [.int 1, .int 1], hh23) _
    refine xi_cmt (pc' := 44) kc_44_24 rfl rfl ?_
    refine xi_return kc_44_44 mr_44 ?_
    show xw J ov 99 42 (36, [(0, .ref 115), (1, .int 0)], [], hh23) _
    refine xi_aload_n (pc' := 37) (x := 115) kc_42_36 rfl rfl ?_
    refine xi_getfield (pc' := 40) (v := .ref 149) kc_42_37 rfl rfl rfl ((eh23.2.1 115 (by decide)).trans ((eh22.2.1 115 (by decide)).trans ((eh21.2.1 115 (by decide)).trans ((eh20.2.1 115 (by decide)).trans ((eh19.2.1 115 (by decide)).trans ((eh18.2.1 115 (by decide)).trans ((eh17.2.1 115 (by decide)).trans ((eh16.2.1 115 (by decide)).trans ((eh15.2.1 115 (by decide)).trans ((eh14.2.1 115 (by decide)).trans ((eh13.2.1 115 (by decide)).trans ((eh12.2.1 115 (by decide)).trans ((eh11.2.1 115 (by decide)).trans ((eh10.2.1 115 (by decide)).trans ((eh9.2.1 115 (by decide)).trans ((eh8.2.1 115 (by decide)).trans ((eh7.2.1 115 (by decide)).trans ((eh6.2.1 115 (by decide)).trans ((eh5.2.1 115 (by decide)).trans ((et4.2.2.1 115 (by decide) (by decide)).trans eh3.1)))))))))))))))))))) rfl ?_
    refine xi_iload_n (pc' := 41) (x := 0) kc_42_40 rfl rfl ?_
    refine xi_laload (pc' := 42) (v := 0) kc_42_41 rfl eh23.1 rfl (xi_in (n := 64) (by decide) (by decide)) rfl ?_
    refine xi_lreturn kc_42_42 mr_42 ?_
    show xw J ov 100 196 (813, [(5, .int 0), (4, .int 0), (3, .ref 167), (2, .ref 115), (1, .ref 0), (0, .ref 1000000)], [.long 0], hh23) _
    refine xi_lstore (pc' := 815) (lv' := [(6, .long 0), (5, .int 0), (4, .int 0), (3, .ref 167), (2, .ref 115), (1, .ref 0), (0, .ref 1000000)]) kc_196_813 rfl rfl (xm_lt ml_196 rfl) ?_
    refine xi_aload_n (pc' := 816) (x := 115) kc_196_815 rfl rfl ?_
    refine xi_virtual (mj := 9) (as := []) (st1 := []) (lv0 := [(0, .ref 115)]) kc_196_816 rfl rfl rfl rfl rfl ((eh23.2.1 115 (by decide)).trans ((eh22.2.1 115 (by decide)).trans ((eh21.2.1 115 (by decide)).trans ((eh20.2.1 115 (by decide)).trans ((eh19.2.1 115 (by decide)).trans ((eh18.2.1 115 (by decide)).trans ((eh17.2.1 115 (by decide)).trans ((eh16.2.1 115 (by decide)).trans ((eh15.2.1 115 (by decide)).trans ((eh14.2.1 115 (by decide)).trans ((eh13.2.1 115 (by decide)).trans ((eh12.2.1 115 (by decide)).trans ((eh11.2.1 115 (by decide)).trans ((eh10.2.1 115 (by decide)).trans ((eh9.2.1 115 (by decide)).trans ((eh8.2.1 115 (by decide)).trans ((eh7.2.1 115 (by decide)).trans ((eh6.2.1 115 (by decide)).trans ((eh5.2.1 115 (by decide)).trans ((et4.2.2.1 115 (by decide) (by decide)).trans eh3.1)))))))))))))))))))) (Nat.le_of_ble_eq_true rfl) (hJ _ _ _ _ (by decide)) (xm_le ml_9 rfl) rfl ?_
    refine xi_aload_n (pc' := 1) (x := 115) kc_9_0 rfl rfl ?_
    refine xi_getfield (pc' := 4) (v := .int 0) kc_9_1 rfl rfl rfl ((eh23.2.1 115 (by decide)).trans ((eh22.2.1 115 (by decide)).trans ((eh21.2.1 115 (by decide)).trans ((eh20.2.1 115 (by decide)).trans ((eh19.2.1 115 (by decide)).trans ((eh18.2.1 115 (by decide)).trans ((eh17.2.1 115 (by decide)).trans ((eh16.2.1 115 (by decide)).trans ((eh15.2.1 115 (by decide)).trans ((eh14.2.1 115 (by decide)).trans ((eh13.2.1 115 (by decide)).trans ((eh12.2.1 115 (by decide)).trans ((eh11.2.1 115 (by decide)).trans ((eh10.2.1 115 (by decide)).trans ((eh9.2.1 115 (by decide)).trans ((eh8.2.1 115 (by decide)).trans ((eh7.2.1 115 (by decide)).trans ((eh6.2.1 115 (by decide)).trans ((eh5.2.1 115 (by decide)).trans ((et4.2.2.1 115 (by decide) (by decide)).trans eh3.1)))))))))))))))))))) rfl ?_
    refine xi_ireturn kc_9_4 mr_9 rfl ?_
    show xw J ov 100 196 (819, [(6, .long 0), (5, .int 0), (4, .int 0), (3, .ref 167), (2, .ref 115), (1, .ref 0), (0, .ref 1000000)], [.int 0], hh23) _
    refine xi_iload (pc' := 821) (x := 0) kc_196_819 rfl rfl ?_
    refine xi_cmt (pc' := 826) kc_196_821 rfl rfl ?_
    refine xi_iload (pc' := 828) (x := 0) kc_196_826 rfl rfl ?_
    refine xi_iff (pc' := 831) kc_196_828 rfl rfl ?_
    refine xi_aload_n (pc' := 832) (x := 167) kc_196_831 rfl rfl ?_
    refine xi_iconst (pc' := 833) (v := 0) kc_196_832 rfl rfl ?_
    refine xi_laload (pc' := 834) (v := 0) kc_196_833 rfl ((eh23.2.1 167 (by decide)).trans ((eh22.2.1 167 (by decide)).trans ((eh21.2.1 167 (by decide)).trans ((eh20.2.1 167 (by decide)).trans ((eh19.2.1 167 (by decide)).trans ((eh18.2.1 167 (by decide)).trans ((eh17.2.1 167 (by decide)).trans ((eh16.2.1 167 (by decide)).trans ((eh15.2.1 167 (by decide)).trans ((eh14.2.1 167 (by decide)).trans ((eh13.2.1 167 (by decide)).trans ((eh12.2.1 167 (by decide)).trans ((eh11.2.1 167 (by decide)).trans ((eh10.2.1 167 (by decide)).trans ((eh9.2.1 167 (by decide)).trans ((eh8.2.1 167 (by decide)).trans ((eh7.2.1 167 (by decide)).trans ((eh6.2.1 167 (by decide)).trans ((eh5.2.1 167 (by decide)).trans ((et4.2.2.1 167 (by decide) (by decide)).trans ((eh3.2.1 167 (by decide)).trans ((eh2.2.1 167 (by decide)).trans e167)))))))))))))))))))))) rfl (xi_in (n := 1) (by decide) (by decide)) rfl ?_
    refine xi_lload (pc' := 836) (x := 0) kc_196_834 rfl rfl ?_
    refine xi_lcmp (pc' := 837) (v := 0) kc_196_836 rfl (by decide) ?_
    refine xi_ift (pc' := 842) kc_196_837 rfl rfl ?_
    refine xi_goto (pc' := 1528) kc_196_842 rfl ?_
    refine xi_iinc (pc' := 1531) (x := 0) (v := 6) (lv' := [(4, .int 6), (6, .long 0), (5, .int 0), (3, .ref 167), (2, .ref 115), (1, .ref 0), (0, .ref 1000000)]) kc_196_1528 rfl rfl rfl rfl (xm_lt ml_196 rfl) ?_
    refine xi_goto (pc' := 23) kc_196_1531 rfl ?_
    refine xi_iload (pc' := 25) (x := 6) kc_196_23 rfl rfl ?_
    refine xi_aload_n (pc' := 26) (x := 1000000) kc_196_25 rfl rfl ?_
    refine xi_arraylength (pc' := 27) (n := 6) (v := 6) kc_196_26 rfl (xl_lenO (by decide) hov0 rfl) rfl ?_
    refine xi_bipush (pc' := 29) (v := 6) kc_196_27 rfl rfl ?_
    refine xi_isub (pc' := 30) (v := 0) kc_196_29 rfl rfl ?_
    refine xi_cmt (pc' := 1534) kc_196_30 rfl rfl ?_
    refine xi_iconst (pc' := 1535) (v := 1) kc_196_1534 rfl rfl ?_
    refine xi_ireturn kc_196_1535 mr_196 rfl ?_
    refine ⟨rfl, ?_, ?_⟩
    · rw [eh23.2.2.1, eh22.2.2.1, eh21.2.2.1, eh20.2.2.1, eh19.2.2.1, eh18.2.2.1, eh17.2.2.1, eh16.2.2.1, eh15.2.2.1, eh14.2.2.1, eh13.2.2.1, eh12.2.2.1, eh11.2.2.1, eh10.2.2.1, eh9.2.2.1, eh8.2.2.1, eh7.2.2.1, eh6.2.2.1, eh5.2.2.1, et4.2.2.2.1, eh3.2.2.1, eh2.2.2.1, n1]; omega
    · rw [eh23.2.2.2, eh22.2.2.2, eh21.2.2.2, eh20.2.2.2, eh19.2.2.2, eh18.2.2.2, eh17.2.2.2, eh16.2.2.2, eh15.2.2.2, eh14.2.2.2, eh13.2.2.2, eh12.2.2.2, eh11.2.2.2, eh10.2.2.2, eh9.2.2.2, eh8.2.2.2, eh7.2.2.2, eh6.2.2.2, eh5.2.2.2, et4.2.2.2.2, eh3.2.2.2, eh2.2.2.2, z1]; omega
  obtain ⟨hh1, ej, G1, n1, z1⟩ := j1 a1 (by omega)
  refine xi_staticJ (mj := 195) (as := [.ref 0, .int a1, .ref 167]) (st1 := []) (r := some (.int 1)) (h' := hh1) kc_196_798 rfl rfl (Nat.le_of_ble_eq_true rfl) rfl rfl (Nat.le_of_ble_eq_true rfl) ej ?_
  show xw J ov 100 196 (801, [(4, .int 0), (3, .ref 167), (2, .ref 115), (1, .ref 0), (0, .ref 1000000)], [.int 1], hh1) _
  refine xi_istore (pc' := 803) (lv' := [(5, .int 1), (4, .int 0), (3, .ref 167), (2, .ref 115), (1, .ref 0), (0, .ref 1000000)]) kc_196_801 rfl rfl (xm_lt ml_196 rfl) ?_
  refine xi_aload_n (pc' := 804) (x := 115) kc_196_803 rfl rfl ?_
  refine xi_aload_n (pc' := 805) (x := 1000000) kc_196_804 rfl rfl ?_
  refine xi_iload (pc' := 807) (x := 0) kc_196_805 rfl rfl ?_
  refine xi_iconst (pc' := 808) (v := 1) kc_196_807 rfl rfl ?_
  refine xi_iadd (pc' := 809) (v := 1) kc_196_808 rfl rfl ?_
  refine xi_ialoadO (pc' := 810) (v := a1) kc_196_809 rfl (by decide) hov0 (xi_in (n := 6) (by decide) (by decide)) rfl ?_
  refine xi_virtual (mj := 42) (as := [.int a1]) (st1 := []) (lv0 := [(0, .ref 115), (1, .int a1)]) kc_196_810 rfl rfl rfl rfl rfl (G1 115 _ (by decide) (by decide) hl_115) (Nat.le_of_ble_eq_true rfl) (hJ _ _ _ _ (by decide)) (xm_le ml_42 rfl) rfl ?_
  refine xi_aload_n (pc' := 1) (x := 115) kc_42_0 rfl rfl ?_
  refine xi_iload_n (pc' := 2) (x := a1) kc_42_1 rfl rfl ?_
  refine xi_iconst (pc' := 3) (v := 0) kc_42_2 rfl rfl ?_
  refine xi_aload_n (pc' := 4) (x := 115) kc_42_3 rfl rfl ?_
  refine xi_virtual (mj := 43) (as := []) (st1 := [.int 0, .int a1, .ref 115]) (lv0 := [(0, .ref 115)]) kc_42_4 rfl rfl rfl rfl rfl (G1 115 _ (by decide) (by decide) hl_115) (Nat.le_of_ble_eq_true rfl) (hJ _ _ _ _ (by decide)) (xm_le ml_43 rfl) rfl ?_
  refine xi_iconst (pc' := 1) (v := 1) kc_43_0 rfl rfl ?_
  refine xi_aload_n (pc' := 2) (x := 115) kc_43_1 rfl rfl ?_
  refine xi_getfield (pc' := 5) (v := .int 0) kc_43_2 rfl rfl rfl (G1 115 _ (by decide) (by decide) hl_115) rfl ?_
  refine xi_bipush (pc' := 7) (v := 6) kc_43_5 rfl rfl ?_
  refine xi_cmf (pc' := 10) kc_43_7 rfl rfl ?_
  refine xi_aload_n (pc' := 11) (x := 115) kc_43_10 rfl rfl ?_
  refine xi_getfield (pc' := 14) (v := .int 0) kc_43_11 rfl rfl rfl (G1 115 _ (by decide) (by decide) hl_115) rfl ?_
  refine xi_goto (pc' := 19) kc_43_14 rfl ?_
  refine xi_ishl (pc' := 20) (v := 1) kc_43_19 rfl rfl ?_
  refine xi_ireturn kc_43_20 mr_43 rfl ?_
  show xw J ov 99 42 (7, [(0, .ref 115), (1, .int a1)], [.int 1, .int 0, .int a1, .ref 115], hh1) _
  refine xi_iconst (pc' := 8) (v := 1) kc_42_7 rfl rfl ?_
  refine xi_isub (pc' := 9) (v := 0) kc_42_8 rfl rfl ?_
  refine xi_static (mj := 12) (as := [.int a1, .int 0, .int 0]) (st1 := [.ref 115]) (lv0 := [(0, .int a1), (1, .int 0), (2, .int 0)]) kc_42_9 rfl rfl (Nat.le_of_ble_eq_true rfl) rfl rfl (Nat.le_of_ble_eq_true rfl) (hJ _ _ _ _ (by decide)) (xm_le ml_12 rfl) rfl ?_
  refine xi_iload_n (pc' := 1) (x := a1) kc_12_0 rfl rfl ?_
  refine xi_iload_n (pc' := 2) (x := 0) kc_12_1 rfl rfl ?_
  by_cases c2 : a1.toInt < 0
  · refine xi_cmt (pc' := 14) kc_12_2 rfl (xc_lt_t (X := a1.toInt) (Y := 0) rfl (by decide) (by omega)) ?_
    refine xi_iconst (pc' := 15) (v := 0) kc_12_14 rfl rfl ?_
    refine xi_ireturn kc_12_15 mr_12 rfl ?_
    show xw J ov 99 42 (12, [(0, .ref 115), (1, .int a1)], [.int 0, .ref 115], hh1) _
    refine xi_ift (pc' := 19) kc_42_12 rfl rfl ?_
    refine xi_iconst (pc' := 20) (v := 1) kc_42_19 rfl rfl ?_
    refine xi_putfield (pc' := 23) (fs' := [.int 1, .int 0, .ref 116, .ref 117, .ref 118, .ref 119, .ref 120, .ref 121, .ref 122, .ref 123, .ref 124, .ref 125, .ref 126, .ref 127, .ref 128, .ref 129, .int 4, .ref 130, .int 0, .ref 131, .ref 132, .ref 133, .ref 134, .int 0, .ref 135, .ref 136, .ref 137, .ref 138, .ref 139, .ref 140, .ref 141, .ref 142, .int 0, .int 0, .int 0, .ref 143, .ref 144, .ref 145, .ref 146, .ref 147, .ref 148, .int 0, .ref 149, .ref 150, .ref 151, .int 0, .ref 152, .ref 153, .ref 154, .ref 155, .ref 156, .ref 157, .ref 158, .ref 159, .int 0, .ref 160, .int 0, .ref 161, .ref 162, .ref 163, .ref 164, .int 0, .ref 165, .ref 166]) kc_42_20 rfl rfl rfl (G1 115 _ (by decide) (by decide) hl_115) rfl rfl rfl (Nat.le_of_ble_eq_true rfl) rfl (fun hh2 eh2 => ?_)
    refine xi_aload_n (pc' := 24) (x := 115) kc_42_23 rfl rfl ?_
    refine xi_getfield (pc' := 27) (v := .int 1) kc_42_24 rfl rfl rfl eh2.1 rfl ?_
    refine xi_iff (pc' := 30) kc_42_27 rfl rfl ?_
    refine xi_lconst (pc' := 31) (v := 0) kc_42_30 rfl rfl ?_
    refine xi_lreturn kc_42_31 mr_42 ?_
    show xw J ov 100 196 (813, [(5, .int 1), (4, .int 0), (3, .ref 167), (2, .ref 115), (1, .ref 0), (0, .ref 1000000)], [.long 0], hh2) _
    refine xi_lstore (pc' := 815) (lv' := [(6, .long 0), (5, .int 1), (4, .int 0), (3, .ref 167), (2, .ref 115), (1, .ref 0), (0, .ref 1000000)]) kc_196_813 rfl rfl (xm_lt ml_196 rfl) ?_
    refine xi_aload_n (pc' := 816) (x := 115) kc_196_815 rfl rfl ?_
    refine xi_virtual (mj := 9) (as := []) (st1 := []) (lv0 := [(0, .ref 115)]) kc_196_816 rfl rfl rfl rfl rfl eh2.1 (Nat.le_of_ble_eq_true rfl) (hJ _ _ _ _ (by decide)) (xm_le ml_9 rfl) rfl ?_
    refine xi_aload_n (pc' := 1) (x := 115) kc_9_0 rfl rfl ?_
    refine xi_getfield (pc' := 4) (v := .int 1) kc_9_1 rfl rfl rfl eh2.1 rfl ?_
    refine xi_ireturn kc_9_4 mr_9 rfl ?_
    show xw J ov 100 196 (819, [(6, .long 0), (5, .int 1), (4, .int 0), (3, .ref 167), (2, .ref 115), (1, .ref 0), (0, .ref 1000000)], [.int 1], hh2) _
    refine xi_iload (pc' := 821) (x := 1) kc_196_819 rfl rfl ?_
    refine xi_cmt (pc' := 826) kc_196_821 rfl rfl ?_
    refine xi_iload (pc' := 828) (x := 1) kc_196_826 rfl rfl ?_
    refine xi_ift (pc' := 842) kc_196_828 rfl rfl ?_
    refine xi_goto (pc' := 1528) kc_196_842 rfl ?_
    refine xi_iinc (pc' := 1531) (x := 0) (v := 6) (lv' := [(4, .int 6), (6, .long 0), (5, .int 1), (3, .ref 167), (2, .ref 115), (1, .ref 0), (0, .ref 1000000)]) kc_196_1528 rfl rfl rfl rfl (xm_lt ml_196 rfl) ?_
    refine xi_goto (pc' := 23) kc_196_1531 rfl ?_
    refine xi_iload (pc' := 25) (x := 6) kc_196_23 rfl rfl ?_
    refine xi_aload_n (pc' := 26) (x := 1000000) kc_196_25 rfl rfl ?_
    refine xi_arraylength (pc' := 27) (n := 6) (v := 6) kc_196_26 rfl (xl_lenO (by decide) hov0 rfl) rfl ?_
    refine xi_bipush (pc' := 29) (v := 6) kc_196_27 rfl rfl ?_
    refine xi_isub (pc' := 30) (v := 0) kc_196_29 rfl rfl ?_
    refine xi_cmt (pc' := 1534) kc_196_30 rfl rfl ?_
    refine xi_iconst (pc' := 1535) (v := 1) kc_196_1534 rfl rfl ?_
    refine xi_ireturn kc_196_1535 mr_196 rfl ?_
    refine ⟨rfl, ?_, ?_⟩
    · rw [eh2.2.2.1, n1]; omega
    · rw [eh2.2.2.2, z1]; omega
  · refine xi_cmf (pc' := 5) kc_12_2 rfl (xc_lt_f (X := a1.toInt) (Y := 0) rfl (by decide) (by omega)) ?_
    refine xi_iload_n (pc' := 6) (x := a1) kc_12_5 rfl rfl ?_
    refine xi_iload_n (pc' := 7) (x := 0) kc_12_6 rfl rfl ?_
    refine xi_cmt (pc' := 14) kc_12_7 rfl (xc_gt_t (X := a1.toInt) (Y := 0) rfl (by decide) (by omega)) ?_
    refine xi_iconst (pc' := 15) (v := 0) kc_12_14 rfl rfl ?_
    refine xi_ireturn kc_12_15 mr_12 rfl ?_
    show xw J ov 99 42 (12, [(0, .ref 115), (1, .int a1)], [.int 0, .ref 115], hh1) _
    refine xi_ift (pc' := 19) kc_42_12 rfl rfl ?_
    refine xi_iconst (pc' := 20) (v := 1) kc_42_19 rfl rfl ?_
    refine xi_putfield (pc' := 23) (fs' := [.int 1, .int 0, .ref 116, .ref 117, .ref 118, .ref 119, .ref 120, .ref 121, .ref 122, .ref 123, .ref 124, .ref 125, .ref 126, .ref 127, .ref 128, .ref 129, .int 4, .ref 130, .int 0, .ref 131, .ref 132, .ref 133, .ref 134, .int 0, .ref 135, .ref 136, .ref 137, .ref 138, .ref 139, .ref 140, .ref 141, .ref 142, .int 0, .int 0, .int 0, .ref 143, .ref 144, .ref 145, .ref 146, .ref 147, .ref 148, .int 0, .ref 149, .ref 150, .ref 151, .int 0, .ref 152, .ref 153, .ref 154, .ref 155, .ref 156, .ref 157, .ref 158, .ref 159, .int 0, .ref 160, .int 0, .ref 161, .ref 162, .ref 163, .ref 164, .int 0, .ref 165, .ref 166]) kc_42_20 rfl rfl rfl (G1 115 _ (by decide) (by decide) hl_115) rfl rfl rfl (Nat.le_of_ble_eq_true rfl) rfl (fun hh2 eh2 => ?_)
    refine xi_aload_n (pc' := 24) (x := 115) kc_42_23 rfl rfl ?_
    refine xi_getfield (pc' := 27) (v := .int 1) kc_42_24 rfl rfl rfl eh2.1 rfl ?_
    refine xi_iff (pc' := 30) kc_42_27 rfl rfl ?_
    refine xi_lconst (pc' := 31) (v := 0) kc_42_30 rfl rfl ?_
    refine xi_lreturn kc_42_31 mr_42 ?_
    show xw J ov 100 196 (813, [(5, .int 1), (4, .int 0), (3, .ref 167), (2, .ref 115), (1, .ref 0), (0, .ref 1000000)], [.long 0], hh2) _
    refine xi_lstore (pc' := 815) (lv' := [(6, .long 0), (5, .int 1), (4, .int 0), (3, .ref 167), (2, .ref 115), (1, .ref 0), (0, .ref 1000000)]) kc_196_813 rfl rfl (xm_lt ml_196 rfl) ?_
    refine xi_aload_n (pc' := 816) (x := 115) kc_196_815 rfl rfl ?_
    refine xi_virtual (mj := 9) (as := []) (st1 := []) (lv0 := [(0, .ref 115)]) kc_196_816 rfl rfl rfl rfl rfl eh2.1 (Nat.le_of_ble_eq_true rfl) (hJ _ _ _ _ (by decide)) (xm_le ml_9 rfl) rfl ?_
    refine xi_aload_n (pc' := 1) (x := 115) kc_9_0 rfl rfl ?_
    refine xi_getfield (pc' := 4) (v := .int 1) kc_9_1 rfl rfl rfl eh2.1 rfl ?_
    refine xi_ireturn kc_9_4 mr_9 rfl ?_
    show xw J ov 100 196 (819, [(6, .long 0), (5, .int 1), (4, .int 0), (3, .ref 167), (2, .ref 115), (1, .ref 0), (0, .ref 1000000)], [.int 1], hh2) _
    refine xi_iload (pc' := 821) (x := 1) kc_196_819 rfl rfl ?_
    refine xi_cmt (pc' := 826) kc_196_821 rfl rfl ?_
    refine xi_iload (pc' := 828) (x := 1) kc_196_826 rfl rfl ?_
    refine xi_ift (pc' := 842) kc_196_828 rfl rfl ?_
    refine xi_goto (pc' := 1528) kc_196_842 rfl ?_
    refine xi_iinc (pc' := 1531) (x := 0) (v := 6) (lv' := [(4, .int 6), (6, .long 0), (5, .int 1), (3, .ref 167), (2, .ref 115), (1, .ref 0), (0, .ref 1000000)]) kc_196_1528 rfl rfl rfl rfl (xm_lt ml_196 rfl) ?_
    refine xi_goto (pc' := 23) kc_196_1531 rfl ?_
    refine xi_iload (pc' := 25) (x := 6) kc_196_23 rfl rfl ?_
    refine xi_aload_n (pc' := 26) (x := 1000000) kc_196_25 rfl rfl ?_
    refine xi_arraylength (pc' := 27) (n := 6) (v := 6) kc_196_26 rfl (xl_lenO (by decide) hov0 rfl) rfl ?_
    refine xi_bipush (pc' := 29) (v := 6) kc_196_27 rfl rfl ?_
    refine xi_isub (pc' := 30) (v := 0) kc_196_29 rfl rfl ?_
    refine xi_cmt (pc' := 1534) kc_196_30 rfl rfl ?_
    refine xi_iconst (pc' := 1535) (v := 1) kc_196_1534 rfl rfl ?_
    refine xi_ireturn kc_196_1535 mr_196 rfl ?_
    refine ⟨rfl, ?_, ?_⟩
    · rw [eh2.2.2.1, n1]; omega
    · rw [eh2.2.2.2, z1]; omega
