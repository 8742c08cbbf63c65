set_option maxHeartbeats 8000000 in
theorem lc_9 {J : xe_J} {ov : List (List Int32)} (hJ : ∀ d mj as h, mj ≠ xe_loff → J d mj as h = none) (hov1 : ov[1]? = some [10, 0, 0, 0, 0, 0]) (hov2 : ov[2]? = some [99, 30, 50, 50, 1, 99999]) {xs : List Int32} (hov0 : ov[0]? = some xs) {Q : Option Value → xe_H → Prop} {h : xe_H} {x4 : Int32} (hi0 : 0 ≤ x4.toInt) (hi1 : x4.toInt + 6 ≤ xs.length) (hi2 : x4.toInt ≤ 3066) (T : xt h) (I : xI h) (kk : ∀ (i : Int32) (h' : xe_H), i.toInt = x4.toInt + 6 → xk xP_33 h h' → xI h' → xw J ov 100 195 (23, [(4, .int i), (3, .ref 167), (2, .ref 115), (1, .ref 0), (0, .ref 1000000)], [], h') Q) : xw J ov 100 195 (565, [(4, .int x4), (3, .ref 167), (2, .ref 115), (1, .ref 0), (0, .ref 1000000)], [], h) Q := by
  have K : xk xP_33 h h := xk_re T
  have KR : xk xP_27 h h := xk_re T
  obtain ⟨w, WWa, WWb, WWr⟩ := I.2.1
  obtain ⟨y1, A1, hy1, ry1⟩ := xk_arr K.1 xD_64
  have R2 : xrp y1 6 w := xra_ld WWa A1
  obtain ⟨y3, A3, hy3, ry3⟩ := xk_arr K.1 xD_121
  have R4 : xrp y3 6 w := xra_ld WWb A3
  refine xi_aload_n (pc' := 566) (x := 0) kc_195_565 rfl rfl ?_
  refine xi_aload_n (pc' := 567) (x := 1000000) kc_195_566 rfl rfl ?_
  refine xi_iload (pc' := 569) (x := x4) kc_195_567 rfl rfl ?_
  refine xi_iconst (pc' := 570) (v := 1) kc_195_569 rfl rfl ?_
  obtain ⟨v5, ev5⟩ : ∃ q : Int32, x4 + 1 = q := ⟨_, rfl⟩
  have zv5 : v5.toInt = (x4.toInt + 1) := by rw [← ev5]; exact (xz_add (X := x4.toInt) (Y := 1) rfl (by decide) (by omega) (by omega)).trans (by omega)
  refine xi_iadd (pc' := 571) (v := v5) kc_195_570 rfl ev5 ?_
  obtain ⟨a6, ea6⟩ : ∃ q : Int32, xs.getD (Int32.toNatClampNeg v5) 0 = q := ⟨_, rfl⟩
  have ra6 := xc_rng a6
  refine xi_ialoadO (pc' := 572) (v := a6) kc_195_571 rfl (by decide) hov0 (xi_in (by omega) (by omega)) ea6 ?_
  obtain ⟨u7, u8, bu7, bu8, A9⟩ := xq_0 K.1
  refine xi_virtual (mj := 112) (as := [.int a6]) (st1 := []) (lv0 := [(0, .ref 0), (1, .int a6)]) kc_195_572 rfl rfl rfl rfl rfl A9 (Nat.le_of_ble_eq_true rfl) (hJ _ _ _ _ (by decide)) (xm_le ml_112 rfl) rfl ?_
  refine xi_iload_n (pc' := 1) (x := a6) kc_112_0 rfl rfl ?_
  refine xi_static (mj := 89) (as := [.int a6]) (st1 := []) (lv0 := [(0, .int a6)]) kc_112_1 rfl rfl (Nat.le_of_ble_eq_true rfl) rfl rfl (Nat.le_of_ble_eq_true rfl) (hJ _ _ _ _ (by decide)) (xm_le ml_89 rfl) rfl ?_
  refine xi_iload_n (pc' := 1) (x := a6) kc_89_0 rfl rfl ?_
  by_cases c10 : a6.toInt < 0
  · refine xi_ift (pc' := 14) kc_89_1 rfl (xc_lt_t (X := a6.toInt) (Y := 0) rfl (by decide) (by omega)) ?_
    refine xi_iconst (pc' := 15) (v := 0) kc_89_14 rfl rfl ?_
    refine xi_ireturn kc_89_15 mr_89 rfl ?_
    show xw J ov 99 112 (4, [(0, .ref 0), (1, .int a6)], [.int 0], h) _
    refine xi_ift (pc' := 19) kc_112_4 rfl rfl ?_
    refine xi_aload_n (pc' := 20) (x := 0) kc_112_19 rfl rfl ?_
    refine xi_iconst (pc' := 21) (v := (-1)) kc_112_20 rfl rfl ?_
    refine xi_virtual (mj := 90) (as := [.int (-1)]) (st1 := []) (lv0 := [(0, .ref 0), (1, .int (-1))]) kc_112_21 rfl rfl rfl rfl rfl A9 (Nat.le_of_ble_eq_true rfl) (hJ _ _ _ _ (by decide)) (xm_le ml_90 rfl) rfl ?_
    refine xi_iload_n (pc' := 1) (x := (-1)) kc_90_0 rfl rfl ?_
    refine xi_ineg (pc' := 2) (v := 1) kc_90_1 rfl rfl ?_
    refine xi_istore_n (pc' := 3) (lv' := [(2, .int 1), (0, .ref 0), (1, .int (-1))]) kc_90_2 rfl rfl (xm_lt ml_90 rfl) ?_
    refine xi_iload_n (pc' := 4) (x := 1) kc_90_3 rfl rfl ?_
    refine xi_iff (pc' := 7) kc_90_4 rfl rfl ?_
    refine xi_iload_n (pc' := 8) (x := 1) kc_90_7 rfl rfl ?_
    refine xi_aload_n (pc' := 9) (x := 0) kc_90_8 rfl rfl ?_
    refine xi_getfield (pc' := 12) (v := .ref 94) kc_90_9 rfl rfl rfl A9 rfl ?_
    obtain ⟨y11, A11, hy11, ry11⟩ := xk_arr K.1 xD_94
    refine xi_arraylength (pc' := 13) (n := 7) (v := 7) kc_90_12 rfl (xl_lenI (by decide) (by decide) A11 hy11) rfl ?_
    refine xi_cmf (pc' := 16) kc_90_13 rfl rfl ?_
    refine xi_aload_n (pc' := 17) (x := 0) kc_90_16 rfl rfl ?_
    refine xi_getfield (pc' := 20) (v := .ref 94) kc_90_17 rfl rfl rfl A9 rfl ?_
    refine xi_iload_n (pc' := 21) (x := 1) kc_90_20 rfl rfl ?_
    refine xi_dup2 (pc' := 22) kc_90_21 rfl ⟨rfl, rfl⟩ ?_
    obtain ⟨v12, ev12, bv12, dv12⟩ := xj_get hy11 ry11 (i := 1) (by decide) (by decide)
    refine xi_iaload (pc' := 23) (v := v12) kc_90_22 rfl A11 (by decide) rfl (xi_in (by decide) (by rw [hy11]; decide)) ev12 ?_
    refine xi_iconst (pc' := 24) (v := 1) kc_90_23 rfl rfl ?_
    obtain ⟨v13, ev13⟩ : ∃ q : Int32, (v12 : Int32) + 1 = q := ⟨_, rfl⟩
    have rv13 := xc_rng v13
    refine xi_iadd (pc' := 25) (v := v13) kc_90_24 rfl ev13 ?_
    obtain ⟨y14, s14, hy14, ry14⟩ := xj_set (v := v13) hy11 ry11 1 (by first | omega | decide) (by first | omega | decide)
    refine xi_iastore (pc' := 26) (x' := y14) kc_90_25 rfl A11 rfl (xi_in (by decide) (by rw [hy11]; decide)) s14 (fun hh14 eh14 => ?_)
    have K15 := xk_pa K (xk_wa (by decide +kernel)) xD_94 hy14 ry14 eh14
    have KR16 := xk_pa KR (xk_wa (by decide +kernel)) xD_94 hy14 ry14 eh14
    refine xi_iload_n (pc' := 27) (x := (-1)) kc_90_26 rfl rfl ?_
    refine xi_ireturn kc_90_27 mr_90 rfl ?_
    show xw J ov 99 112 (24, [(0, .ref 0), (1, .int a6)], [.int (-1)], hh14) _
    refine xi_ireturn kc_112_24 mr_112 rfl ?_
    show xw J ov 100 195 (575, [(4, .int x4), (3, .ref 167), (2, .ref 115), (1, .ref 0), (0, .ref 1000000)], [.int (-1)], hh14) _
    refine xi_pop (pc' := 576) kc_195_575 rfl rfl ?_
    refine xi_aload_n (pc' := 577) (x := 115) kc_195_576 rfl rfl ?_
    refine xi_aload_n (pc' := 578) (x := 1000000) kc_195_577 rfl rfl ?_
    refine xi_iload (pc' := 580) (x := x4) kc_195_578 rfl rfl ?_
    refine xi_iconst (pc' := 581) (v := 1) kc_195_580 rfl rfl ?_
    refine xi_iadd (pc' := 582) (v := v5) kc_195_581 rfl ev5 ?_
    refine xi_ialoadO (pc' := 583) (v := a6) kc_195_582 rfl (by decide) hov0 (xi_in (by omega) (by omega)) ea6 ?_
    obtain ⟨u17, u18, u19, u20, u21, u22, u23, u24, u25, u26, u27, u28, u29, bu17, bu18, bu19, bu20, bu21, bu22, bu23, bu24, bu25, bu26, bu27, bu28, bu29, A30⟩ := xq_115 K.1
    have A31 := ((eh14.2.1 115 (by decide)).trans A30)
    refine xi_virtual (mj := 29) (as := [.int a6]) (st1 := []) (lv0 := [(0, .ref 115), (1, .int a6)]) kc_195_583 rfl rfl rfl rfl rfl A31 (Nat.le_of_ble_eq_true rfl) (hJ _ _ _ _ (by decide)) (xm_le ml_29 rfl) rfl ?_
    refine xi_aload_n (pc' := 1) (x := 115) kc_29_0 rfl rfl ?_
    refine xi_iconst (pc' := 2) (v := 0) kc_29_1 rfl rfl ?_
    refine xi_putfield (pc' := 5) (fs' := [.int 0, .int u18, .ref 116, .ref 117, .ref 118, .ref 119, .ref 120, .ref 121, .ref 122, .ref 123, .ref 124, .ref 125, .ref 126, .ref 127, .ref 128, .ref 129, .int u19, .ref 130, .int u20, .ref 131, .ref 132, .ref 133, .ref 134, .int u21, .ref 135, .ref 136, .ref 137, .ref 138, .ref 139, .ref 140, .ref 141, .ref 142, .int u22, .int u23, .int u24, .ref 143, .ref 144, .ref 145, .ref 146, .ref 147, .ref 148, .int u25, .ref 149, .ref 150, .ref 151, .int u26, .ref 152, .ref 153, .ref 154, .ref 155, .ref 156, .ref 157, .ref 158, .ref 159, .int u27, .ref 160, .int u28, .ref 161, .ref 162, .ref 163, .ref 164, .int u29, .ref 165, .ref 166]) kc_29_2 rfl rfl rfl A31 rfl rfl rfl (Nat.le_of_ble_eq_true rfl) rfl (fun hh33 eh32 => ?_)
    have K34 := xk_pf (k := 0) (v := 0) K15 (xk_wf (by decide +kernel)) xD_115 A31 rfl (by first | omega | decide) (by first | omega | decide) eh32 rfl
    have KR35 := xk_pf (k := 0) (v := 0) KR16 (xk_wf (by decide +kernel)) xD_115 A31 rfl (by first | omega | decide) (by first | omega | decide) eh32 rfl
    refine xi_iload_n (pc' := 6) (x := a6) kc_29_5 rfl rfl ?_
    refine xi_static (mj := 10) (as := [.int a6]) (st1 := []) (lv0 := [(0, .int a6)]) kc_29_6 rfl rfl (Nat.le_of_ble_eq_true rfl) rfl rfl (Nat.le_of_ble_eq_true rfl) (hJ _ _ _ _ (by decide)) (xm_le ml_10 rfl) rfl ?_
    refine xi_iload_n (pc' := 1) (x := a6) kc_10_0 rfl rfl ?_
    refine xi_iconst (pc' := 2) (v := 0) kc_10_1 rfl rfl ?_
    refine xi_iconst (pc' := 3) (v := 5) kc_10_2 rfl rfl ?_
    refine xi_static (mj := 11) (as := [.int a6, .int 0, .int 5]) (st1 := []) (lv0 := [(0, .int a6), (1, .int 0), (2, .int 5)]) kc_10_3 rfl rfl (Nat.le_of_ble_eq_true rfl) rfl rfl (Nat.le_of_ble_eq_true rfl) (hJ _ _ _ _ (by decide)) (xm_le ml_11 rfl) rfl ?_
    refine xi_iload_n (pc' := 1) (x := a6) kc_11_0 rfl rfl ?_
    refine xi_iload_n (pc' := 2) (x := 0) kc_11_1 rfl rfl ?_
    refine xi_cmt (pc' := 14) kc_11_2 rfl (xc_lt_t (X := a6.toInt) (Y := 0) rfl (by decide) (by omega)) ?_
    refine xi_iconst (pc' := 15) (v := 0) kc_11_14 rfl rfl ?_
    refine xi_ireturn kc_11_15 mr_11 rfl ?_
    show xw J ov 98 10 (6, [(0, .int a6)], [.int 0], hh33) _
    refine xi_ireturn kc_10_6 mr_10 rfl ?_
    show xw J ov 99 29 (9, [(0, .ref 115), (1, .int a6)], [.int 0], hh33) _
    refine xi_ift (pc' := 21) kc_29_9 rfl rfl ?_
    refine xi_aload_n (pc' := 22) (x := 115) kc_29_21 rfl rfl ?_
    refine xi_iconst (pc' := 23) (v := (-1)) kc_29_22 rfl rfl ?_
    refine xi_virtual (mj := 12) (as := [.int (-1)]) (st1 := []) (lv0 := [(0, .ref 115), (1, .int (-1))]) kc_29_23 rfl rfl rfl rfl rfl eh32.1 (Nat.le_of_ble_eq_true rfl) (hJ _ _ _ _ (by decide)) (xm_le ml_12 rfl) rfl ?_
    refine xi_aload_n (pc' := 1) (x := 115) kc_12_0 rfl rfl ?_
    refine xi_getfield (pc' := 4) (v := .ref 140) kc_12_1 rfl rfl rfl eh32.1 rfl ?_
    refine xi_iload_n (pc' := 5) (x := (-1)) kc_12_4 rfl rfl ?_
    refine xi_ineg (pc' := 6) (v := 1) kc_12_5 rfl rfl ?_
    refine xi_dup2 (pc' := 7) kc_12_6 rfl ⟨rfl, rfl⟩ ?_
    obtain ⟨y36, A36, hy36, ry36⟩ := xk_arr K.1 xD_140
    obtain ⟨v37, ev37, bv37, dv37⟩ := xj_get hy36 ry36 (i := 1) (by decide) (by decide)
    have A38 := ((eh32.2.1 140 (by decide)).trans ((eh14.2.1 140 (by decide)).trans A36))
    refine xi_iaload (pc' := 8) (v := v37) kc_12_7 rfl A38 (by decide) rfl (xi_in (by decide) (by rw [hy36]; decide)) ev37 ?_
    refine xi_iconst (pc' := 9) (v := 1) kc_12_8 rfl rfl ?_
    obtain ⟨v39, ev39⟩ : ∃ q : Int32, (v37 : Int32) + 1 = q := ⟨_, rfl⟩
    have rv39 := xc_rng v39
    refine xi_iadd (pc' := 10) (v := v39) kc_12_9 rfl ev39 ?_
    obtain ⟨y40, s40, hy40, ry40⟩ := xj_set (v := v39) hy36 ry36 1 (by first | omega | decide) (by first | omega | decide)
    refine xi_iastore (pc' := 11) (x' := y40) kc_12_10 rfl A38 rfl (xi_in (by decide) (by rw [hy36]; decide)) s40 (fun hh40 eh40 => ?_)
    have K41 := xk_pa K34 (xk_wa (by decide +kernel)) xD_140 hy40 ry40 eh40
    have KR42 := xk_pa KR35 (xk_wa (by decide +kernel)) xD_140 hy40 ry40 eh40
    refine xi_iload_n (pc' := 12) (x := (-1)) kc_12_11 rfl rfl ?_
    refine xi_ireturn kc_12_12 mr_12 rfl ?_
    show xw J ov 99 29 (26, [(0, .ref 115), (1, .int a6)], [.int (-1)], hh40) _
    refine xi_ireturn kc_29_26 mr_29 rfl ?_
    show xw J ov 100 195 (586, [(4, .int x4), (3, .ref 167), (2, .ref 115), (1, .ref 0), (0, .ref 1000000)], [.int (-1)], hh40) _
    refine xi_pop (pc' := 587) kc_195_586 rfl rfl ?_
    refine xi_goto (pc' := 1501) kc_195_587 rfl ?_
    obtain ⟨v43, ev43⟩ : ∃ q : Int32, x4 + 6 = q := ⟨_, rfl⟩
    have zv43 : v43.toInt = (x4.toInt + 6) := by rw [← ev43]; exact (xz_add (X := x4.toInt) (Y := 6) rfl (by decide) (by omega) (by omega)).trans (by omega)
    refine xi_iinc (pc' := 1504) (x := x4) (v := v43) (lv' := [(4, .int v43), (3, .ref 167), (2, .ref 115), (1, .ref 0), (0, .ref 1000000)]) kc_195_1501 rfl rfl ev43 rfl (xm_lt ml_195 rfl) ?_
    refine xi_goto (pc' := 23) kc_195_1504 rfl ?_
    exact kk v43 hh40 (by omega) K41 (xI_kept I KR42.2.1)
  · refine xi_iff (pc' := 4) kc_89_1 rfl (xc_lt_f (X := a6.toInt) (Y := 0) rfl (by decide) (by omega)) ?_
    refine xi_iload_n (pc' := 5) (x := a6) kc_89_4 rfl rfl ?_
    refine xi_bipush (pc' := 7) (v := 6) kc_89_5 rfl rfl ?_
    by_cases c44 : 6 ≤ a6.toInt
    · refine xi_cmt (pc' := 14) kc_89_7 rfl (xc_ge_t (X := a6.toInt) (Y := 6) rfl (by decide) (by omega)) ?_
      refine xi_iconst (pc' := 15) (v := 0) kc_89_14 rfl rfl ?_
      refine xi_ireturn kc_89_15 mr_89 rfl ?_
      show xw J ov 99 112 (4, [(0, .ref 0), (1, .int a6)], [.int 0], h) _
      refine xi_ift (pc' := 19) kc_112_4 rfl rfl ?_
      refine xi_aload_n (pc' := 20) (x := 0) kc_112_19 rfl rfl ?_
      refine xi_iconst (pc' := 21) (v := (-1)) kc_112_20 rfl rfl ?_
      refine xi_virtual (mj := 90) (as := [.int (-1)]) (st1 := []) (lv0 := [(0, .ref 0), (1, .int (-1))]) kc_112_21 rfl rfl rfl rfl rfl A9 (Nat.le_of_ble_eq_true rfl) (hJ _ _ _ _ (by decide)) (xm_le ml_90 rfl) rfl ?_
      refine xi_iload_n (pc' := 1) (x := (-1)) kc_90_0 rfl rfl ?_
      refine xi_ineg (pc' := 2) (v := 1) kc_90_1 rfl rfl ?_
      refine xi_istore_n (pc' := 3) (lv' := [(2, .int 1), (0, .ref 0), (1, .int (-1))]) kc_90_2 rfl rfl (xm_lt ml_90 rfl) ?_
      refine xi_iload_n (pc' := 4) (x := 1) kc_90_3 rfl rfl ?_
      refine xi_iff (pc' := 7) kc_90_4 rfl rfl ?_
      refine xi_iload_n (pc' := 8) (x := 1) kc_90_7 rfl rfl ?_
      refine xi_aload_n (pc' := 9) (x := 0) kc_90_8 rfl rfl ?_
      refine xi_getfield (pc' := 12) (v := .ref 94) kc_90_9 rfl rfl rfl A9 rfl ?_
      obtain ⟨y45, A45, hy45, ry45⟩ := xk_arr K.1 xD_94
      refine xi_arraylength (pc' := 13) (n := 7) (v := 7) kc_90_12 rfl (xl_lenI (by decide) (by decide) A45 hy45) rfl ?_
      refine xi_cmf (pc' := 16) kc_90_13 rfl rfl ?_
      refine xi_aload_n (pc' := 17) (x := 0) kc_90_16 rfl rfl ?_
      refine xi_getfield (pc' := 20) (v := .ref 94) kc_90_17 rfl rfl rfl A9 rfl ?_
      refine xi_iload_n (pc' := 21) (x := 1) kc_90_20 rfl rfl ?_
      refine xi_dup2 (pc' := 22) kc_90_21 rfl ⟨rfl, rfl⟩ ?_
      obtain ⟨v46, ev46, bv46, dv46⟩ := xj_get hy45 ry45 (i := 1) (by decide) (by decide)
      refine xi_iaload (pc' := 23) (v := v46) kc_90_22 rfl A45 (by decide) rfl (xi_in (by decide) (by rw [hy45]; decide)) ev46 ?_
      refine xi_iconst (pc' := 24) (v := 1) kc_90_23 rfl rfl ?_
      obtain ⟨v47, ev47⟩ : ∃ q : Int32, (v46 : Int32) + 1 = q := ⟨_, rfl⟩
      have rv47 := xc_rng v47
      refine xi_iadd (pc' := 25) (v := v47) kc_90_24 rfl ev47 ?_
      obtain ⟨y48, s48, hy48, ry48⟩ := xj_set (v := v47) hy45 ry45 1 (by first | omega | decide) (by first | omega | decide)
      refine xi_iastore (pc' := 26) (x' := y48) kc_90_25 rfl A45 rfl (xi_in (by decide) (by rw [hy45]; decide)) s48 (fun hh48 eh48 => ?_)
      have K49 := xk_pa K (xk_wa (by decide +kernel)) xD_94 hy48 ry48 eh48
      have KR50 := xk_pa KR (xk_wa (by decide +kernel)) xD_94 hy48 ry48 eh48
      refine xi_iload_n (pc' := 27) (x := (-1)) kc_90_26 rfl rfl ?_
      refine xi_ireturn kc_90_27 mr_90 rfl ?_
      show xw J ov 99 112 (24, [(0, .ref 0), (1, .int a6)], [.int (-1)], hh48) _
      refine xi_ireturn kc_112_24 mr_112 rfl ?_
      show xw J ov 100 195 (575, [(4, .int x4), (3, .ref 167), (2, .ref 115), (1, .ref 0), (0, .ref 1000000)], [.int (-1)], hh48) _
      refine xi_pop (pc' := 576) kc_195_575 rfl rfl ?_
      refine xi_aload_n (pc' := 577) (x := 115) kc_195_576 rfl rfl ?_
      refine xi_aload_n (pc' := 578) (x := 1000000) kc_195_577 rfl rfl ?_
      refine xi_iload (pc' := 580) (x := x4) kc_195_578 rfl rfl ?_
      refine xi_iconst (pc' := 581) (v := 1) kc_195_580 rfl rfl ?_
      refine xi_iadd (pc' := 582) (v := v5) kc_195_581 rfl ev5 ?_
      refine xi_ialoadO (pc' := 583) (v := a6) kc_195_582 rfl (by decide) hov0 (xi_in (by omega) (by omega)) ea6 ?_
      obtain ⟨u51, u52, u53, u54, u55, u56, u57, u58, u59, u60, u61, u62, u63, bu51, bu52, bu53, bu54, bu55, bu56, bu57, bu58, bu59, bu60, bu61, bu62, bu63, A64⟩ := xq_115 K.1
      have A65 := ((eh48.2.1 115 (by decide)).trans A64)
      refine xi_virtual (mj := 29) (as := [.int a6]) (st1 := []) (lv0 := [(0, .ref 115), (1, .int a6)]) kc_195_583 rfl rfl rfl rfl rfl A65 (Nat.le_of_ble_eq_true rfl) (hJ _ _ _ _ (by decide)) (xm_le ml_29 rfl) rfl ?_
      refine xi_aload_n (pc' := 1) (x := 115) kc_29_0 rfl rfl ?_
      refine xi_iconst (pc' := 2) (v := 0) kc_29_1 rfl rfl ?_
      refine xi_putfield (pc' := 5) (fs' := [.int 0, .int u52, .ref 116, .ref 117, .ref 118, .ref 119, .ref 120, .ref 121, .ref 122, .ref 123, .ref 124, .ref 125, .ref 126, .ref 127, .ref 128, .ref 129, .int u53, .ref 130, .int u54, .ref 131, .ref 132, .ref 133, .ref 134, .int u55, .ref 135, .ref 136, .ref 137, .ref 138, .ref 139, .ref 140, .ref 141, .ref 142, .int u56, .int u57, .int u58, .ref 143, .ref 144, .ref 145, .ref 146, .ref 147, .ref 148, .int u59, .ref 149, .ref 150, .ref 151, .int u60, .ref 152, .ref 153, .ref 154, .ref 155, .ref 156, .ref 157, .ref 158, .ref 159, .int u61, .ref 160, .int u62, .ref 161, .ref 162, .ref 163, .ref 164, .int u63, .ref 165, .ref 166]) kc_29_2 rfl rfl rfl A65 rfl rfl rfl (Nat.le_of_ble_eq_true rfl) rfl (fun hh67 eh66 => ?_)
      have K68 := xk_pf (k := 0) (v := 0) K49 (xk_wf (by decide +kernel)) xD_115 A65 rfl (by first | omega | decide) (by first | omega | decide) eh66 rfl
      have KR69 := xk_pf (k := 0) (v := 0) KR50 (xk_wf (by decide +kernel)) xD_115 A65 rfl (by first | omega | decide) (by first | omega | decide) eh66 rfl
      refine xi_iload_n (pc' := 6) (x := a6) kc_29_5 rfl rfl ?_
      refine xi_static (mj := 10) (as := [.int a6]) (st1 := []) (lv0 := [(0, .int a6)]) kc_29_6 rfl rfl (Nat.le_of_ble_eq_true rfl) rfl rfl (Nat.le_of_ble_eq_true rfl) (hJ _ _ _ _ (by decide)) (xm_le ml_10 rfl) rfl ?_
      refine xi_iload_n (pc' := 1) (x := a6) kc_10_0 rfl rfl ?_
      refine xi_iconst (pc' := 2) (v := 0) kc_10_1 rfl rfl ?_
      refine xi_iconst (pc' := 3) (v := 5) kc_10_2 rfl rfl ?_
      refine xi_static (mj := 11) (as := [.int a6, .int 0, .int 5]) (st1 := []) (lv0 := [(0, .int a6), (1, .int 0), (2, .int 5)]) kc_10_3 rfl rfl (Nat.le_of_ble_eq_true rfl) rfl rfl (Nat.le_of_ble_eq_true rfl) (hJ _ _ _ _ (by decide)) (xm_le ml_11 rfl) rfl ?_
      refine xi_iload_n (pc' := 1) (x := a6) kc_11_0 rfl rfl ?_
      refine xi_iload_n (pc' := 2) (x := 0) kc_11_1 rfl rfl ?_
      refine xi_cmf (pc' := 5) kc_11_2 rfl (xc_lt_f (X := a6.toInt) (Y := 0) rfl (by decide) (by omega)) ?_
      refine xi_iload_n (pc' := 6) (x := a6) kc_11_5 rfl rfl ?_
      refine xi_iload_n (pc' := 7) (x := 5) kc_11_6 rfl rfl ?_
      refine xi_cmt (pc' := 14) kc_11_7 rfl (xc_gt_t (X := a6.toInt) (Y := 5) rfl (by decide) (by omega)) ?_
      refine xi_iconst (pc' := 15) (v := 0) kc_11_14 rfl rfl ?_
      refine xi_ireturn kc_11_15 mr_11 rfl ?_
      show xw J ov 98 10 (6, [(0, .int a6)], [.int 0], hh67) _
      refine xi_ireturn kc_10_6 mr_10 rfl ?_
      show xw J ov 99 29 (9, [(0, .ref 115), (1, .int a6)], [.int 0], hh67) _
      refine xi_ift (pc' := 21) kc_29_9 rfl rfl ?_
      refine xi_aload_n (pc' := 22) (x := 115) kc_29_21 rfl rfl ?_
      refine xi_iconst (pc' := 23) (v := (-1)) kc_29_22 rfl rfl ?_
      refine xi_virtual (mj := 12) (as := [.int (-1)]) (st1 := []) (lv0 := [(0, .ref 115), (1, .int (-1))]) kc_29_23 rfl rfl rfl rfl rfl eh66.1 (Nat.le_of_ble_eq_true rfl) (hJ _ _ _ _ (by decide)) (xm_le ml_12 rfl) rfl ?_
      refine xi_aload_n (pc' := 1) (x := 115) kc_12_0 rfl rfl ?_
      refine xi_getfield (pc' := 4) (v := .ref 140) kc_12_1 rfl rfl rfl eh66.1 rfl ?_
      refine xi_iload_n (pc' := 5) (x := (-1)) kc_12_4 rfl rfl ?_
      refine xi_ineg (pc' := 6) (v := 1) kc_12_5 rfl rfl ?_
      refine xi_dup2 (pc' := 7) kc_12_6 rfl ⟨rfl, rfl⟩ ?_
      obtain ⟨y70, A70, hy70, ry70⟩ := xk_arr K.1 xD_140
      obtain ⟨v71, ev71, bv71, dv71⟩ := xj_get hy70 ry70 (i := 1) (by decide) (by decide)
      have A72 := ((eh66.2.1 140 (by decide)).trans ((eh48.2.1 140 (by decide)).trans A70))
      refine xi_iaload (pc' := 8) (v := v71) kc_12_7 rfl A72 (by decide) rfl (xi_in (by decide) (by rw [hy70]; decide)) ev71 ?_
      refine xi_iconst (pc' := 9) (v := 1) kc_12_8 rfl rfl ?_
      obtain ⟨v73, ev73⟩ : ∃ q : Int32, (v71 : Int32) + 1 = q := ⟨_, rfl⟩
      have rv73 := xc_rng v73
      refine xi_iadd (pc' := 10) (v := v73) kc_12_9 rfl ev73 ?_
      obtain ⟨y74, s74, hy74, ry74⟩ := xj_set (v := v73) hy70 ry70 1 (by first | omega | decide) (by first | omega | decide)
      refine xi_iastore (pc' := 11) (x' := y74) kc_12_10 rfl A72 rfl (xi_in (by decide) (by rw [hy70]; decide)) s74 (fun hh74 eh74 => ?_)
      have K75 := xk_pa K68 (xk_wa (by decide +kernel)) xD_140 hy74 ry74 eh74
      have KR76 := xk_pa KR69 (xk_wa (by decide +kernel)) xD_140 hy74 ry74 eh74
      refine xi_iload_n (pc' := 12) (x := (-1)) kc_12_11 rfl rfl ?_
      refine xi_ireturn kc_12_12 mr_12 rfl ?_
      show xw J ov 99 29 (26, [(0, .ref 115), (1, .int a6)], [.int (-1)], hh74) _
      refine xi_ireturn kc_29_26 mr_29 rfl ?_
      show xw J ov 100 195 (586, [(4, .int x4), (3, .ref 167), (2, .ref 115), (1, .ref 0), (0, .ref 1000000)], [.int (-1)], hh74) _
      refine xi_pop (pc' := 587) kc_195_586 rfl rfl ?_
      refine xi_goto (pc' := 1501) kc_195_587 rfl ?_
      obtain ⟨v77, ev77⟩ : ∃ q : Int32, x4 + 6 = q := ⟨_, rfl⟩
      have zv77 : v77.toInt = (x4.toInt + 6) := by rw [← ev77]; exact (xz_add (X := x4.toInt) (Y := 6) rfl (by decide) (by omega) (by omega)).trans (by omega)
      refine xi_iinc (pc' := 1504) (x := x4) (v := v77) (lv' := [(4, .int v77), (3, .ref 167), (2, .ref 115), (1, .ref 0), (0, .ref 1000000)]) kc_195_1501 rfl rfl ev77 rfl (xm_lt ml_195 rfl) ?_
      refine xi_goto (pc' := 23) kc_195_1504 rfl ?_
      exact kk v77 hh74 (by omega) K75 (xI_kept I KR76.2.1)
    · refine xi_cmf (pc' := 10) kc_89_7 rfl (xc_ge_f (X := a6.toInt) (Y := 6) rfl (by decide) (by omega)) ?_
      refine xi_iconst (pc' := 11) (v := 1) kc_89_10 rfl rfl ?_
      refine xi_goto (pc' := 15) kc_89_11 rfl ?_
      refine xi_ireturn kc_89_15 mr_89 rfl ?_
      show xw J ov 99 112 (4, [(0, .ref 0), (1, .int a6)], [.int 1], h) _
      refine xi_iff (pc' := 7) kc_112_4 rfl rfl ?_
      refine xi_aload_n (pc' := 8) (x := 0) kc_112_7 rfl rfl ?_
      refine xi_getfield (pc' := 11) (v := .ref 63) kc_112_8 rfl rfl rfl A9 rfl ?_
      obtain ⟨u78, u79, bu78, bu79, A80⟩ := xq_63 K.1
      refine xi_getfield (pc' := 14) (v := .ref 64) kc_112_11 rfl rfl rfl A80 rfl ?_
      refine xi_iload_n (pc' := 15) (x := a6) kc_112_14 rfl rfl ?_
      obtain ⟨v81, ev81, bv81, dv81⟩ := xj_get hy1 ry1 (i := a6) (by omega) (by omega)
      refine xi_iaload (pc' := 16) (v := v81) kc_112_15 rfl A1 (by decide) rfl (xi_in (by omega) (by rw [hy1]; omega)) ev81 ?_
      have hlv81 : v81.toInt = w (Int32.toNatClampNeg a6) := xrp_ld R2 (by omega) (by omega) ev81
      refine xi_goto (pc' := 24) kc_112_16 rfl ?_
      refine xi_ireturn kc_112_24 mr_112 rfl ?_
      show xw J ov 100 195 (575, [(4, .int x4), (3, .ref 167), (2, .ref 115), (1, .ref 0), (0, .ref 1000000)], [.int v81], h) _
      refine xi_pop (pc' := 576) kc_195_575 rfl rfl ?_
      refine xi_aload_n (pc' := 577) (x := 115) kc_195_576 rfl rfl ?_
      refine xi_aload_n (pc' := 578) (x := 1000000) kc_195_577 rfl rfl ?_
      refine xi_iload (pc' := 580) (x := x4) kc_195_578 rfl rfl ?_
      refine xi_iconst (pc' := 581) (v := 1) kc_195_580 rfl rfl ?_
      refine xi_iadd (pc' := 582) (v := v5) kc_195_581 rfl ev5 ?_
      refine xi_ialoadO (pc' := 583) (v := a6) kc_195_582 rfl (by decide) hov0 (xi_in (by omega) (by omega)) ea6 ?_
      obtain ⟨u82, u83, u84, u85, u86, u87, u88, u89, u90, u91, u92, u93, u94, bu82, bu83, bu84, bu85, bu86, bu87, bu88, bu89, bu90, bu91, bu92, bu93, bu94, A95⟩ := xq_115 K.1
      refine xi_virtual (mj := 29) (as := [.int a6]) (st1 := []) (lv0 := [(0, .ref 115), (1, .int a6)]) kc_195_583 rfl rfl rfl rfl rfl A95 (Nat.le_of_ble_eq_true rfl) (hJ _ _ _ _ (by decide)) (xm_le ml_29 rfl) rfl ?_
      refine xi_aload_n (pc' := 1) (x := 115) kc_29_0 rfl rfl ?_
      refine xi_iconst (pc' := 2) (v := 0) kc_29_1 rfl rfl ?_
      refine xi_putfield (pc' := 5) (fs' := [.int 0, .int u83, .ref 116, .ref 117, .ref 118, .ref 119, .ref 120, .ref 121, .ref 122, .ref 123, .ref 124, .ref 125, .ref 126, .ref 127, .ref 128, .ref 129, .int u84, .ref 130, .int u85, .ref 131, .ref 132, .ref 133, .ref 134, .int u86, .ref 135, .ref 136, .ref 137, .ref 138, .ref 139, .ref 140, .ref 141, .ref 142, .int u87, .int u88, .int u89, .ref 143, .ref 144, .ref 145, .ref 146, .ref 147, .ref 148, .int u90, .ref 149, .ref 150, .ref 151, .int u91, .ref 152, .ref 153, .ref 154, .ref 155, .ref 156, .ref 157, .ref 158, .ref 159, .int u92, .ref 160, .int u93, .ref 161, .ref 162, .ref 163, .ref 164, .int u94, .ref 165, .ref 166]) kc_29_2 rfl rfl rfl A95 rfl rfl rfl (Nat.le_of_ble_eq_true rfl) rfl (fun hh97 eh96 => ?_)
      have K98 := xk_pf (k := 0) (v := 0) K (xk_wf (by decide +kernel)) xD_115 A95 rfl (by first | omega | decide) (by first | omega | decide) eh96 rfl
      have KR99 := xk_pf (k := 0) (v := 0) KR (xk_wf (by decide +kernel)) xD_115 A95 rfl (by first | omega | decide) (by first | omega | decide) eh96 rfl
      refine xi_iload_n (pc' := 6) (x := a6) kc_29_5 rfl rfl ?_
      refine xi_static (mj := 10) (as := [.int a6]) (st1 := []) (lv0 := [(0, .int a6)]) kc_29_6 rfl rfl (Nat.le_of_ble_eq_true rfl) rfl rfl (Nat.le_of_ble_eq_true rfl) (hJ _ _ _ _ (by decide)) (xm_le ml_10 rfl) rfl ?_
      refine xi_iload_n (pc' := 1) (x := a6) kc_10_0 rfl rfl ?_
      refine xi_iconst (pc' := 2) (v := 0) kc_10_1 rfl rfl ?_
      refine xi_iconst (pc' := 3) (v := 5) kc_10_2 rfl rfl ?_
      refine xi_static (mj := 11) (as := [.int a6, .int 0, .int 5]) (st1 := []) (lv0 := [(0, .int a6), (1, .int 0), (2, .int 5)]) kc_10_3 rfl rfl (Nat.le_of_ble_eq_true rfl) rfl rfl (Nat.le_of_ble_eq_true rfl) (hJ _ _ _ _ (by decide)) (xm_le ml_11 rfl) rfl ?_
      refine xi_iload_n (pc' := 1) (x := a6) kc_11_0 rfl rfl ?_
      refine xi_iload_n (pc' := 2) (x := 0) kc_11_1 rfl rfl ?_
      refine xi_cmf (pc' := 5) kc_11_2 rfl (xc_lt_f (X := a6.toInt) (Y := 0) rfl (by decide) (by omega)) ?_
      refine xi_iload_n (pc' := 6) (x := a6) kc_11_5 rfl rfl ?_
      refine xi_iload_n (pc' := 7) (x := 5) kc_11_6 rfl rfl ?_
      refine xi_cmf (pc' := 10) kc_11_7 rfl (xc_gt_f (X := a6.toInt) (Y := 5) rfl (by decide) (by omega)) ?_
      refine xi_iconst (pc' := 11) (v := 1) kc_11_10 rfl rfl ?_
      refine xi_goto (pc' := 15) kc_11_11 rfl ?_
      refine xi_ireturn kc_11_15 mr_11 rfl ?_
      show xw J ov 98 10 (6, [(0, .int a6)], [.int 1], hh97) _
      refine xi_ireturn kc_10_6 mr_10 rfl ?_
      show xw J ov 99 29 (9, [(0, .ref 115), (1, .int a6)], [.int 1], hh97) _
      refine xi_iff (pc' := 12) kc_29_9 rfl rfl ?_
      refine xi_aload_n (pc' := 13) (x := 115) kc_29_12 rfl rfl ?_
      refine xi_getfield (pc' := 16) (v := .ref 121) kc_29_13 rfl rfl rfl eh96.1 rfl ?_
      refine xi_iload_n (pc' := 17) (x := a6) kc_29_16 rfl rfl ?_
      obtain ⟨v100, ev100, bv100, dv100⟩ := xj_get hy3 ry3 (i := a6) (by omega) (by omega)
      have A101 := ((eh96.2.1 121 (by decide)).trans A3)
      refine xi_iaload (pc' := 18) (v := v100) kc_29_17 rfl A101 (by decide) rfl (xi_in (by omega) (by rw [hy3]; omega)) ev100 ?_
      have hlv100 : v100.toInt = w (Int32.toNatClampNeg a6) := xrp_ld R4 (by omega) (by omega) ev100
      refine xi_goto (pc' := 26) kc_29_18 rfl ?_
      refine xi_ireturn kc_29_26 mr_29 rfl ?_
      show xw J ov 100 195 (586, [(4, .int x4), (3, .ref 167), (2, .ref 115), (1, .ref 0), (0, .ref 1000000)], [.int v100], hh97) _
      refine xi_pop (pc' := 587) kc_195_586 rfl rfl ?_
      refine xi_goto (pc' := 1501) kc_195_587 rfl ?_
      obtain ⟨v102, ev102⟩ : ∃ q : Int32, x4 + 6 = q := ⟨_, rfl⟩
      have zv102 : v102.toInt = (x4.toInt + 6) := by rw [← ev102]; exact (xz_add (X := x4.toInt) (Y := 6) rfl (by decide) (by omega) (by omega)).trans (by omega)
      refine xi_iinc (pc' := 1504) (x := x4) (v := v102) (lv' := [(4, .int v102), (3, .ref 167), (2, .ref 115), (1, .ref 0), (0, .ref 1000000)]) kc_195_1501 rfl rfl ev102 rfl (xm_lt ml_195 rfl) ?_
      refine xi_goto (pc' := 23) kc_195_1504 rfl ?_
      exact kk v102 hh97 (by omega) K98 (xI_kept I KR99.2.1)
