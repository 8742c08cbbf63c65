set_option maxHeartbeats 8000000 in
theorem lc_5 {J : xe_J} {ov : List (List Int32)} (hJ : ∀ d mj as h, mj ≠ xe_loff → J d mj as h = none) (hov1 : ov[1]? = some [10, 0, 0, 0, 0, 0]) (hov2 : ov[2]? = some [99, 30, 50, 50, 1, 99999]) {xs : List Int32} (hov0 : ov[0]? = some xs) {Q : Option Value → xe_H → Prop} {h : xe_H} {x4 : Int32} (hi0 : 0 ≤ x4.toInt) (hi1 : x4.toInt + 6 ≤ xs.length) (hi2 : x4.toInt ≤ 3066) (T : xt h) (I : xI h) (kk : ∀ (i : Int32) (h' : xe_H), i.toInt = x4.toInt + 6 → xk xP_32 h h' → xI h' → xw J ov 100 195 (23, [(4, .int i), (3, .ref 167), (2, .ref 115), (1, .ref 0), (0, .ref 1000000)], [], h') Q) : xw J ov 100 195 (401, [(4, .int x4), (3, .ref 167), (2, .ref 115), (1, .ref 0), (0, .ref 1000000)], [], h) Q := by
  have K : xk xP_32 h h := xk_re T
  have KR : xk xP_27 h h := xk_re T
  refine xi_aload_n (pc' := 402) (x := 0) kc_195_401 rfl rfl ?_
  refine xi_aload_n (pc' := 403) (x := 1000000) kc_195_402 rfl rfl ?_
  refine xi_iload (pc' := 405) (x := x4) kc_195_403 rfl rfl ?_
  refine xi_iconst (pc' := 406) (v := 1) kc_195_405 rfl rfl ?_
  obtain ⟨v1, ev1⟩ : ∃ q : Int32, x4 + 1 = q := ⟨_, rfl⟩
  have zv1 : v1.toInt = (x4.toInt + 1) := by rw [← ev1]; exact (xz_add (X := x4.toInt) (Y := 1) rfl (by decide) (by omega) (by omega)).trans (by omega)
  refine xi_iadd (pc' := 407) (v := v1) kc_195_406 rfl ev1 ?_
  obtain ⟨a2, ea2⟩ : ∃ q : Int32, xs.getD (Int32.toNatClampNeg v1) 0 = q := ⟨_, rfl⟩
  have ra2 := xc_rng a2
  refine xi_ialoadO (pc' := 408) (v := a2) kc_195_407 rfl (by decide) hov0 (xi_in (by omega) (by omega)) ea2 ?_
  refine xi_aload_n (pc' := 409) (x := 1000000) kc_195_408 rfl rfl ?_
  refine xi_iload (pc' := 411) (x := x4) kc_195_409 rfl rfl ?_
  refine xi_iconst (pc' := 412) (v := 2) kc_195_411 rfl rfl ?_
  obtain ⟨v3, ev3⟩ : ∃ q : Int32, x4 + 2 = q := ⟨_, rfl⟩
  have zv3 : v3.toInt = (x4.toInt + 2) := by rw [← ev3]; exact (xz_add (X := x4.toInt) (Y := 2) rfl (by decide) (by omega) (by omega)).trans (by omega)
  refine xi_iadd (pc' := 413) (v := v3) kc_195_412 rfl ev3 ?_
  obtain ⟨a4, ea4⟩ : ∃ q : Int32, xs.getD (Int32.toNatClampNeg v3) 0 = q := ⟨_, rfl⟩
  have ra4 := xc_rng a4
  refine xi_ialoadO (pc' := 414) (v := a4) kc_195_413 rfl (by decide) hov0 (xi_in (by omega) (by omega)) ea4 ?_
  refine xi_aload_n (pc' := 415) (x := 1000000) kc_195_414 rfl rfl ?_
  refine xi_iload (pc' := 417) (x := x4) kc_195_415 rfl rfl ?_
  refine xi_iconst (pc' := 418) (v := 3) kc_195_417 rfl rfl ?_
  obtain ⟨v5, ev5⟩ : ∃ q : Int32, x4 + 3 = q := ⟨_, rfl⟩
  have zv5 : v5.toInt = (x4.toInt + 3) := by rw [← ev5]; exact (xz_add (X := x4.toInt) (Y := 3) rfl (by decide) (by omega) (by omega)).trans (by omega)
  refine xi_iadd (pc' := 419) (v := v5) kc_195_418 rfl ev5 ?_
  obtain ⟨a6, ea6⟩ : ∃ q : Int32, xs.getD (Int32.toNatClampNeg v5) 0 = q := ⟨_, rfl⟩
  have ra6 := xc_rng a6
  refine xi_ialoadO (pc' := 420) (v := a6) kc_195_419 rfl (by decide) hov0 (xi_in (by omega) (by omega)) ea6 ?_
  refine xi_aload_n (pc' := 421) (x := 1000000) kc_195_420 rfl rfl ?_
  refine xi_iload (pc' := 423) (x := x4) kc_195_421 rfl rfl ?_
  refine xi_iconst (pc' := 424) (v := 4) kc_195_423 rfl rfl ?_
  obtain ⟨v7, ev7⟩ : ∃ q : Int32, x4 + 4 = q := ⟨_, rfl⟩
  have zv7 : v7.toInt = (x4.toInt + 4) := by rw [← ev7]; exact (xz_add (X := x4.toInt) (Y := 4) rfl (by decide) (by omega) (by omega)).trans (by omega)
  refine xi_iadd (pc' := 425) (v := v7) kc_195_424 rfl ev7 ?_
  obtain ⟨a8, ea8⟩ : ∃ q : Int32, xs.getD (Int32.toNatClampNeg v7) 0 = q := ⟨_, rfl⟩
  have ra8 := xc_rng a8
  refine xi_ialoadO (pc' := 426) (v := a8) kc_195_425 rfl (by decide) hov0 (xi_in (by omega) (by omega)) ea8 ?_
  by_cases c9 : a8.toInt = 0
  · refine xi_ift (pc' := 433) kc_195_426 rfl (xc_eq_t (X := a8.toInt) (Y := 0) rfl (by decide) (by omega)) ?_
    refine xi_iconst (pc' := 434) (v := 0) kc_195_433 rfl rfl ?_
    obtain ⟨u10, u11, bu10, bu11, A12⟩ := xq_0 K.1
    refine xi_virtual (mj := 103) (as := [.int a2, .int a4, .int a6, .int 0]) (st1 := []) (lv0 := [(0, .ref 0), (1, .int a2), (2, .int a4), (3, .int a6), (4, .int 0)]) kc_195_434 rfl rfl rfl rfl rfl A12 (Nat.le_of_ble_eq_true rfl) (hJ _ _ _ _ (by decide)) (xm_le ml_103 rfl) rfl ?_
    refine xi_iload_n (pc' := 1) (x := a2) kc_103_0 rfl rfl ?_
    refine xi_static (mj := 104) (as := [.int a2]) (st1 := []) (lv0 := [(0, .int a2)]) kc_103_1 rfl rfl (Nat.le_of_ble_eq_true rfl) rfl rfl (Nat.le_of_ble_eq_true rfl) (hJ _ _ _ _ (by decide)) (xm_le ml_104 rfl) rfl ?_
    refine xi_iload_n (pc' := 1) (x := a2) kc_104_0 rfl rfl ?_
    by_cases c13 : a2.toInt < 0
    · refine xi_ift (pc' := 14) kc_104_1 rfl (xc_lt_t (X := a2.toInt) (Y := 0) rfl (by decide) (by omega)) ?_
      refine xi_iconst (pc' := 15) (v := 0) kc_104_14 rfl rfl ?_
      refine xi_ireturn kc_104_15 mr_104 rfl ?_
      show xw J ov 99 103 (4, [(0, .ref 0), (1, .int a2), (2, .int a4), (3, .int a6), (4, .int 0)], [.int 0], h) _
      refine xi_ift (pc' := 14) kc_103_4 rfl rfl ?_
      refine xi_aload_n (pc' := 15) (x := 0) kc_103_14 rfl rfl ?_
      refine xi_iconst (pc' := 16) (v := (-1)) kc_103_15 rfl rfl ?_
      refine xi_virtual (mj := 90) (as := [.int (-1)]) (st1 := []) (lv0 := [(0, .ref 0), (1, .int (-1))]) kc_103_16 rfl rfl rfl rfl rfl A12 (Nat.le_of_ble_eq_true rfl) (hJ _ _ _ _ (by decide)) (xm_le ml_90 rfl) rfl ?_
      refine xi_iload_n (pc' := 1) (x := (-1)) kc_90_0 rfl rfl ?_
      refine xi_ineg (pc' := 2) (v := 1) kc_90_1 rfl rfl ?_
      refine xi_istore_n (pc' := 3) (lv' := [(2, .int 1), (0, .ref 0), (1, .int (-1))]) kc_90_2 rfl rfl (xm_lt ml_90 rfl) ?_
      refine xi_iload_n (pc' := 4) (x := 1) kc_90_3 rfl rfl ?_
      refine xi_iff (pc' := 7) kc_90_4 rfl rfl ?_
      refine xi_iload_n (pc' := 8) (x := 1) kc_90_7 rfl rfl ?_
      refine xi_aload_n (pc' := 9) (x := 0) kc_90_8 rfl rfl ?_
      refine xi_getfield (pc' := 12) (v := .ref 94) kc_90_9 rfl rfl rfl A12 rfl ?_
      obtain ⟨y14, A14, hy14, ry14⟩ := xk_arr K.1 xD_94
      refine xi_arraylength (pc' := 13) (n := 7) (v := 7) kc_90_12 rfl (xl_lenI (by decide) (by decide) A14 hy14) rfl ?_
      refine xi_cmf (pc' := 16) kc_90_13 rfl rfl ?_
      refine xi_aload_n (pc' := 17) (x := 0) kc_90_16 rfl rfl ?_
      refine xi_getfield (pc' := 20) (v := .ref 94) kc_90_17 rfl rfl rfl A12 rfl ?_
      refine xi_iload_n (pc' := 21) (x := 1) kc_90_20 rfl rfl ?_
      refine xi_dup2 (pc' := 22) kc_90_21 rfl ⟨rfl, rfl⟩ ?_
      obtain ⟨v15, ev15, bv15, dv15⟩ := xj_get hy14 ry14 (i := 1) (by decide) (by decide)
      refine xi_iaload (pc' := 23) (v := v15) kc_90_22 rfl A14 (by decide) rfl (xi_in (by decide) (by rw [hy14]; decide)) ev15 ?_
      refine xi_iconst (pc' := 24) (v := 1) kc_90_23 rfl rfl ?_
      obtain ⟨v16, ev16⟩ : ∃ q : Int32, (v15 : Int32) + 1 = q := ⟨_, rfl⟩
      have rv16 := xc_rng v16
      refine xi_iadd (pc' := 25) (v := v16) kc_90_24 rfl ev16 ?_
      obtain ⟨y17, s17, hy17, ry17⟩ := xj_set (v := v16) hy14 ry14 1 (by first | omega | decide) (by first | omega | decide)
      refine xi_iastore (pc' := 26) (x' := y17) kc_90_25 rfl A14 rfl (xi_in (by decide) (by rw [hy14]; decide)) s17 (fun hh17 eh17 => ?_)
      have K18 := xk_pa K (xk_wa (by decide +kernel)) xD_94 hy17 ry17 eh17
      have KR19 := xk_pa KR (xk_wa (by decide +kernel)) xD_94 hy17 ry17 eh17
      refine xi_iload_n (pc' := 27) (x := (-1)) kc_90_26 rfl rfl ?_
      refine xi_ireturn kc_90_27 mr_90 rfl ?_
      show xw J ov 99 103 (19, [(0, .ref 0), (1, .int a2), (2, .int a4), (3, .int a6), (4, .int 0)], [.int (-1)], hh17) _
      refine xi_ireturn kc_103_19 mr_103 rfl ?_
      show xw J ov 100 195 (437, [(4, .int x4), (3, .ref 167), (2, .ref 115), (1, .ref 0), (0, .ref 1000000)], [.int (-1)], hh17) _
      refine xi_pop (pc' := 438) kc_195_437 rfl rfl ?_
      refine xi_aload_n (pc' := 439) (x := 115) kc_195_438 rfl rfl ?_
      refine xi_aload_n (pc' := 440) (x := 1000000) kc_195_439 rfl rfl ?_
      refine xi_iload (pc' := 442) (x := x4) kc_195_440 rfl rfl ?_
      refine xi_iconst (pc' := 443) (v := 1) kc_195_442 rfl rfl ?_
      refine xi_iadd (pc' := 444) (v := v1) kc_195_443 rfl ev1 ?_
      refine xi_ialoadO (pc' := 445) (v := a2) kc_195_444 rfl (by decide) hov0 (xi_in (by omega) (by omega)) ea2 ?_
      refine xi_aload_n (pc' := 446) (x := 1000000) kc_195_445 rfl rfl ?_
      refine xi_iload (pc' := 448) (x := x4) kc_195_446 rfl rfl ?_
      refine xi_iconst (pc' := 449) (v := 2) kc_195_448 rfl rfl ?_
      refine xi_iadd (pc' := 450) (v := v3) kc_195_449 rfl ev3 ?_
      refine xi_ialoadO (pc' := 451) (v := a4) kc_195_450 rfl (by decide) hov0 (xi_in (by omega) (by omega)) ea4 ?_
      refine xi_aload_n (pc' := 452) (x := 1000000) kc_195_451 rfl rfl ?_
      refine xi_iload (pc' := 454) (x := x4) kc_195_452 rfl rfl ?_
      refine xi_iconst (pc' := 455) (v := 3) kc_195_454 rfl rfl ?_
      refine xi_iadd (pc' := 456) (v := v5) kc_195_455 rfl ev5 ?_
      refine xi_ialoadO (pc' := 457) (v := a6) kc_195_456 rfl (by decide) hov0 (xi_in (by omega) (by omega)) ea6 ?_
      refine xi_aload_n (pc' := 458) (x := 1000000) kc_195_457 rfl rfl ?_
      refine xi_iload (pc' := 460) (x := x4) kc_195_458 rfl rfl ?_
      refine xi_iconst (pc' := 461) (v := 4) kc_195_460 rfl rfl ?_
      refine xi_iadd (pc' := 462) (v := v7) kc_195_461 rfl ev7 ?_
      refine xi_ialoadO (pc' := 463) (v := a8) kc_195_462 rfl (by decide) hov0 (xi_in (by omega) (by omega)) ea8 ?_
      refine xi_ift (pc' := 470) kc_195_463 rfl (xc_eq_t (X := a8.toInt) (Y := 0) rfl (by decide) (by omega)) ?_
      refine xi_iconst (pc' := 471) (v := 0) kc_195_470 rfl rfl ?_
      obtain ⟨u20, u21, u22, u23, u24, u25, u26, u27, u28, u29, u30, u31, u32, bu20, bu21, bu22, bu23, bu24, bu25, bu26, bu27, bu28, bu29, bu30, bu31, bu32, A33⟩ := xq_115 K.1
      have A34 := ((eh17.2.1 115 (by decide)).trans A33)
      refine xi_virtual (mj := 23) (as := [.int a2, .int a4, .int a6, .int 0]) (st1 := []) (lv0 := [(0, .ref 115), (1, .int a2), (2, .int a4), (3, .int a6), (4, .int 0)]) kc_195_471 rfl rfl rfl rfl rfl A34 (Nat.le_of_ble_eq_true rfl) (hJ _ _ _ _ (by decide)) (xm_le ml_23 rfl) rfl ?_
      refine xi_aload_n (pc' := 1) (x := 115) kc_23_0 rfl rfl ?_
      refine xi_iconst (pc' := 2) (v := 0) kc_23_1 rfl rfl ?_
      refine xi_putfield (pc' := 5) (fs' := [.int 0, .int u21, .ref 116, .ref 117, .ref 118, .ref 119, .ref 120, .ref 121, .ref 122, .ref 123, .ref 124, .ref 125, .ref 126, .ref 127, .ref 128, .ref 129, .int u22, .ref 130, .int u23, .ref 131, .ref 132, .ref 133, .ref 134, .int u24, .ref 135, .ref 136, .ref 137, .ref 138, .ref 139, .ref 140, .ref 141, .ref 142, .int u25, .int u26, .int u27, .ref 143, .ref 144, .ref 145, .ref 146, .ref 147, .ref 148, .int u28, .ref 149, .ref 150, .ref 151, .int u29, .ref 152, .ref 153, .ref 154, .ref 155, .ref 156, .ref 157, .ref 158, .ref 159, .int u30, .ref 160, .int u31, .ref 161, .ref 162, .ref 163, .ref 164, .int u32, .ref 165, .ref 166]) kc_23_2 rfl rfl rfl A34 rfl rfl rfl (Nat.le_of_ble_eq_true rfl) rfl (fun hh36 eh35 => ?_)
      have K37 := xk_pf (k := 0) (v := 0) K18 (xk_wf (by decide +kernel)) xD_115 A34 rfl (by first | omega | decide) (by first | omega | decide) eh35 rfl
      have KR38 := xk_pf (k := 0) (v := 0) KR19 (xk_wf (by decide +kernel)) xD_115 A34 rfl (by first | omega | decide) (by first | omega | decide) eh35 rfl
      refine xi_iload_n (pc' := 6) (x := a2) kc_23_5 rfl rfl ?_
      refine xi_static (mj := 24) (as := [.int a2]) (st1 := []) (lv0 := [(0, .int a2)]) kc_23_6 rfl rfl (Nat.le_of_ble_eq_true rfl) rfl rfl (Nat.le_of_ble_eq_true rfl) (hJ _ _ _ _ (by decide)) (xm_le ml_24 rfl) rfl ?_
      refine xi_iload_n (pc' := 1) (x := a2) kc_24_0 rfl rfl ?_
      refine xi_iconst (pc' := 2) (v := 0) kc_24_1 rfl rfl ?_
      refine xi_bipush (pc' := 4) (v := 11) kc_24_2 rfl rfl ?_
      refine xi_static (mj := 11) (as := [.int a2, .int 0, .int 11]) (st1 := []) (lv0 := [(0, .int a2), (1, .int 0), (2, .int 11)]) kc_24_4 rfl rfl (Nat.le_of_ble_eq_true rfl) rfl rfl (Nat.le_of_ble_eq_true rfl) (hJ _ _ _ _ (by decide)) (xm_le ml_11 rfl) rfl ?_
      refine xi_iload_n (pc' := 1) (x := a2) kc_11_0 rfl rfl ?_
      refine xi_iload_n (pc' := 2) (x := 0) kc_11_1 rfl rfl ?_
      refine xi_cmt (pc' := 14) kc_11_2 rfl (xc_lt_t (X := a2.toInt) (Y := 0) rfl (by decide) (by omega)) ?_
      refine xi_iconst (pc' := 15) (v := 0) kc_11_14 rfl rfl ?_
      refine xi_ireturn kc_11_15 mr_11 rfl ?_
      show xw J ov 98 24 (7, [(0, .int a2)], [.int 0], hh36) _
      refine xi_ireturn kc_24_7 mr_24 rfl ?_
      show xw J ov 99 23 (9, [(0, .ref 115), (1, .int a2), (2, .int a4), (3, .int a6), (4, .int 0)], [.int 0], hh36) _
      refine xi_ift (pc' := 19) kc_23_9 rfl rfl ?_
      refine xi_aload_n (pc' := 20) (x := 115) kc_23_19 rfl rfl ?_
      refine xi_iconst (pc' := 21) (v := (-1)) kc_23_20 rfl rfl ?_
      refine xi_virtual (mj := 12) (as := [.int (-1)]) (st1 := []) (lv0 := [(0, .ref 115), (1, .int (-1))]) kc_23_21 rfl rfl rfl rfl rfl eh35.1 (Nat.le_of_ble_eq_true rfl) (hJ _ _ _ _ (by decide)) (xm_le ml_12 rfl) rfl ?_
      refine xi_aload_n (pc' := 1) (x := 115) kc_12_0 rfl rfl ?_
      refine xi_getfield (pc' := 4) (v := .ref 140) kc_12_1 rfl rfl rfl eh35.1 rfl ?_
      refine xi_iload_n (pc' := 5) (x := (-1)) kc_12_4 rfl rfl ?_
      refine xi_ineg (pc' := 6) (v := 1) kc_12_5 rfl rfl ?_
      refine xi_dup2 (pc' := 7) kc_12_6 rfl ⟨rfl, rfl⟩ ?_
      obtain ⟨y39, A39, hy39, ry39⟩ := xk_arr K.1 xD_140
      obtain ⟨v40, ev40, bv40, dv40⟩ := xj_get hy39 ry39 (i := 1) (by decide) (by decide)
      have A41 := ((eh35.2.1 140 (by decide)).trans ((eh17.2.1 140 (by decide)).trans A39))
      refine xi_iaload (pc' := 8) (v := v40) kc_12_7 rfl A41 (by decide) rfl (xi_in (by decide) (by rw [hy39]; decide)) ev40 ?_
      refine xi_iconst (pc' := 9) (v := 1) kc_12_8 rfl rfl ?_
      obtain ⟨v42, ev42⟩ : ∃ q : Int32, (v40 : Int32) + 1 = q := ⟨_, rfl⟩
      have rv42 := xc_rng v42
      refine xi_iadd (pc' := 10) (v := v42) kc_12_9 rfl ev42 ?_
      obtain ⟨y43, s43, hy43, ry43⟩ := xj_set (v := v42) hy39 ry39 1 (by first | omega | decide) (by first | omega | decide)
      refine xi_iastore (pc' := 11) (x' := y43) kc_12_10 rfl A41 rfl (xi_in (by decide) (by rw [hy39]; decide)) s43 (fun hh43 eh43 => ?_)
      have K44 := xk_pa K37 (xk_wa (by decide +kernel)) xD_140 hy43 ry43 eh43
      have KR45 := xk_pa KR38 (xk_wa (by decide +kernel)) xD_140 hy43 ry43 eh43
      refine xi_iload_n (pc' := 12) (x := (-1)) kc_12_11 rfl rfl ?_
      refine xi_ireturn kc_12_12 mr_12 rfl ?_
      show xw J ov 99 23 (24, [(0, .ref 115), (1, .int a2), (2, .int a4), (3, .int a6), (4, .int 0)], [.int (-1)], hh43) _
      refine xi_ireturn kc_23_24 mr_23 rfl ?_
      show xw J ov 100 195 (474, [(4, .int x4), (3, .ref 167), (2, .ref 115), (1, .ref 0), (0, .ref 1000000)], [.int (-1)], hh43) _
      refine xi_pop (pc' := 475) kc_195_474 rfl rfl ?_
      refine xi_goto (pc' := 1501) kc_195_475 rfl ?_
      obtain ⟨v46, ev46⟩ : ∃ q : Int32, x4 + 6 = q := ⟨_, rfl⟩
      have zv46 : v46.toInt = (x4.toInt + 6) := by rw [← ev46]; exact (xz_add (X := x4.toInt) (Y := 6) rfl (by decide) (by omega) (by omega)).trans (by omega)
      refine xi_iinc (pc' := 1504) (x := x4) (v := v46) (lv' := [(4, .int v46), (3, .ref 167), (2, .ref 115), (1, .ref 0), (0, .ref 1000000)]) kc_195_1501 rfl rfl ev46 rfl (xm_lt ml_195 rfl) ?_
      refine xi_goto (pc' := 23) kc_195_1504 rfl ?_
      exact kk v46 hh43 (by omega) K44 (xI_kept I KR45.2.1)
    · refine xi_iff (pc' := 4) kc_104_1 rfl (xc_lt_f (X := a2.toInt) (Y := 0) rfl (by decide) (by omega)) ?_
      refine xi_iload_n (pc' := 5) (x := a2) kc_104_4 rfl rfl ?_
      refine xi_bipush (pc' := 7) (v := 12) kc_104_5 rfl rfl ?_
      by_cases c47 : 12 ≤ a2.toInt
      · refine xi_cmt (pc' := 14) kc_104_7 rfl (xc_ge_t (X := a2.toInt) (Y := 12) rfl (by decide) (by omega)) ?_
        refine xi_iconst (pc' := 15) (v := 0) kc_104_14 rfl rfl ?_
        refine xi_ireturn kc_104_15 mr_104 rfl ?_
        show xw J ov 99 103 (4, [(0, .ref 0), (1, .int a2), (2, .int a4), (3, .int a6), (4, .int 0)], [.int 0], h) _
        refine xi_ift (pc' := 14) kc_103_4 rfl rfl ?_
        refine xi_aload_n (pc' := 15) (x := 0) kc_103_14 rfl rfl ?_
        refine xi_iconst (pc' := 16) (v := (-1)) kc_103_15 rfl rfl ?_
        refine xi_virtual (mj := 90) (as := [.int (-1)]) (st1 := []) (lv0 := [(0, .ref 0), (1, .int (-1))]) kc_103_16 rfl rfl rfl rfl rfl A12 (Nat.le_of_ble_eq_true rfl) (hJ _ _ _ _ (by decide)) (xm_le ml_90 rfl) rfl ?_
        refine xi_iload_n (pc' := 1) (x := (-1)) kc_90_0 rfl rfl ?_
        refine xi_ineg (pc' := 2) (v := 1) kc_90_1 rfl rfl ?_
        refine xi_istore_n (pc' := 3) (lv' := [(2, .int 1), (0, .ref 0), (1, .int (-1))]) kc_90_2 rfl rfl (xm_lt ml_90 rfl) ?_
        refine xi_iload_n (pc' := 4) (x := 1) kc_90_3 rfl rfl ?_
        refine xi_iff (pc' := 7) kc_90_4 rfl rfl ?_
        refine xi_iload_n (pc' := 8) (x := 1) kc_90_7 rfl rfl ?_
        refine xi_aload_n (pc' := 9) (x := 0) kc_90_8 rfl rfl ?_
        refine xi_getfield (pc' := 12) (v := .ref 94) kc_90_9 rfl rfl rfl A12 rfl ?_
        obtain ⟨y48, A48, hy48, ry48⟩ := xk_arr K.1 xD_94
        refine xi_arraylength (pc' := 13) (n := 7) (v := 7) kc_90_12 rfl (xl_lenI (by decide) (by decide) A48 hy48) rfl ?_
        refine xi_cmf (pc' := 16) kc_90_13 rfl rfl ?_
        refine xi_aload_n (pc' := 17) (x := 0) kc_90_16 rfl rfl ?_
        refine xi_getfield (pc' := 20) (v := .ref 94) kc_90_17 rfl rfl rfl A12 rfl ?_
        refine xi_iload_n (pc' := 21) (x := 1) kc_90_20 rfl rfl ?_
        refine xi_dup2 (pc' := 22) kc_90_21 rfl ⟨rfl, rfl⟩ ?_
        obtain ⟨v49, ev49, bv49, dv49⟩ := xj_get hy48 ry48 (i := 1) (by decide) (by decide)
        refine xi_iaload (pc' := 23) (v := v49) kc_90_22 rfl A48 (by decide) rfl (xi_in (by decide) (by rw [hy48]; decide)) ev49 ?_
        refine xi_iconst (pc' := 24) (v := 1) kc_90_23 rfl rfl ?_
        obtain ⟨v50, ev50⟩ : ∃ q : Int32, (v49 : Int32) + 1 = q := ⟨_, rfl⟩
        have rv50 := xc_rng v50
        refine xi_iadd (pc' := 25) (v := v50) kc_90_24 rfl ev50 ?_
        obtain ⟨y51, s51, hy51, ry51⟩ := xj_set (v := v50) hy48 ry48 1 (by first | omega | decide) (by first | omega | decide)
        refine xi_iastore (pc' := 26) (x' := y51) kc_90_25 rfl A48 rfl (xi_in (by decide) (by rw [hy48]; decide)) s51 (fun hh51 eh51 => ?_)
        have K52 := xk_pa K (xk_wa (by decide +kernel)) xD_94 hy51 ry51 eh51
        have KR53 := xk_pa KR (xk_wa (by decide +kernel)) xD_94 hy51 ry51 eh51
        refine xi_iload_n (pc' := 27) (x := (-1)) kc_90_26 rfl rfl ?_
        refine xi_ireturn kc_90_27 mr_90 rfl ?_
        show xw J ov 99 103 (19, [(0, .ref 0), (1, .int a2), (2, .int a4), (3, .int a6), (4, .int 0)], [.int (-1)], hh51) _
        refine xi_ireturn kc_103_19 mr_103 rfl ?_
        show xw J ov 100 195 (437, [(4, .int x4), (3, .ref 167), (2, .ref 115), (1, .ref 0), (0, .ref 1000000)], [.int (-1)], hh51) _
        refine xi_pop (pc' := 438) kc_195_437 rfl rfl ?_
        refine xi_aload_n (pc' := 439) (x := 115) kc_195_438 rfl rfl ?_
        refine xi_aload_n (pc' := 440) (x := 1000000) kc_195_439 rfl rfl ?_
        refine xi_iload (pc' := 442) (x := x4) kc_195_440 rfl rfl ?_
        refine xi_iconst (pc' := 443) (v := 1) kc_195_442 rfl rfl ?_
        refine xi_iadd (pc' := 444) (v := v1) kc_195_443 rfl ev1 ?_
        refine xi_ialoadO (pc' := 445) (v := a2) kc_195_444 rfl (by decide) hov0 (xi_in (by omega) (by omega)) ea2 ?_
        refine xi_aload_n (pc' := 446) (x := 1000000) kc_195_445 rfl rfl ?_
        refine xi_iload (pc' := 448) (x := x4) kc_195_446 rfl rfl ?_
        refine xi_iconst (pc' := 449) (v := 2) kc_195_448 rfl rfl ?_
        refine xi_iadd (pc' := 450) (v := v3) kc_195_449 rfl ev3 ?_
        refine xi_ialoadO (pc' := 451) (v := a4) kc_195_450 rfl (by decide) hov0 (xi_in (by omega) (by omega)) ea4 ?_
        refine xi_aload_n (pc' := 452) (x := 1000000) kc_195_451 rfl rfl ?_
        refine xi_iload (pc' := 454) (x := x4) kc_195_452 rfl rfl ?_
        refine xi_iconst (pc' := 455) (v := 3) kc_195_454 rfl rfl ?_
        refine xi_iadd (pc' := 456) (v := v5) kc_195_455 rfl ev5 ?_
        refine xi_ialoadO (pc' := 457) (v := a6) kc_195_456 rfl (by decide) hov0 (xi_in (by omega) (by omega)) ea6 ?_
        refine xi_aload_n (pc' := 458) (x := 1000000) kc_195_457 rfl rfl ?_
        refine xi_iload (pc' := 460) (x := x4) kc_195_458 rfl rfl ?_
        refine xi_iconst (pc' := 461) (v := 4) kc_195_460 rfl rfl ?_
        refine xi_iadd (pc' := 462) (v := v7) kc_195_461 rfl ev7 ?_
        refine xi_ialoadO (pc' := 463) (v := a8) kc_195_462 rfl (by decide) hov0 (xi_in (by omega) (by omega)) ea8 ?_
        refine xi_ift (pc' := 470) kc_195_463 rfl (xc_eq_t (X := a8.toInt) (Y := 0) rfl (by decide) (by omega)) ?_
        refine xi_iconst (pc' := 471) (v := 0) kc_195_470 rfl rfl ?_
        obtain ⟨u54, u55, u56, u57, u58, u59, u60, u61, u62, u63, u64, u65, u66, bu54, bu55, bu56, bu57, bu58, bu59, bu60, bu61, bu62, bu63, bu64, bu65, bu66, A67⟩ := xq_115 K.1
        have A68 := ((eh51.2.1 115 (by decide)).trans A67)
        refine xi_virtual (mj := 23) (as := [.int a2, .int a4, .int a6, .int 0]) (st1 := []) (lv0 := [(0, .ref 115), (1, .int a2), (2, .int a4), (3, .int a6), (4, .int 0)]) kc_195_471 rfl rfl rfl rfl rfl A68 (Nat.le_of_ble_eq_true rfl) (hJ _ _ _ _ (by decide)) (xm_le ml_23 rfl) rfl ?_
        refine xi_aload_n (pc' := 1) (x := 115) kc_23_0 rfl rfl ?_
        refine xi_iconst (pc' := 2) (v := 0) kc_23_1 rfl rfl ?_
        refine xi_putfield (pc' := 5) (fs' := [.int 0, .int u55, .ref 116, .ref 117, .ref 118, .ref 119, .ref 120, .ref 121, .ref 122, .ref 123, .ref 124, .ref 125, .ref 126, .ref 127, .ref 128, .ref 129, .int u56, .ref 130, .int u57, .ref 131, .ref 132, .ref 133, .ref 134, .int u58, .ref 135, .ref 136, .ref 137, .ref 138, .ref 139, .ref 140, .ref 141, .ref 142, .int u59, .int u60, .int u61, .ref 143, .ref 144, .ref 145, .ref 146, .ref 147, .ref 148, .int u62, .ref 149, .ref 150, .ref 151, .int u63, .ref 152, .ref 153, .ref 154, .ref 155, .ref 156, .ref 157, .ref 158, .ref 159, .int u64, .ref 160, .int u65, .ref 161, .ref 162, .ref 163, .ref 164, .int u66, .ref 165, .ref 166]) kc_23_2 rfl rfl rfl A68 rfl rfl rfl (Nat.le_of_ble_eq_true rfl) rfl (fun hh70 eh69 => ?_)
        have K71 := xk_pf (k := 0) (v := 0) K52 (xk_wf (by decide +kernel)) xD_115 A68 rfl (by first | omega | decide) (by first | omega | decide) eh69 rfl
        have KR72 := xk_pf (k := 0) (v := 0) KR53 (xk_wf (by decide +kernel)) xD_115 A68 rfl (by first | omega | decide) (by first | omega | decide) eh69 rfl
        refine xi_iload_n (pc' := 6) (x := a2) kc_23_5 rfl rfl ?_
        refine xi_static (mj := 24) (as := [.int a2]) (st1 := []) (lv0 := [(0, .int a2)]) kc_23_6 rfl rfl (Nat.le_of_ble_eq_true rfl) rfl rfl (Nat.le_of_ble_eq_true rfl) (hJ _ _ _ _ (by decide)) (xm_le ml_24 rfl) rfl ?_
        refine xi_iload_n (pc' := 1) (x := a2) kc_24_0 rfl rfl ?_
        refine xi_iconst (pc' := 2) (v := 0) kc_24_1 rfl rfl ?_
        refine xi_bipush (pc' := 4) (v := 11) kc_24_2 rfl rfl ?_
        refine xi_static (mj := 11) (as := [.int a2, .int 0, .int 11]) (st1 := []) (lv0 := [(0, .int a2), (1, .int 0), (2, .int 11)]) kc_24_4 rfl rfl (Nat.le_of_ble_eq_true rfl) rfl rfl (Nat.le_of_ble_eq_true rfl) (hJ _ _ _ _ (by decide)) (xm_le ml_11 rfl) rfl ?_
        refine xi_iload_n (pc' := 1) (x := a2) kc_11_0 rfl rfl ?_
        refine xi_iload_n (pc' := 2) (x := 0) kc_11_1 rfl rfl ?_
        refine xi_cmf (pc' := 5) kc_11_2 rfl (xc_lt_f (X := a2.toInt) (Y := 0) rfl (by decide) (by omega)) ?_
        refine xi_iload_n (pc' := 6) (x := a2) kc_11_5 rfl rfl ?_
        refine xi_iload_n (pc' := 7) (x := 11) kc_11_6 rfl rfl ?_
        refine xi_cmt (pc' := 14) kc_11_7 rfl (xc_gt_t (X := a2.toInt) (Y := 11) rfl (by decide) (by omega)) ?_
        refine xi_iconst (pc' := 15) (v := 0) kc_11_14 rfl rfl ?_
        refine xi_ireturn kc_11_15 mr_11 rfl ?_
        show xw J ov 98 24 (7, [(0, .int a2)], [.int 0], hh70) _
        refine xi_ireturn kc_24_7 mr_24 rfl ?_
        show xw J ov 99 23 (9, [(0, .ref 115), (1, .int a2), (2, .int a4), (3, .int a6), (4, .int 0)], [.int 0], hh70) _
        refine xi_ift (pc' := 19) kc_23_9 rfl rfl ?_
        refine xi_aload_n (pc' := 20) (x := 115) kc_23_19 rfl rfl ?_
        refine xi_iconst (pc' := 21) (v := (-1)) kc_23_20 rfl rfl ?_
        refine xi_virtual (mj := 12) (as := [.int (-1)]) (st1 := []) (lv0 := [(0, .ref 115), (1, .int (-1))]) kc_23_21 rfl rfl rfl rfl rfl eh69.1 (Nat.le_of_ble_eq_true rfl) (hJ _ _ _ _ (by decide)) (xm_le ml_12 rfl) rfl ?_
        refine xi_aload_n (pc' := 1) (x := 115) kc_12_0 rfl rfl ?_
        refine xi_getfield (pc' := 4) (v := .ref 140) kc_12_1 rfl rfl rfl eh69.1 rfl ?_
        refine xi_iload_n (pc' := 5) (x := (-1)) kc_12_4 rfl rfl ?_
        refine xi_ineg (pc' := 6) (v := 1) kc_12_5 rfl rfl ?_
        refine xi_dup2 (pc' := 7) kc_12_6 rfl ⟨rfl, rfl⟩ ?_
        obtain ⟨y73, A73, hy73, ry73⟩ := xk_arr K.1 xD_140
        obtain ⟨v74, ev74, bv74, dv74⟩ := xj_get hy73 ry73 (i := 1) (by decide) (by decide)
        have A75 := ((eh69.2.1 140 (by decide)).trans ((eh51.2.1 140 (by decide)).trans A73))
        refine xi_iaload (pc' := 8) (v := v74) kc_12_7 rfl A75 (by decide) rfl (xi_in (by decide) (by rw [hy73]; decide)) ev74 ?_
        refine xi_iconst (pc' := 9) (v := 1) kc_12_8 rfl rfl ?_
        obtain ⟨v76, ev76⟩ : ∃ q : Int32, (v74 : Int32) + 1 = q := ⟨_, rfl⟩
        have rv76 := xc_rng v76
        refine xi_iadd (pc' := 10) (v := v76) kc_12_9 rfl ev76 ?_
        obtain ⟨y77, s77, hy77, ry77⟩ := xj_set (v := v76) hy73 ry73 1 (by first | omega | decide) (by first | omega | decide)
        refine xi_iastore (pc' := 11) (x' := y77) kc_12_10 rfl A75 rfl (xi_in (by decide) (by rw [hy73]; decide)) s77 (fun hh77 eh77 => ?_)
        have K78 := xk_pa K71 (xk_wa (by decide +kernel)) xD_140 hy77 ry77 eh77
        have KR79 := xk_pa KR72 (xk_wa (by decide +kernel)) xD_140 hy77 ry77 eh77
        refine xi_iload_n (pc' := 12) (x := (-1)) kc_12_11 rfl rfl ?_
        refine xi_ireturn kc_12_12 mr_12 rfl ?_
        show xw J ov 99 23 (24, [(0, .ref 115), (1, .int a2), (2, .int a4), (3, .int a6), (4, .int 0)], [.int (-1)], hh77) _
        refine xi_ireturn kc_23_24 mr_23 rfl ?_
        show xw J ov 100 195 (474, [(4, .int x4), (3, .ref 167), (2, .ref 115), (1, .ref 0), (0, .ref 1000000)], [.int (-1)], hh77) _
        refine xi_pop (pc' := 475) kc_195_474 rfl rfl ?_
        refine xi_goto (pc' := 1501) kc_195_475 rfl ?_
        obtain ⟨v80, ev80⟩ : ∃ q : Int32, x4 + 6 = q := ⟨_, rfl⟩
        have zv80 : v80.toInt = (x4.toInt + 6) := by rw [← ev80]; exact (xz_add (X := x4.toInt) (Y := 6) rfl (by decide) (by omega) (by omega)).trans (by omega)
        refine xi_iinc (pc' := 1504) (x := x4) (v := v80) (lv' := [(4, .int v80), (3, .ref 167), (2, .ref 115), (1, .ref 0), (0, .ref 1000000)]) kc_195_1501 rfl rfl ev80 rfl (xm_lt ml_195 rfl) ?_
        refine xi_goto (pc' := 23) kc_195_1504 rfl ?_
        exact kk v80 hh77 (by omega) K78 (xI_kept I KR79.2.1)
      · refine xi_cmf (pc' := 10) kc_104_7 rfl (xc_ge_f (X := a2.toInt) (Y := 12) rfl (by decide) (by omega)) ?_
        refine xi_iconst (pc' := 11) (v := 1) kc_104_10 rfl rfl ?_
        refine xi_goto (pc' := 15) kc_104_11 rfl ?_
        refine xi_ireturn kc_104_15 mr_104 rfl ?_
        show xw J ov 99 103 (4, [(0, .ref 0), (1, .int a2), (2, .int a4), (3, .int a6), (4, .int 0)], [.int 1], h) _
        refine xi_iff (pc' := 7) kc_103_4 rfl rfl ?_
        refine xi_iload_n (pc' := 8) (x := a4) kc_103_7 rfl rfl ?_
        refine xi_static (mj := 89) (as := [.int a4]) (st1 := []) (lv0 := [(0, .int a4)]) kc_103_8 rfl rfl (Nat.le_of_ble_eq_true rfl) rfl rfl (Nat.le_of_ble_eq_true rfl) (hJ _ _ _ _ (by decide)) (xm_le ml_89 rfl) rfl ?_
        refine xi_iload_n (pc' := 1) (x := a4) kc_89_0 rfl rfl ?_
        by_cases c81 : a4.toInt < 0
        · refine xi_ift (pc' := 14) kc_89_1 rfl (xc_lt_t (X := a4.toInt) (Y := 0) rfl (by decide) (by omega)) ?_
          refine xi_iconst (pc' := 15) (v := 0) kc_89_14 rfl rfl ?_
          refine xi_ireturn kc_89_15 mr_89 rfl ?_
          show xw J ov 99 103 (11, [(0, .ref 0), (1, .int a2), (2, .int a4), (3, .int a6), (4, .int 0)], [.int 0], h) _
          refine xi_iff (pc' := 14) kc_103_11 rfl rfl ?_
          refine xi_aload_n (pc' := 15) (x := 0) kc_103_14 rfl rfl ?_
          refine xi_iconst (pc' := 16) (v := (-1)) kc_103_15 rfl rfl ?_
          refine xi_virtual (mj := 90) (as := [.int (-1)]) (st1 := []) (lv0 := [(0, .ref 0), (1, .int (-1))]) kc_103_16 rfl rfl rfl rfl rfl A12 (Nat.le_of_ble_eq_true rfl) (hJ _ _ _ _ (by decide)) (xm_le ml_90 rfl) rfl ?_
          refine xi_iload_n (pc' := 1) (x := (-1)) kc_90_0 rfl rfl ?_
          refine xi_ineg (pc' := 2) (v := 1) kc_90_1 rfl rfl ?_
          refine xi_istore_n (pc' := 3) (lv' := [(2, .int 1), (0, .ref 0), (1, .int (-1))]) kc_90_2 rfl rfl (xm_lt ml_90 rfl) ?_
          refine xi_iload_n (pc' := 4) (x := 1) kc_90_3 rfl rfl ?_
          refine xi_iff (pc' := 7) kc_90_4 rfl rfl ?_
          refine xi_iload_n (pc' := 8) (x := 1) kc_90_7 rfl rfl ?_
          refine xi_aload_n (pc' := 9) (x := 0) kc_90_8 rfl rfl ?_
          refine xi_getfield (pc' := 12) (v := .ref 94) kc_90_9 rfl rfl rfl A12 rfl ?_
          obtain ⟨y82, A82, hy82, ry82⟩ := xk_arr K.1 xD_94
          refine xi_arraylength (pc' := 13) (n := 7) (v := 7) kc_90_12 rfl (xl_lenI (by decide) (by decide) A82 hy82) rfl ?_
          refine xi_cmf (pc' := 16) kc_90_13 rfl rfl ?_
          refine xi_aload_n (pc' := 17) (x := 0) kc_90_16 rfl rfl ?_
          refine xi_getfield (pc' := 20) (v := .ref 94) kc_90_17 rfl rfl rfl A12 rfl ?_
          refine xi_iload_n (pc' := 21) (x := 1) kc_90_20 rfl rfl ?_
          refine xi_dup2 (pc' := 22) kc_90_21 rfl ⟨rfl, rfl⟩ ?_
          obtain ⟨v83, ev83, bv83, dv83⟩ := xj_get hy82 ry82 (i := 1) (by decide) (by decide)
          refine xi_iaload (pc' := 23) (v := v83) kc_90_22 rfl A82 (by decide) rfl (xi_in (by decide) (by rw [hy82]; decide)) ev83 ?_
          refine xi_iconst (pc' := 24) (v := 1) kc_90_23 rfl rfl ?_
          obtain ⟨v84, ev84⟩ : ∃ q : Int32, (v83 : Int32) + 1 = q := ⟨_, rfl⟩
          have rv84 := xc_rng v84
          refine xi_iadd (pc' := 25) (v := v84) kc_90_24 rfl ev84 ?_
          obtain ⟨y85, s85, hy85, ry85⟩ := xj_set (v := v84) hy82 ry82 1 (by first | omega | decide) (by first | omega | decide)
          refine xi_iastore (pc' := 26) (x' := y85) kc_90_25 rfl A82 rfl (xi_in (by decide) (by rw [hy82]; decide)) s85 (fun hh85 eh85 => ?_)
          have K86 := xk_pa K (xk_wa (by decide +kernel)) xD_94 hy85 ry85 eh85
          have KR87 := xk_pa KR (xk_wa (by decide +kernel)) xD_94 hy85 ry85 eh85
          refine xi_iload_n (pc' := 27) (x := (-1)) kc_90_26 rfl rfl ?_
          refine xi_ireturn kc_90_27 mr_90 rfl ?_
          show xw J ov 99 103 (19, [(0, .ref 0), (1, .int a2), (2, .int a4), (3, .int a6), (4, .int 0)], [.int (-1)], hh85) _
          refine xi_ireturn kc_103_19 mr_103 rfl ?_
          show xw J ov 100 195 (437, [(4, .int x4), (3, .ref 167), (2, .ref 115), (1, .ref 0), (0, .ref 1000000)], [.int (-1)], hh85) _
          refine xi_pop (pc' := 438) kc_195_437 rfl rfl ?_
          refine xi_aload_n (pc' := 439) (x := 115) kc_195_438 rfl rfl ?_
          refine xi_aload_n (pc' := 440) (x := 1000000) kc_195_439 rfl rfl ?_
          refine xi_iload (pc' := 442) (x := x4) kc_195_440 rfl rfl ?_
          refine xi_iconst (pc' := 443) (v := 1) kc_195_442 rfl rfl ?_
          refine xi_iadd (pc' := 444) (v := v1) kc_195_443 rfl ev1 ?_
          refine xi_ialoadO (pc' := 445) (v := a2) kc_195_444 rfl (by decide) hov0 (xi_in (by omega) (by omega)) ea2 ?_
          refine xi_aload_n (pc' := 446) (x := 1000000) kc_195_445 rfl rfl ?_
          refine xi_iload (pc' := 448) (x := x4) kc_195_446 rfl rfl ?_
          refine xi_iconst (pc' := 449) (v := 2) kc_195_448 rfl rfl ?_
          refine xi_iadd (pc' := 450) (v := v3) kc_195_449 rfl ev3 ?_
          refine xi_ialoadO (pc' := 451) (v := a4) kc_195_450 rfl (by decide) hov0 (xi_in (by omega) (by omega)) ea4 ?_
          refine xi_aload_n (pc' := 452) (x := 1000000) kc_195_451 rfl rfl ?_
          refine xi_iload (pc' := 454) (x := x4) kc_195_452 rfl rfl ?_
          refine xi_iconst (pc' := 455) (v := 3) kc_195_454 rfl rfl ?_
          refine xi_iadd (pc' := 456) (v := v5) kc_195_455 rfl ev5 ?_
          refine xi_ialoadO (pc' := 457) (v := a6) kc_195_456 rfl (by decide) hov0 (xi_in (by omega) (by omega)) ea6 ?_
          refine xi_aload_n (pc' := 458) (x := 1000000) kc_195_457 rfl rfl ?_
          refine xi_iload (pc' := 460) (x := x4) kc_195_458 rfl rfl ?_
          refine xi_iconst (pc' := 461) (v := 4) kc_195_460 rfl rfl ?_
          refine xi_iadd (pc' := 462) (v := v7) kc_195_461 rfl ev7 ?_
          refine xi_ialoadO (pc' := 463) (v := a8) kc_195_462 rfl (by decide) hov0 (xi_in (by omega) (by omega)) ea8 ?_
          refine xi_ift (pc' := 470) kc_195_463 rfl (xc_eq_t (X := a8.toInt) (Y := 0) rfl (by decide) (by omega)) ?_
          refine xi_iconst (pc' := 471) (v := 0) kc_195_470 rfl rfl ?_
          obtain ⟨u88, u89, u90, u91, u92, u93, u94, u95, u96, u97, u98, u99, u100, bu88, bu89, bu90, bu91, bu92, bu93, bu94, bu95, bu96, bu97, bu98, bu99, bu100, A101⟩ := xq_115 K.1
          have A102 := ((eh85.2.1 115 (by decide)).trans A101)
          refine xi_virtual (mj := 23) (as := [.int a2, .int a4, .int a6, .int 0]) (st1 := []) (lv0 := [(0, .ref 115), (1, .int a2), (2, .int a4), (3, .int a6), (4, .int 0)]) kc_195_471 rfl rfl rfl rfl rfl A102 (Nat.le_of_ble_eq_true rfl) (hJ _ _ _ _ (by decide)) (xm_le ml_23 rfl) rfl ?_
          refine xi_aload_n (pc' := 1) (x := 115) kc_23_0 rfl rfl ?_
          refine xi_iconst (pc' := 2) (v := 0) kc_23_1 rfl rfl ?_
          refine xi_putfield (pc' := 5) (fs' := [.int 0, .int u89, .ref 116, .ref 117, .ref 118, .ref 119, .ref 120, .ref 121, .ref 122, .ref 123, .ref 124, .ref 125, .ref 126, .ref 127, .ref 128, .ref 129, .int u90, .ref 130, .int u91, .ref 131, .ref 132, .ref 133, .ref 134, .int u92, .ref 135, .ref 136, .ref 137, .ref 138, .ref 139, .ref 140, .ref 141, .ref 142, .int u93, .int u94, .int u95, .ref 143, .ref 144, .ref 145, .ref 146, .ref 147, .ref 148, .int u96, .ref 149, .ref 150, .ref 151, .int u97, .ref 152, .ref 153, .ref 154, .ref 155, .ref 156, .ref 157, .ref 158, .ref 159, .int u98, .ref 160, .int u99, .ref 161, .ref 162, .ref 163, .ref 164, .int u100, .ref 165, .ref 166]) kc_23_2 rfl rfl rfl A102 rfl rfl rfl (Nat.le_of_ble_eq_true rfl) rfl (fun hh104 eh103 => ?_)
          have K105 := xk_pf (k := 0) (v := 0) K86 (xk_wf (by decide +kernel)) xD_115 A102 rfl (by first | omega | decide) (by first | omega | decide) eh103 rfl
          have KR106 := xk_pf (k := 0) (v := 0) KR87 (xk_wf (by decide +kernel)) xD_115 A102 rfl (by first | omega | decide) (by first | omega | decide) eh103 rfl
          refine xi_iload_n (pc' := 6) (x := a2) kc_23_5 rfl rfl ?_
          refine xi_static (mj := 24) (as := [.int a2]) (st1 := []) (lv0 := [(0, .int a2)]) kc_23_6 rfl rfl (Nat.le_of_ble_eq_true rfl) rfl rfl (Nat.le_of_ble_eq_true rfl) (hJ _ _ _ _ (by decide)) (xm_le ml_24 rfl) rfl ?_
          refine xi_iload_n (pc' := 1) (x := a2) kc_24_0 rfl rfl ?_
          refine xi_iconst (pc' := 2) (v := 0) kc_24_1 rfl rfl ?_
          refine xi_bipush (pc' := 4) (v := 11) kc_24_2 rfl rfl ?_
          refine xi_static (mj := 11) (as := [.int a2, .int 0, .int 11]) (st1 := []) (lv0 := [(0, .int a2), (1, .int 0), (2, .int 11)]) kc_24_4 rfl rfl (Nat.le_of_ble_eq_true rfl) rfl rfl (Nat.le_of_ble_eq_true rfl) (hJ _ _ _ _ (by decide)) (xm_le ml_11 rfl) rfl ?_
          refine xi_iload_n (pc' := 1) (x := a2) kc_11_0 rfl rfl ?_
          refine xi_iload_n (pc' := 2) (x := 0) kc_11_1 rfl rfl ?_
          refine xi_cmf (pc' := 5) kc_11_2 rfl (xc_lt_f (X := a2.toInt) (Y := 0) rfl (by decide) (by omega)) ?_
          refine xi_iload_n (pc' := 6) (x := a2) kc_11_5 rfl rfl ?_
          refine xi_iload_n (pc' := 7) (x := 11) kc_11_6 rfl rfl ?_
          refine xi_cmf (pc' := 10) kc_11_7 rfl (xc_gt_f (X := a2.toInt) (Y := 11) rfl (by decide) (by omega)) ?_
          refine xi_iconst (pc' := 11) (v := 1) kc_11_10 rfl rfl ?_
          refine xi_goto (pc' := 15) kc_11_11 rfl ?_
          refine xi_ireturn kc_11_15 mr_11 rfl ?_
          show xw J ov 98 24 (7, [(0, .int a2)], [.int 1], hh104) _
          refine xi_ireturn kc_24_7 mr_24 rfl ?_
          show xw J ov 99 23 (9, [(0, .ref 115), (1, .int a2), (2, .int a4), (3, .int a6), (4, .int 0)], [.int 1], hh104) _
          refine xi_iff (pc' := 12) kc_23_9 rfl rfl ?_
          refine xi_iload_n (pc' := 13) (x := a4) kc_23_12 rfl rfl ?_
          refine xi_static (mj := 10) (as := [.int a4]) (st1 := []) (lv0 := [(0, .int a4)]) kc_23_13 rfl rfl (Nat.le_of_ble_eq_true rfl) rfl rfl (Nat.le_of_ble_eq_true rfl) (hJ _ _ _ _ (by decide)) (xm_le ml_10 rfl) rfl ?_
          refine xi_iload_n (pc' := 1) (x := a4) kc_10_0 rfl rfl ?_
          refine xi_iconst (pc' := 2) (v := 0) kc_10_1 rfl rfl ?_
          refine xi_iconst (pc' := 3) (v := 5) kc_10_2 rfl rfl ?_
          refine xi_static (mj := 11) (as := [.int a4, .int 0, .int 5]) (st1 := []) (lv0 := [(0, .int a4), (1, .int 0), (2, .int 5)]) kc_10_3 rfl rfl (Nat.le_of_ble_eq_true rfl) rfl rfl (Nat.le_of_ble_eq_true rfl) (hJ _ _ _ _ (by decide)) (xm_le ml_11 rfl) rfl ?_
          refine xi_iload_n (pc' := 1) (x := a4) kc_11_0 rfl rfl ?_
          refine xi_iload_n (pc' := 2) (x := 0) kc_11_1 rfl rfl ?_
          refine xi_cmt (pc' := 14) kc_11_2 rfl (xc_lt_t (X := a4.toInt) (Y := 0) rfl (by decide) (by omega)) ?_
          refine xi_iconst (pc' := 15) (v := 0) kc_11_14 rfl rfl ?_
          refine xi_ireturn kc_11_15 mr_11 rfl ?_
          show xw J ov 98 10 (6, [(0, .int a4)], [.int 0], hh104) _
          refine xi_ireturn kc_10_6 mr_10 rfl ?_
          show xw J ov 99 23 (16, [(0, .ref 115), (1, .int a2), (2, .int a4), (3, .int a6), (4, .int 0)], [.int 0], hh104) _
          refine xi_iff (pc' := 19) kc_23_16 rfl rfl ?_
          refine xi_aload_n (pc' := 20) (x := 115) kc_23_19 rfl rfl ?_
          refine xi_iconst (pc' := 21) (v := (-1)) kc_23_20 rfl rfl ?_
          refine xi_virtual (mj := 12) (as := [.int (-1)]) (st1 := []) (lv0 := [(0, .ref 115), (1, .int (-1))]) kc_23_21 rfl rfl rfl rfl rfl eh103.1 (Nat.le_of_ble_eq_true rfl) (hJ _ _ _ _ (by decide)) (xm_le ml_12 rfl) rfl ?_
          refine xi_aload_n (pc' := 1) (x := 115) kc_12_0 rfl rfl ?_
          refine xi_getfield (pc' := 4) (v := .ref 140) kc_12_1 rfl rfl rfl eh103.1 rfl ?_
          refine xi_iload_n (pc' := 5) (x := (-1)) kc_12_4 rfl rfl ?_
          refine xi_ineg (pc' := 6) (v := 1) kc_12_5 rfl rfl ?_
          refine xi_dup2 (pc' := 7) kc_12_6 rfl ⟨rfl, rfl⟩ ?_
          obtain ⟨y107, A107, hy107, ry107⟩ := xk_arr K.1 xD_140
          obtain ⟨v108, ev108, bv108, dv108⟩ := xj_get hy107 ry107 (i := 1) (by decide) (by decide)
          have A109 := ((eh103.2.1 140 (by decide)).trans ((eh85.2.1 140 (by decide)).trans A107))
          refine xi_iaload (pc' := 8) (v := v108) kc_12_7 rfl A109 (by decide) rfl (xi_in (by decide) (by rw [hy107]; decide)) ev108 ?_
          refine xi_iconst (pc' := 9) (v := 1) kc_12_8 rfl rfl ?_
          obtain ⟨v110, ev110⟩ : ∃ q : Int32, (v108 : Int32) + 1 = q := ⟨_, rfl⟩
          have rv110 := xc_rng v110
          refine xi_iadd (pc' := 10) (v := v110) kc_12_9 rfl ev110 ?_
          obtain ⟨y111, s111, hy111, ry111⟩ := xj_set (v := v110) hy107 ry107 1 (by first | omega | decide) (by first | omega | decide)
          refine xi_iastore (pc' := 11) (x' := y111) kc_12_10 rfl A109 rfl (xi_in (by decide) (by rw [hy107]; decide)) s111 (fun hh111 eh111 => ?_)
          have K112 := xk_pa K105 (xk_wa (by decide +kernel)) xD_140 hy111 ry111 eh111
          have KR113 := xk_pa KR106 (xk_wa (by decide +kernel)) xD_140 hy111 ry111 eh111
          refine xi_iload_n (pc' := 12) (x := (-1)) kc_12_11 rfl rfl ?_
          refine xi_ireturn kc_12_12 mr_12 rfl ?_
          show xw J ov 99 23 (24, [(0, .ref 115), (1, .int a2), (2, .int a4), (3, .int a6), (4, .int 0)], [.int (-1)], hh111) _
          refine xi_ireturn kc_23_24 mr_23 rfl ?_
          show xw J ov 100 195 (474, [(4, .int x4), (3, .ref 167), (2, .ref 115), (1, .ref 0), (0, .ref 1000000)], [.int (-1)], hh111) _
          refine xi_pop (pc' := 475) kc_195_474 rfl rfl ?_
          refine xi_goto (pc' := 1501) kc_195_475 rfl ?_
          obtain ⟨v114, ev114⟩ : ∃ q : Int32, x4 + 6 = q := ⟨_, rfl⟩
          have zv114 : v114.toInt = (x4.toInt + 6) := by rw [← ev114]; exact (xz_add (X := x4.toInt) (Y := 6) rfl (by decide) (by omega) (by omega)).trans (by omega)
          refine xi_iinc (pc' := 1504) (x := x4) (v := v114) (lv' := [(4, .int v114), (3, .ref 167), (2, .ref 115), (1, .ref 0), (0, .ref 1000000)]) kc_195_1501 rfl rfl ev114 rfl (xm_lt ml_195 rfl) ?_
          refine xi_goto (pc' := 23) kc_195_1504 rfl ?_
          exact kk v114 hh111 (by omega) K112 (xI_kept I KR113.2.1)
        · refine xi_iff (pc' := 4) kc_89_1 rfl (xc_lt_f (X := a4.toInt) (Y := 0) rfl (by decide) (by omega)) ?_
          refine xi_iload_n (pc' := 5) (x := a4) kc_89_4 rfl rfl ?_
          refine xi_bipush (pc' := 7) (v := 6) kc_89_5 rfl rfl ?_
          by_cases c115 : 6 ≤ a4.toInt
          · refine xi_cmt (pc' := 14) kc_89_7 rfl (xc_ge_t (X := a4.toInt) (Y := 6) rfl (by decide) (by omega)) ?_
            refine xi_iconst (pc' := 15) (v := 0) kc_89_14 rfl rfl ?_
            refine xi_ireturn kc_89_15 mr_89 rfl ?_
            show xw J ov 99 103 (11, [(0, .ref 0), (1, .int a2), (2, .int a4), (3, .int a6), (4, .int 0)], [.int 0], h) _
            refine xi_iff (pc' := 14) kc_103_11 rfl rfl ?_
            refine xi_aload_n (pc' := 15) (x := 0) kc_103_14 rfl rfl ?_
            refine xi_iconst (pc' := 16) (v := (-1)) kc_103_15 rfl rfl ?_
            refine xi_virtual (mj := 90) (as := [.int (-1)]) (st1 := []) (lv0 := [(0, .ref 0), (1, .int (-1))]) kc_103_16 rfl rfl rfl rfl rfl A12 (Nat.le_of_ble_eq_true rfl) (hJ _ _ _ _ (by decide)) (xm_le ml_90 rfl) rfl ?_
            refine xi_iload_n (pc' := 1) (x := (-1)) kc_90_0 rfl rfl ?_
            refine xi_ineg (pc' := 2) (v := 1) kc_90_1 rfl rfl ?_
            refine xi_istore_n (pc' := 3) (lv' := [(2, .int 1), (0, .ref 0), (1, .int (-1))]) kc_90_2 rfl rfl (xm_lt ml_90 rfl) ?_
            refine xi_iload_n (pc' := 4) (x := 1) kc_90_3 rfl rfl ?_
            refine xi_iff (pc' := 7) kc_90_4 rfl rfl ?_
            refine xi_iload_n (pc' := 8) (x := 1) kc_90_7 rfl rfl ?_
            refine xi_aload_n (pc' := 9) (x := 0) kc_90_8 rfl rfl ?_
            refine xi_getfield (pc' := 12) (v := .ref 94) kc_90_9 rfl rfl rfl A12 rfl ?_
            obtain ⟨y116, A116, hy116, ry116⟩ := xk_arr K.1 xD_94
            refine xi_arraylength (pc' := 13) (n := 7) (v := 7) kc_90_12 rfl (xl_lenI (by decide) (by decide) A116 hy116) rfl ?_
            refine xi_cmf (pc' := 16) kc_90_13 rfl rfl ?_
            refine xi_aload_n (pc' := 17) (x := 0) kc_90_16 rfl rfl ?_
            refine xi_getfield (pc' := 20) (v := .ref 94) kc_90_17 rfl rfl rfl A12 rfl ?_
            refine xi_iload_n (pc' := 21) (x := 1) kc_90_20 rfl rfl ?_
            refine xi_dup2 (pc' := 22) kc_90_21 rfl ⟨rfl, rfl⟩ ?_
            obtain ⟨v117, ev117, bv117, dv117⟩ := xj_get hy116 ry116 (i := 1) (by decide) (by decide)
            refine xi_iaload (pc' := 23) (v := v117) kc_90_22 rfl A116 (by decide) rfl (xi_in (by decide) (by rw [hy116]; decide)) ev117 ?_
            refine xi_iconst (pc' := 24) (v := 1) kc_90_23 rfl rfl ?_
            obtain ⟨v118, ev118⟩ : ∃ q : Int32, (v117 : Int32) + 1 = q := ⟨_, rfl⟩
            have rv118 := xc_rng v118
            refine xi_iadd (pc' := 25) (v := v118) kc_90_24 rfl ev118 ?_
            obtain ⟨y119, s119, hy119, ry119⟩ := xj_set (v := v118) hy116 ry116 1 (by first | omega | decide) (by first | omega | decide)
            refine xi_iastore (pc' := 26) (x' := y119) kc_90_25 rfl A116 rfl (xi_in (by decide) (by rw [hy116]; decide)) s119 (fun hh119 eh119 => ?_)
            have K120 := xk_pa K (xk_wa (by decide +kernel)) xD_94 hy119 ry119 eh119
            have KR121 := xk_pa KR (xk_wa (by decide +kernel)) xD_94 hy119 ry119 eh119
            refine xi_iload_n (pc' := 27) (x := (-1)) kc_90_26 rfl rfl ?_
            refine xi_ireturn kc_90_27 mr_90 rfl ?_
            show xw J ov 99 103 (19, [(0, .ref 0), (1, .int a2), (2, .int a4), (3, .int a6), (4, .int 0)], [.int (-1)], hh119) _
            refine xi_ireturn kc_103_19 mr_103 rfl ?_
            show xw J ov 100 195 (437, [(4, .int x4), (3, .ref 167), (2, .ref 115), (1, .ref 0), (0, .ref 1000000)], [.int (-1)], hh119) _
            refine xi_pop (pc' := 438) kc_195_437 rfl rfl ?_
            refine xi_aload_n (pc' := 439) (x := 115) kc_195_438 rfl rfl ?_
            refine xi_aload_n (pc' := 440) (x := 1000000) kc_195_439 rfl rfl ?_
            refine xi_iload (pc' := 442) (x := x4) kc_195_440 rfl rfl ?_
            refine xi_iconst (pc' := 443) (v := 1) kc_195_442 rfl rfl ?_
            refine xi_iadd (pc' := 444) (v := v1) kc_195_443 rfl ev1 ?_
            refine xi_ialoadO (pc' := 445) (v := a2) kc_195_444 rfl (by decide) hov0 (xi_in (by omega) (by omega)) ea2 ?_
            refine xi_aload_n (pc' := 446) (x := 1000000) kc_195_445 rfl rfl ?_
            refine xi_iload (pc' := 448) (x := x4) kc_195_446 rfl rfl ?_
            refine xi_iconst (pc' := 449) (v := 2) kc_195_448 rfl rfl ?_
            refine xi_iadd (pc' := 450) (v := v3) kc_195_449 rfl ev3 ?_
            refine xi_ialoadO (pc' := 451) (v := a4) kc_195_450 rfl (by decide) hov0 (xi_in (by omega) (by omega)) ea4 ?_
            refine xi_aload_n (pc' := 452) (x := 1000000) kc_195_451 rfl rfl ?_
            refine xi_iload (pc' := 454) (x := x4) kc_195_452 rfl rfl ?_
            refine xi_iconst (pc' := 455) (v := 3) kc_195_454 rfl rfl ?_
            refine xi_iadd (pc' := 456) (v := v5) kc_195_455 rfl ev5 ?_
            refine xi_ialoadO (pc' := 457) (v := a6) kc_195_456 rfl (by decide) hov0 (xi_in (by omega) (by omega)) ea6 ?_
            refine xi_aload_n (pc' := 458) (x := 1000000) kc_195_457 rfl rfl ?_
            refine xi_iload (pc' := 460) (x := x4) kc_195_458 rfl rfl ?_
            refine xi_iconst (pc' := 461) (v := 4) kc_195_460 rfl rfl ?_
            refine xi_iadd (pc' := 462) (v := v7) kc_195_461 rfl ev7 ?_
            refine xi_ialoadO (pc' := 463) (v := a8) kc_195_462 rfl (by decide) hov0 (xi_in (by omega) (by omega)) ea8 ?_
            refine xi_ift (pc' := 470) kc_195_463 rfl (xc_eq_t (X := a8.toInt) (Y := 0) rfl (by decide) (by omega)) ?_
            refine xi_iconst (pc' := 471) (v := 0) kc_195_470 rfl rfl ?_
            obtain ⟨u122, u123, u124, u125, u126, u127, u128, u129, u130, u131, u132, u133, u134, bu122, bu123, bu124, bu125, bu126, bu127, bu128, bu129, bu130, bu131, bu132, bu133, bu134, A135⟩ := xq_115 K.1
            have A136 := ((eh119.2.1 115 (by decide)).trans A135)
            refine xi_virtual (mj := 23) (as := [.int a2, .int a4, .int a6, .int 0]) (st1 := []) (lv0 := [(0, .ref 115), (1, .int a2), (2, .int a4), (3, .int a6), (4, .int 0)]) kc_195_471 rfl rfl rfl rfl rfl A136 (Nat.le_of_ble_eq_true rfl) (hJ _ _ _ _ (by decide)) (xm_le ml_23 rfl) rfl ?_
            refine xi_aload_n (pc' := 1) (x := 115) kc_23_0 rfl rfl ?_
            refine xi_iconst (pc' := 2) (v := 0) kc_23_1 rfl rfl ?_
            refine xi_putfield (pc' := 5) (fs' := [.int 0, .int u123, .ref 116, .ref 117, .ref 118, .ref 119, .ref 120, .ref 121, .ref 122, .ref 123, .ref 124, .ref 125, .ref 126, .ref 127, .ref 128, .ref 129, .int u124, .ref 130, .int u125, .ref 131, .ref 132, .ref 133, .ref 134, .int u126, .ref 135, .ref 136, .ref 137, .ref 138, .ref 139, .ref 140, .ref 141, .ref 142, .int u127, .int u128, .int u129, .ref 143, .ref 144, .ref 145, .ref 146, .ref 147, .ref 148, .int u130, .ref 149, .ref 150, .ref 151, .int u131, .ref 152, .ref 153, .ref 154, .ref 155, .ref 156, .ref 157, .ref 158, .ref 159, .int u132, .ref 160, .int u133, .ref 161, .ref 162, .ref 163, .ref 164, .int u134, .ref 165, .ref 166]) kc_23_2 rfl rfl rfl A136 rfl rfl rfl (Nat.le_of_ble_eq_true rfl) rfl (fun hh138 eh137 => ?_)
            have K139 := xk_pf (k := 0) (v := 0) K120 (xk_wf (by decide +kernel)) xD_115 A136 rfl (by first | omega | decide) (by first | omega | decide) eh137 rfl
            have KR140 := xk_pf (k := 0) (v := 0) KR121 (xk_wf (by decide +kernel)) xD_115 A136 rfl (by first | omega | decide) (by first | omega | decide) eh137 rfl
            refine xi_iload_n (pc' := 6) (x := a2) kc_23_5 rfl rfl ?_
            refine xi_static (mj := 24) (as := [.int a2]) (st1 := []) (lv0 := [(0, .int a2)]) kc_23_6 rfl rfl (Nat.le_of_ble_eq_true rfl) rfl rfl (Nat.le_of_ble_eq_true rfl) (hJ _ _ _ _ (by decide)) (xm_le ml_24 rfl) rfl ?_
            refine xi_iload_n (pc' := 1) (x := a2) kc_24_0 rfl rfl ?_
            refine xi_iconst (pc' := 2) (v := 0) kc_24_1 rfl rfl ?_
            refine xi_bipush (pc' := 4) (v := 11) kc_24_2 rfl rfl ?_
            refine xi_static (mj := 11) (as := [.int a2, .int 0, .int 11]) (st1 := []) (lv0 := [(0, .int a2), (1, .int 0), (2, .int 11)]) kc_24_4 rfl rfl (Nat.le_of_ble_eq_true rfl) rfl rfl (Nat.le_of_ble_eq_true rfl) (hJ _ _ _ _ (by decide)) (xm_le ml_11 rfl) rfl ?_
            refine xi_iload_n (pc' := 1) (x := a2) kc_11_0 rfl rfl ?_
            refine xi_iload_n (pc' := 2) (x := 0) kc_11_1 rfl rfl ?_
            refine xi_cmf (pc' := 5) kc_11_2 rfl (xc_lt_f (X := a2.toInt) (Y := 0) rfl (by decide) (by omega)) ?_
            refine xi_iload_n (pc' := 6) (x := a2) kc_11_5 rfl rfl ?_
            refine xi_iload_n (pc' := 7) (x := 11) kc_11_6 rfl rfl ?_
            refine xi_cmf (pc' := 10) kc_11_7 rfl (xc_gt_f (X := a2.toInt) (Y := 11) rfl (by decide) (by omega)) ?_
            refine xi_iconst (pc' := 11) (v := 1) kc_11_10 rfl rfl ?_
            refine xi_goto (pc' := 15) kc_11_11 rfl ?_
            refine xi_ireturn kc_11_15 mr_11 rfl ?_
            show xw J ov 98 24 (7, [(0, .int a2)], [.int 1], hh138) _
            refine xi_ireturn kc_24_7 mr_24 rfl ?_
            show xw J ov 99 23 (9, [(0, .ref 115), (1, .int a2), (2, .int a4), (3, .int a6), (4, .int 0)], [.int 1], hh138) _
            refine xi_iff (pc' := 12) kc_23_9 rfl rfl ?_
            refine xi_iload_n (pc' := 13) (x := a4) kc_23_12 rfl rfl ?_
            refine xi_static (mj := 10) (as := [.int a4]) (st1 := []) (lv0 := [(0, .int a4)]) kc_23_13 rfl rfl (Nat.le_of_ble_eq_true rfl) rfl rfl (Nat.le_of_ble_eq_true rfl) (hJ _ _ _ _ (by decide)) (xm_le ml_10 rfl) rfl ?_
            refine xi_iload_n (pc' := 1) (x := a4) kc_10_0 rfl rfl ?_
            refine xi_iconst (pc' := 2) (v := 0) kc_10_1 rfl rfl ?_
            refine xi_iconst (pc' := 3) (v := 5) kc_10_2 rfl rfl ?_
            refine xi_static (mj := 11) (as := [.int a4, .int 0, .int 5]) (st1 := []) (lv0 := [(0, .int a4), (1, .int 0), (2, .int 5)]) kc_10_3 rfl rfl (Nat.le_of_ble_eq_true rfl) rfl rfl (Nat.le_of_ble_eq_true rfl) (hJ _ _ _ _ (by decide)) (xm_le ml_11 rfl) rfl ?_
            refine xi_iload_n (pc' := 1) (x := a4) kc_11_0 rfl rfl ?_
            refine xi_iload_n (pc' := 2) (x := 0) kc_11_1 rfl rfl ?_
            refine xi_cmf (pc' := 5) kc_11_2 rfl (xc_lt_f (X := a4.toInt) (Y := 0) rfl (by decide) (by omega)) ?_
            refine xi_iload_n (pc' := 6) (x := a4) kc_11_5 rfl rfl ?_
            refine xi_iload_n (pc' := 7) (x := 5) kc_11_6 rfl rfl ?_
            refine xi_cmt (pc' := 14) kc_11_7 rfl (xc_gt_t (X := a4.toInt) (Y := 5) rfl (by decide) (by omega)) ?_
            refine xi_iconst (pc' := 15) (v := 0) kc_11_14 rfl rfl ?_
            refine xi_ireturn kc_11_15 mr_11 rfl ?_
            show xw J ov 98 10 (6, [(0, .int a4)], [.int 0], hh138) _
            refine xi_ireturn kc_10_6 mr_10 rfl ?_
            show xw J ov 99 23 (16, [(0, .ref 115), (1, .int a2), (2, .int a4), (3, .int a6), (4, .int 0)], [.int 0], hh138) _
            refine xi_iff (pc' := 19) kc_23_16 rfl rfl ?_
            refine xi_aload_n (pc' := 20) (x := 115) kc_23_19 rfl rfl ?_
            refine xi_iconst (pc' := 21) (v := (-1)) kc_23_20 rfl rfl ?_
            refine xi_virtual (mj := 12) (as := [.int (-1)]) (st1 := []) (lv0 := [(0, .ref 115), (1, .int (-1))]) kc_23_21 rfl rfl rfl rfl rfl eh137.1 (Nat.le_of_ble_eq_true rfl) (hJ _ _ _ _ (by decide)) (xm_le ml_12 rfl) rfl ?_
            refine xi_aload_n (pc' := 1) (x := 115) kc_12_0 rfl rfl ?_
            refine xi_getfield (pc' := 4) (v := .ref 140) kc_12_1 rfl rfl rfl eh137.1 rfl ?_
            refine xi_iload_n (pc' := 5) (x := (-1)) kc_12_4 rfl rfl ?_
            refine xi_ineg (pc' := 6) (v := 1) kc_12_5 rfl rfl ?_
            refine xi_dup2 (pc' := 7) kc_12_6 rfl ⟨rfl, rfl⟩ ?_
            obtain ⟨y141, A141, hy141, ry141⟩ := xk_arr K.1 xD_140
            obtain ⟨v142, ev142, bv142, dv142⟩ := xj_get hy141 ry141 (i := 1) (by decide) (by decide)
            have A143 := ((eh137.2.1 140 (by decide)).trans ((eh119.2.1 140 (by decide)).trans A141))
            refine xi_iaload (pc' := 8) (v := v142) kc_12_7 rfl A143 (by decide) rfl (xi_in (by decide) (by rw [hy141]; decide)) ev142 ?_
            refine xi_iconst (pc' := 9) (v := 1) kc_12_8 rfl rfl ?_
            obtain ⟨v144, ev144⟩ : ∃ q : Int32, (v142 : Int32) + 1 = q := ⟨_, rfl⟩
            have rv144 := xc_rng v144
            refine xi_iadd (pc' := 10) (v := v144) kc_12_9 rfl ev144 ?_
            obtain ⟨y145, s145, hy145, ry145⟩ := xj_set (v := v144) hy141 ry141 1 (by first | omega | decide) (by first | omega | decide)
            refine xi_iastore (pc' := 11) (x' := y145) kc_12_10 rfl A143 rfl (xi_in (by decide) (by rw [hy141]; decide)) s145 (fun hh145 eh145 => ?_)
            have K146 := xk_pa K139 (xk_wa (by decide +kernel)) xD_140 hy145 ry145 eh145
            have KR147 := xk_pa KR140 (xk_wa (by decide +kernel)) xD_140 hy145 ry145 eh145
            refine xi_iload_n (pc' := 12) (x := (-1)) kc_12_11 rfl rfl ?_
            refine xi_ireturn kc_12_12 mr_12 rfl ?_
            show xw J ov 99 23 (24, [(0, .ref 115), (1, .int a2), (2, .int a4), (3, .int a6), (4, .int 0)], [.int (-1)], hh145) _
            refine xi_ireturn kc_23_24 mr_23 rfl ?_
            show xw J ov 100 195 (474, [(4, .int x4), (3, .ref 167), (2, .ref 115), (1, .ref 0), (0, .ref 1000000)], [.int (-1)], hh145) _
            refine xi_pop (pc' := 475) kc_195_474 rfl rfl ?_
            refine xi_goto (pc' := 1501) kc_195_475 rfl ?_
            obtain ⟨v148, ev148⟩ : ∃ q : Int32, x4 + 6 = q := ⟨_, rfl⟩
            have zv148 : v148.toInt = (x4.toInt + 6) := by rw [← ev148]; exact (xz_add (X := x4.toInt) (Y := 6) rfl (by decide) (by omega) (by omega)).trans (by omega)
            refine xi_iinc (pc' := 1504) (x := x4) (v := v148) (lv' := [(4, .int v148), (3, .ref 167), (2, .ref 115), (1, .ref 0), (0, .ref 1000000)]) kc_195_1501 rfl rfl ev148 rfl (xm_lt ml_195 rfl) ?_
            refine xi_goto (pc' := 23) kc_195_1504 rfl ?_
            exact kk v148 hh145 (by omega) K146 (xI_kept I KR147.2.1)
          · refine xi_cmf (pc' := 10) kc_89_7 rfl (xc_ge_f (X := a4.toInt) (Y := 6) rfl (by decide) (by omega)) ?_
            refine xi_iconst (pc' := 11) (v := 1) kc_89_10 rfl rfl ?_
            refine xi_goto (pc' := 15) kc_89_11 rfl ?_
            refine xi_ireturn kc_89_15 mr_89 rfl ?_
            show xw J ov 99 103 (11, [(0, .ref 0), (1, .int a2), (2, .int a4), (3, .int a6), (4, .int 0)], [.int 1], h) _
            refine xi_ift (pc' := 20) kc_103_11 rfl rfl ?_
            refine xi_iload_n (pc' := 21) (x := a6) kc_103_20 rfl rfl ?_
            by_cases c149 : 0 ≤ a6.toInt
            · refine xi_ift (pc' := 31) kc_103_21 rfl (xc_ge_t (X := a6.toInt) (Y := 0) rfl (by decide) (by omega)) ?_
              refine xi_iload_n (pc' := 32) (x := a6) kc_103_31 rfl rfl ?_
              refine xi_bipush (pc' := 34) (v := 100) kc_103_32 rfl rfl ?_
              by_cases c150 : a6.toInt ≤ 100
              · refine xi_cmt (pc' := 44) kc_103_34 rfl (xc_le_t (X := a6.toInt) (Y := 100) rfl (by decide) (by omega)) ?_
                refine xi_aload_n (pc' := 45) (x := 0) kc_103_44 rfl rfl ?_
                refine xi_getfield (pc' := 48) (v := .ref 66) kc_103_45 rfl rfl rfl A12 rfl ?_
                obtain ⟨u152, wl151, bu152, A153⟩ := xq_66 K.1
                refine xi_virtual (mj := 91) (as := []) (st1 := []) (lv0 := [(0, .ref 66)]) kc_103_48 rfl rfl rfl rfl rfl A153 (Nat.le_of_ble_eq_true rfl) (hJ _ _ _ _ (by decide)) (xm_le ml_91 rfl) rfl ?_
                refine xi_aload_n (pc' := 1) (x := 66) kc_91_0 rfl rfl ?_
                refine xi_lconst (pc' := 2) (v := 0) kc_91_1 rfl rfl ?_
                refine xi_putfield (pc' := 5) (fs' := [.ref 1, .ref 67, .ref 70, .ref 71, .ref 72, .ref 73, .ref 74, .long 0, .int u152]) kc_91_2 rfl rfl rfl A153 rfl rfl rfl (Nat.le_of_ble_eq_true rfl) rfl (fun hh155 eh154 => ?_)
                have K156 := xk_pl (k := 7) (v := 0) K (xk_wf (by decide +kernel)) xD_66 A153 rfl eh154 rfl
                have KR157 := xk_pl (k := 7) (v := 0) KR (xk_wf (by decide +kernel)) xD_66 A153 rfl eh154 rfl
                refine xi_return kc_91_5 mr_91 ?_
                show xw J ov 99 103 (51, [(0, .ref 0), (1, .int a2), (2, .int a4), (3, .int a6), (4, .int 0)], [], hh155) _
                refine xi_aload_n (pc' := 52) (x := 0) kc_103_51 rfl rfl ?_
                have A158 := ((eh154.2.1 0 (by decide)).trans A12)
                refine xi_getfield (pc' := 55) (v := .ref 1) kc_103_52 rfl rfl rfl A158 rfl ?_
                obtain ⟨u159, u160, bu159, bu160, A161⟩ := xq_1 K.1
                have A162 := ((eh154.2.1 1 (by decide)).trans A161)
                refine xi_getfield (pc' := 58) (v := .ref 3) kc_103_55 rfl rfl rfl A162 rfl ?_
                refine xi_iload_n (pc' := 59) (x := a2) kc_103_58 rfl rfl ?_
                have A163 := xk_ex K.1 xD_3
                obtain ⟨pt164, ept164, mpt164⟩ := xR_3 (i := a2) (by omega) (by omega)
                have A165 := ((eh154.2.1 3 (by decide)).trans A163)
                refine xj_aaload (pc' := 60) (b := pt164) kc_103_59 rfl A165 rfl (xi_in (n := 12) (by omega) (by omega)) ept164 ?_
                refine xi_astore (pc' := 62) (lv' := [(5, .ref pt164), (0, .ref 0), (1, .int a2), (2, .int a4), (3, .int a6), (4, .int 0)]) kc_103_60 rfl rfl (xm_lt ml_103 rfl) ?_
                refine xi_aload (pc' := 64) (x := pt164) kc_103_62 rfl rfl ?_
                obtain ⟨u166, u167, u168, u169, pt170, bu166, bu167, bu168, bu169, mpt170, A171⟩ := xg_wall K.1 mpt164
                obtain ⟨y172, A172, hy172, ry172⟩ := xk_arr K.1 xD_125
                have HG173 : y172.getD (Int32.toNatClampNeg a2) 0 = u166 := xGR_ld (Lo := [some 29, some 31, some 33, some 35, some 37, some 39, some 41, some 43, some 45, some 47, some 49, some 51]) I.2.2.2.2.2.2.2.2.2.2.2.2.2.2.2.1 rfl ept164 (by omega) (by show _ < ((12 : Nat) : Int); omega) A171 rfl A172
                have bHG173 : (-9) ≤ u166.toInt ∧ u166.toInt ≤ 5 := by rw [← HG173]; exact ry172 _ (xj_nat (n := 12) (by omega) (by omega))
                obtain ⟨y174, A174, hy174, ry174⟩ := xk_arr K.1 xD_127
                have HG175 : y174.getD (Int32.toNatClampNeg a2) 0 = u168 := xGR_ld (Lo := [some 29, some 31, some 33, some 35, some 37, some 39, some 41, some 43, some 45, some 47, some 49, some 51]) I.2.2.2.2.2.2.2.2.2.2.2.2.2.2.2.2.1 rfl ept164 (by omega) (by show _ < ((12 : Nat) : Int); omega) A171 rfl A174
                have bHG175 : 0 ≤ u168.toInt ∧ u168.toInt ≤ 1 := by rw [← HG175]; exact ry174 _ (xj_nat (n := 12) (by omega) (by omega))
                have A176 := ((eh154.2.1 pt164 (Ne.symm (xk_nc mpt164 rfl))).trans A171)
                refine xi_virtual (mj := 105) (as := []) (st1 := []) (lv0 := [(0, .ref pt164)]) kc_103_64 rfl rfl rfl rfl rfl A176 (Nat.le_of_ble_eq_true rfl) (hJ _ _ _ _ (by decide)) (xm_le ml_105 rfl) rfl ?_
                refine xi_aload_n (pc' := 1) (x := pt164) kc_105_0 rfl rfl ?_
                refine xi_getfield (pc' := 4) (v := .int u166) kc_105_1 rfl rfl rfl A176 rfl ?_
                refine xi_static (mj := 89) (as := [.int u166]) (st1 := []) (lv0 := [(0, .int u166)]) kc_105_4 rfl rfl (Nat.le_of_ble_eq_true rfl) rfl rfl (Nat.le_of_ble_eq_true rfl) (hJ _ _ _ _ (by decide)) (xm_le ml_89 rfl) rfl ?_
                refine xi_iload_n (pc' := 1) (x := u166) kc_89_0 rfl rfl ?_
                by_cases c177 : u166.toInt < 0
                · refine xi_ift (pc' := 14) kc_89_1 rfl (xc_lt_t (X := u166.toInt) (Y := 0) rfl (by decide) (by omega)) ?_
                  refine xi_iconst (pc' := 15) (v := 0) kc_89_14 rfl rfl ?_
                  refine xi_ireturn kc_89_15 mr_89 rfl ?_
                  show xw J ov 98 105 (7, [(0, .ref pt164)], [.int 0], hh155) _
                  refine xi_ireturn kc_105_7 mr_105 rfl ?_
                  show xw J ov 99 103 (67, [(5, .ref pt164), (0, .ref 0), (1, .int a2), (2, .int a4), (3, .int a6), (4, .int 0)], [.int 0], hh155) _
                  refine xi_ift (pc' := 74) kc_103_67 rfl rfl ?_
                  refine xi_iconst (pc' := 75) (v := 1) kc_103_74 rfl rfl ?_
                  refine xi_istore (pc' := 77) (lv' := [(6, .int 1), (5, .ref pt164), (0, .ref 0), (1, .int a2), (2, .int a4), (3, .int a6), (4, .int 0)]) kc_103_75 rfl rfl (xm_lt ml_103 rfl) ?_
                  refine xi_aload (pc' := 79) (x := pt164) kc_103_77 rfl rfl ?_
                  refine xi_iload_n (pc' := 80) (x := a4) kc_103_79 rfl rfl ?_
                  refine xi_putfield (pc' := 83) (fs' := [.int a4, .int u167, .int u168, .int u169, .ref pt170]) kc_103_80 rfl rfl rfl A176 rfl rfl rfl (Nat.le_of_ble_eq_true rfl) rfl (fun hh179 eh178 => ?_)
                  obtain ⟨ds180, Dds180, dds180_0, dds180_1, dds180_2, dds180_3⟩ := xGo_wall mpt164
                  have K181 := xk_pf (k := 0) (v := a4) K156 (xk_gf mpt164 (by decide +kernel)) Dds180 A176 dds180_0 (by first | omega | decide) (by first | omega | decide) eh178 rfl
                  refine xi_aload (pc' := 85) (x := pt164) kc_103_83 rfl rfl ?_
                  refine xi_iload_n (pc' := 86) (x := a6) kc_103_85 rfl rfl ?_
                  refine xi_putfield (pc' := 89) (fs' := [.int a4, .int a6, .int u168, .int u169, .ref pt170]) kc_103_86 rfl rfl rfl eh178.1 rfl rfl rfl (Nat.le_of_ble_eq_true rfl) rfl (fun hh183 eh182 => ?_)
                  obtain ⟨ds184, Dds184, dds184_0, dds184_1, dds184_2, dds184_3⟩ := xGo_wall mpt164
                  have K185 := xk_pf (k := 1) (v := a6) K181 (xk_gf mpt164 (by decide +kernel)) Dds184 eh178.1 dds184_1 (by first | omega | decide) (by first | omega | decide) eh182 rfl
                  refine xi_aload (pc' := 91) (x := pt164) kc_103_89 rfl rfl ?_
                  refine xi_iload (pc' := 93) (x := 0) kc_103_91 rfl rfl ?_
                  refine xi_putfield (pc' := 96) (fs' := [.int a4, .int a6, .int 0, .int u169, .ref pt170]) kc_103_93 rfl rfl rfl eh182.1 rfl rfl rfl (Nat.le_of_ble_eq_true rfl) rfl (fun hh187 eh186 => ?_)
                  obtain ⟨ds188, Dds188, dds188_0, dds188_1, dds188_2, dds188_3⟩ := xGo_wall mpt164
                  have K189 := xk_pf (k := 2) (v := 0) K185 (xk_gf mpt164 (by decide +kernel)) Dds188 eh182.1 dds188_2 (by first | omega | decide) (by first | omega | decide) eh186 rfl
                  refine xi_iload (pc' := 98) (x := 1) kc_103_96 rfl rfl ?_
                  refine xi_ireturn kc_103_98 mr_103 rfl ?_
                  show xw J ov 100 195 (437, [(4, .int x4), (3, .ref 167), (2, .ref 115), (1, .ref 0), (0, .ref 1000000)], [.int 1], hh187) _
                  refine xi_pop (pc' := 438) kc_195_437 rfl rfl ?_
                  refine xi_aload_n (pc' := 439) (x := 115) kc_195_438 rfl rfl ?_
                  refine xi_aload_n (pc' := 440) (x := 1000000) kc_195_439 rfl rfl ?_
                  refine xi_iload (pc' := 442) (x := x4) kc_195_440 rfl rfl ?_
                  refine xi_iconst (pc' := 443) (v := 1) kc_195_442 rfl rfl ?_
                  refine xi_iadd (pc' := 444) (v := v1) kc_195_443 rfl ev1 ?_
                  refine xi_ialoadO (pc' := 445) (v := a2) kc_195_444 rfl (by decide) hov0 (xi_in (by omega) (by omega)) ea2 ?_
                  refine xi_aload_n (pc' := 446) (x := 1000000) kc_195_445 rfl rfl ?_
                  refine xi_iload (pc' := 448) (x := x4) kc_195_446 rfl rfl ?_
                  refine xi_iconst (pc' := 449) (v := 2) kc_195_448 rfl rfl ?_
                  refine xi_iadd (pc' := 450) (v := v3) kc_195_449 rfl ev3 ?_
                  refine xi_ialoadO (pc' := 451) (v := a4) kc_195_450 rfl (by decide) hov0 (xi_in (by omega) (by omega)) ea4 ?_
                  refine xi_aload_n (pc' := 452) (x := 1000000) kc_195_451 rfl rfl ?_
                  refine xi_iload (pc' := 454) (x := x4) kc_195_452 rfl rfl ?_
                  refine xi_iconst (pc' := 455) (v := 3) kc_195_454 rfl rfl ?_
                  refine xi_iadd (pc' := 456) (v := v5) kc_195_455 rfl ev5 ?_
                  refine xi_ialoadO (pc' := 457) (v := a6) kc_195_456 rfl (by decide) hov0 (xi_in (by omega) (by omega)) ea6 ?_
                  refine xi_aload_n (pc' := 458) (x := 1000000) kc_195_457 rfl rfl ?_
                  refine xi_iload (pc' := 460) (x := x4) kc_195_458 rfl rfl ?_
                  refine xi_iconst (pc' := 461) (v := 4) kc_195_460 rfl rfl ?_
                  refine xi_iadd (pc' := 462) (v := v7) kc_195_461 rfl ev7 ?_
                  refine xi_ialoadO (pc' := 463) (v := a8) kc_195_462 rfl (by decide) hov0 (xi_in (by omega) (by omega)) ea8 ?_
                  refine xi_ift (pc' := 470) kc_195_463 rfl (xc_eq_t (X := a8.toInt) (Y := 0) rfl (by decide) (by omega)) ?_
                  refine xi_iconst (pc' := 471) (v := 0) kc_195_470 rfl rfl ?_
                  obtain ⟨u190, u191, u192, u193, u194, u195, u196, u197, u198, u199, u200, u201, u202, bu190, bu191, bu192, bu193, bu194, bu195, bu196, bu197, bu198, bu199, bu200, bu201, bu202, A203⟩ := xq_115 K.1
                  have A204 := ((eh186.2.1 115 (xk_nc mpt164 rfl)).trans ((eh182.2.1 115 (xk_nc mpt164 rfl)).trans ((eh178.2.1 115 (xk_nc mpt164 rfl)).trans ((eh154.2.1 115 (by decide)).trans A203))))
                  refine xi_virtual (mj := 23) (as := [.int a2, .int a4, .int a6, .int 0]) (st1 := []) (lv0 := [(0, .ref 115), (1, .int a2), (2, .int a4), (3, .int a6), (4, .int 0)]) kc_195_471 rfl rfl rfl rfl rfl A204 (Nat.le_of_ble_eq_true rfl) (hJ _ _ _ _ (by decide)) (xm_le ml_23 rfl) rfl ?_
                  refine xi_aload_n (pc' := 1) (x := 115) kc_23_0 rfl rfl ?_
                  refine xi_iconst (pc' := 2) (v := 0) kc_23_1 rfl rfl ?_
                  refine xi_putfield (pc' := 5) (fs' := [.int 0, .int u191, .ref 116, .ref 117, .ref 118, .ref 119, .ref 120, .ref 121, .ref 122, .ref 123, .ref 124, .ref 125, .ref 126, .ref 127, .ref 128, .ref 129, .int u192, .ref 130, .int u193, .ref 131, .ref 132, .ref 133, .ref 134, .int u194, .ref 135, .ref 136, .ref 137, .ref 138, .ref 139, .ref 140, .ref 141, .ref 142, .int u195, .int u196, .int u197, .ref 143, .ref 144, .ref 145, .ref 146, .ref 147, .ref 148, .int u198, .ref 149, .ref 150, .ref 151, .int u199, .ref 152, .ref 153, .ref 154, .ref 155, .ref 156, .ref 157, .ref 158, .ref 159, .int u200, .ref 160, .int u201, .ref 161, .ref 162, .ref 163, .ref 164, .int u202, .ref 165, .ref 166]) kc_23_2 rfl rfl rfl A204 rfl rfl rfl (Nat.le_of_ble_eq_true rfl) rfl (fun hh206 eh205 => ?_)
                  have K207 := xk_pf (k := 0) (v := 0) K189 (xk_wf (by decide +kernel)) xD_115 A204 rfl (by first | omega | decide) (by first | omega | decide) eh205 rfl
                  refine xi_iload_n (pc' := 6) (x := a2) kc_23_5 rfl rfl ?_
                  refine xi_static (mj := 24) (as := [.int a2]) (st1 := []) (lv0 := [(0, .int a2)]) kc_23_6 rfl rfl (Nat.le_of_ble_eq_true rfl) rfl rfl (Nat.le_of_ble_eq_true rfl) (hJ _ _ _ _ (by decide)) (xm_le ml_24 rfl) rfl ?_
                  refine xi_iload_n (pc' := 1) (x := a2) kc_24_0 rfl rfl ?_
                  refine xi_iconst (pc' := 2) (v := 0) kc_24_1 rfl rfl ?_
                  refine xi_bipush (pc' := 4) (v := 11) kc_24_2 rfl rfl ?_
                  refine xi_static (mj := 11) (as := [.int a2, .int 0, .int 11]) (st1 := []) (lv0 := [(0, .int a2), (1, .int 0), (2, .int 11)]) kc_24_4 rfl rfl (Nat.le_of_ble_eq_true rfl) rfl rfl (Nat.le_of_ble_eq_true rfl) (hJ _ _ _ _ (by decide)) (xm_le ml_11 rfl) rfl ?_
                  refine xi_iload_n (pc' := 1) (x := a2) kc_11_0 rfl rfl ?_
                  refine xi_iload_n (pc' := 2) (x := 0) kc_11_1 rfl rfl ?_
                  refine xi_cmf (pc' := 5) kc_11_2 rfl (xc_lt_f (X := a2.toInt) (Y := 0) rfl (by decide) (by omega)) ?_
                  refine xi_iload_n (pc' := 6) (x := a2) kc_11_5 rfl rfl ?_
                  refine xi_iload_n (pc' := 7) (x := 11) kc_11_6 rfl rfl ?_
                  refine xi_cmf (pc' := 10) kc_11_7 rfl (xc_gt_f (X := a2.toInt) (Y := 11) rfl (by decide) (by omega)) ?_
                  refine xi_iconst (pc' := 11) (v := 1) kc_11_10 rfl rfl ?_
                  refine xi_goto (pc' := 15) kc_11_11 rfl ?_
                  refine xi_ireturn kc_11_15 mr_11 rfl ?_
                  show xw J ov 98 24 (7, [(0, .int a2)], [.int 1], hh206) _
                  refine xi_ireturn kc_24_7 mr_24 rfl ?_
                  show xw J ov 99 23 (9, [(0, .ref 115), (1, .int a2), (2, .int a4), (3, .int a6), (4, .int 0)], [.int 1], hh206) _
                  refine xi_iff (pc' := 12) kc_23_9 rfl rfl ?_
                  refine xi_iload_n (pc' := 13) (x := a4) kc_23_12 rfl rfl ?_
                  refine xi_static (mj := 10) (as := [.int a4]) (st1 := []) (lv0 := [(0, .int a4)]) kc_23_13 rfl rfl (Nat.le_of_ble_eq_true rfl) rfl rfl (Nat.le_of_ble_eq_true rfl) (hJ _ _ _ _ (by decide)) (xm_le ml_10 rfl) rfl ?_
                  refine xi_iload_n (pc' := 1) (x := a4) kc_10_0 rfl rfl ?_
                  refine xi_iconst (pc' := 2) (v := 0) kc_10_1 rfl rfl ?_
                  refine xi_iconst (pc' := 3) (v := 5) kc_10_2 rfl rfl ?_
                  refine xi_static (mj := 11) (as := [.int a4, .int 0, .int 5]) (st1 := []) (lv0 := [(0, .int a4), (1, .int 0), (2, .int 5)]) kc_10_3 rfl rfl (Nat.le_of_ble_eq_true rfl) rfl rfl (Nat.le_of_ble_eq_true rfl) (hJ _ _ _ _ (by decide)) (xm_le ml_11 rfl) rfl ?_
                  refine xi_iload_n (pc' := 1) (x := a4) kc_11_0 rfl rfl ?_
                  refine xi_iload_n (pc' := 2) (x := 0) kc_11_1 rfl rfl ?_
                  refine xi_cmf (pc' := 5) kc_11_2 rfl (xc_lt_f (X := a4.toInt) (Y := 0) rfl (by decide) (by omega)) ?_
                  refine xi_iload_n (pc' := 6) (x := a4) kc_11_5 rfl rfl ?_
                  refine xi_iload_n (pc' := 7) (x := 5) kc_11_6 rfl rfl ?_
                  refine xi_cmf (pc' := 10) kc_11_7 rfl (xc_gt_f (X := a4.toInt) (Y := 5) rfl (by decide) (by omega)) ?_
                  refine xi_iconst (pc' := 11) (v := 1) kc_11_10 rfl rfl ?_
                  refine xi_goto (pc' := 15) kc_11_11 rfl ?_
                  refine xi_ireturn kc_11_15 mr_11 rfl ?_
                  show xw J ov 98 10 (6, [(0, .int a4)], [.int 1], hh206) _
                  refine xi_ireturn kc_10_6 mr_10 rfl ?_
                  show xw J ov 99 23 (16, [(0, .ref 115), (1, .int a2), (2, .int a4), (3, .int a6), (4, .int 0)], [.int 1], hh206) _
                  refine xi_ift (pc' := 25) kc_23_16 rfl rfl ?_
                  refine xi_iload_n (pc' := 26) (x := a6) kc_23_25 rfl rfl ?_
                  refine xi_ift (pc' := 36) kc_23_26 rfl (xc_ge_t (X := a6.toInt) (Y := 0) rfl (by decide) (by omega)) ?_
                  refine xi_iload_n (pc' := 37) (x := a6) kc_23_36 rfl rfl ?_
                  refine xi_bipush (pc' := 39) (v := 100) kc_23_37 rfl rfl ?_
                  refine xi_cmt (pc' := 49) kc_23_39 rfl (xc_le_t (X := a6.toInt) (Y := 100) rfl (by decide) (by omega)) ?_
                  refine xi_aload_n (pc' := 50) (x := 115) kc_23_49 rfl rfl ?_
                  refine xi_getfield (pc' := 53) (v := .ref 125) kc_23_50 rfl rfl rfl eh205.1 rfl ?_
                  refine xi_iload_n (pc' := 54) (x := a2) kc_23_53 rfl rfl ?_
                  have A208 := ((eh205.2.1 125 (by decide)).trans ((eh186.2.1 125 (xk_nc mpt164 rfl)).trans ((eh182.2.1 125 (xk_nc mpt164 rfl)).trans ((eh178.2.1 125 (xk_nc mpt164 rfl)).trans ((eh154.2.1 125 (by decide)).trans A172)))))
                  refine xi_iaload (pc' := 55) (v := u166) kc_23_54 rfl A208 (by decide) rfl (xi_in (by omega) (by rw [hy172]; omega)) HG173 ?_
                  refine xi_ift (pc' := 62) kc_23_55 rfl (xc_lt_t (X := u166.toInt) (Y := 0) rfl (by decide) (by omega)) ?_
                  refine xi_iconst (pc' := 63) (v := 0) kc_23_62 rfl rfl ?_
                  refine xi_istore (pc' := 65) (lv' := [(5, .int 0), (0, .ref 115), (1, .int a2), (2, .int a4), (3, .int a6), (4, .int 0)]) kc_23_63 rfl rfl (xm_lt ml_23 rfl) ?_
                  refine xi_aload_n (pc' := 66) (x := 115) kc_23_65 rfl rfl ?_
                  refine xi_getfield (pc' := 69) (v := .ref 125) kc_23_66 rfl rfl rfl eh205.1 rfl ?_
                  refine xi_iload_n (pc' := 70) (x := a2) kc_23_69 rfl rfl ?_
                  refine xi_iload_n (pc' := 71) (x := a4) kc_23_70 rfl rfl ?_
                  obtain ⟨y209, s209, hy209, ry209⟩ := xj_set (v := a4) hy172 ry172 a2 (by first | omega | decide) (by first | omega | decide)
                  refine xi_iastore (pc' := 72) (x' := y209) kc_23_71 rfl A208 rfl (xi_in (by omega) (by rw [hy172]; omega)) s209 (fun hh209 eh209 => ?_)
                  have K210 := xk_pa K207 (xk_wa (by decide +kernel)) xD_125 hy209 ry209 eh209
                  refine xi_aload_n (pc' := 73) (x := 115) kc_23_72 rfl rfl ?_
                  have A211 := ((eh209.2.1 115 (by decide)).trans eh205.1)
                  refine xi_getfield (pc' := 76) (v := .ref 126) kc_23_73 rfl rfl rfl A211 rfl ?_
                  refine xi_iload_n (pc' := 77) (x := a2) kc_23_76 rfl rfl ?_
                  refine xi_iload_n (pc' := 78) (x := a6) kc_23_77 rfl rfl ?_
                  obtain ⟨y212, A212, hy212, ry212⟩ := xk_arr K.1 xD_126
                  have A213 := ((eh209.2.1 126 (by decide)).trans ((eh205.2.1 126 (by decide)).trans ((eh186.2.1 126 (xk_nc mpt164 rfl)).trans ((eh182.2.1 126 (xk_nc mpt164 rfl)).trans ((eh178.2.1 126 (xk_nc mpt164 rfl)).trans ((eh154.2.1 126 (by decide)).trans A212))))))
                  obtain ⟨y214, s214, hy214, ry214⟩ := xj_set (v := a6) hy212 ry212 a2 (by first | omega | decide) (by first | omega | decide)
                  refine xi_iastore (pc' := 79) (x' := y214) kc_23_78 rfl A213 rfl (xi_in (by omega) (by rw [hy212]; omega)) s214 (fun hh214 eh214 => ?_)
                  have K215 := xk_pa K210 (xk_wa (by decide +kernel)) xD_126 hy214 ry214 eh214
                  refine xi_aload_n (pc' := 80) (x := 115) kc_23_79 rfl rfl ?_
                  have A216 := ((eh214.2.1 115 (by decide)).trans A211)
                  refine xi_getfield (pc' := 83) (v := .ref 127) kc_23_80 rfl rfl rfl A216 rfl ?_
                  refine xi_iload_n (pc' := 84) (x := a2) kc_23_83 rfl rfl ?_
                  refine xi_iload (pc' := 86) (x := 0) kc_23_84 rfl rfl ?_
                  have A217 := ((eh214.2.1 127 (by decide)).trans ((eh209.2.1 127 (by decide)).trans ((eh205.2.1 127 (by decide)).trans ((eh186.2.1 127 (xk_nc mpt164 rfl)).trans ((eh182.2.1 127 (xk_nc mpt164 rfl)).trans ((eh178.2.1 127 (xk_nc mpt164 rfl)).trans ((eh154.2.1 127 (by decide)).trans A174)))))))
                  obtain ⟨y218, s218, hy218, ry218⟩ := xj_set (v := 0) hy174 ry174 a2 (by first | omega | decide) (by first | omega | decide)
                  refine xi_bastore (pc' := 87) (x' := y218) kc_23_86 rfl A217 rfl (xi_in (by omega) (by rw [hy174]; omega)) s218 (fun hh218 eh218 => ?_)
                  have K219 := xk_pa K215 (xk_wa (by decide +kernel)) xD_127 hy218 ry218 eh218
                  refine xi_aload_n (pc' := 88) (x := 115) kc_23_87 rfl rfl ?_
                  refine xi_iconst (pc' := 89) (v := 0) kc_23_88 rfl rfl ?_
                  have A220 := ((eh218.2.1 115 (by decide)).trans A216)
                  refine xi_putfield (pc' := 92) (fs' := [.int 0, .int u191, .ref 116, .ref 117, .ref 118, .ref 119, .ref 120, .ref 121, .ref 122, .ref 123, .ref 124, .ref 125, .ref 126, .ref 127, .ref 128, .ref 129, .int u192, .ref 130, .int u193, .ref 131, .ref 132, .ref 133, .ref 134, .int u194, .ref 135, .ref 136, .ref 137, .ref 138, .ref 139, .ref 140, .ref 141, .ref 142, .int u195, .int u196, .int u197, .ref 143, .ref 144, .ref 145, .ref 146, .ref 147, .ref 148, .int 0, .ref 149, .ref 150, .ref 151, .int u199, .ref 152, .ref 153, .ref 154, .ref 155, .ref 156, .ref 157, .ref 158, .ref 159, .int u200, .ref 160, .int u201, .ref 161, .ref 162, .ref 163, .ref 164, .int u202, .ref 165, .ref 166]) kc_23_89 rfl rfl rfl A220 rfl rfl rfl (Nat.le_of_ble_eq_true rfl) rfl (fun hh222 eh221 => ?_)
                  have K223 := xk_pf (k := 41) (v := 0) K219 (xk_wf (by decide +kernel)) xD_115 A220 rfl (by first | omega | decide) (by first | omega | decide) eh221 rfl
                  refine xi_iload (pc' := 94) (x := 0) kc_23_92 rfl rfl ?_
                  refine xi_ift (pc' := 101) kc_23_94 rfl rfl ?_
                  refine xi_iconst (pc' := 102) (v := 1) kc_23_101 rfl rfl ?_
                  refine xi_ireturn kc_23_102 mr_23 rfl ?_
                  show xw J ov 100 195 (474, [(4, .int x4), (3, .ref 167), (2, .ref 115), (1, .ref 0), (0, .ref 1000000)], [.int 1], hh222) _
                  refine xi_pop (pc' := 475) kc_195_474 rfl rfl ?_
                  refine xi_goto (pc' := 1501) kc_195_475 rfl ?_
                  obtain ⟨v224, ev224⟩ : ∃ q : Int32, x4 + 6 = q := ⟨_, rfl⟩
                  have zv224 : v224.toInt = (x4.toInt + 6) := by rw [← ev224]; exact (xz_add (X := x4.toInt) (Y := 6) rfl (by decide) (by omega) (by omega)).trans (by omega)
                  refine xi_iinc (pc' := 1504) (x := x4) (v := v224) (lv' := [(4, .int v224), (3, .ref 167), (2, .ref 115), (1, .ref 0), (0, .ref 1000000)]) kc_195_1501 rfl rfl ev224 rfl (xm_lt ml_195 rfl) ?_
                  refine xi_goto (pc' := 23) kc_195_1504 rfl ?_
                  have A225 := ((eh221.2.1 pt164 (Ne.symm (xk_nc mpt164 rfl))).trans ((eh218.2.1 pt164 (Ne.symm (xk_nc mpt164 rfl))).trans ((eh214.2.1 pt164 (Ne.symm (xk_nc mpt164 rfl))).trans ((eh209.2.1 pt164 (Ne.symm (xk_nc mpt164 rfl))).trans ((eh205.2.1 pt164 (Ne.symm (xk_nc mpt164 rfl))).trans eh186.1)))))
                  have A226 := ((eh221.2.1 125 (by decide)).trans ((eh218.2.1 125 (by decide)).trans ((eh214.2.1 125 (by decide)).trans eh209.1)))
                  have A227 := ((eh221.2.1 127 (by decide)).trans eh218.1)
                  exact kk v224 hh222 (by omega) K223 ⟨((K223.2.1 (0, 9) (by decide +kernel)).trans (I.1.trans (K223.2.1 (115, 1) (by decide +kernel)).symm)), (xWW_fr I.2.1 (K223.2.1 (64, 0) (by decide +kernel)) (K223.2.1 (121, 0) (by decide +kernel))), (xSG_fr I.2.2.1 (fun l hl => K223.2.1 l (xk_el (by decide +kernel) hl))), (by rw [(K223.2.1 (13, 0) (by decide +kernel)), (K223.2.1 (122, 0) (by decide +kernel))]; exact I.2.2.2.1), (by rw [(K223.2.1 (16, 0) (by decide +kernel)), (K223.2.1 (122, 0) (by decide +kernel))]; exact I.2.2.2.2.1), (by rw [(K223.2.1 (19, 0) (by decide +kernel)), (K223.2.1 (122, 0) (by decide +kernel))]; exact I.2.2.2.2.2.1), (by rw [(K223.2.1 (22, 0) (by decide +kernel)), (K223.2.1 (122, 0) (by decide +kernel))]; exact I.2.2.2.2.2.2.1), (by rw [(K223.2.1 (25, 0) (by decide +kernel)), (K223.2.1 (122, 0) (by decide +kernel))]; exact I.2.2.2.2.2.2.2.1), (by rw [(K223.2.1 (28, 0) (by decide +kernel)), (K223.2.1 (122, 0) (by decide +kernel))]; exact I.2.2.2.2.2.2.2.2.1), (by rw [(K223.2.1 (6, 0) (by decide +kernel)), (K223.2.1 (123, 0) (by decide +kernel))]; exact I.2.2.2.2.2.2.2.2.2.1), (by rw [(K223.2.1 (9, 0) (by decide +kernel)), (K223.2.1 (124, 0) (by decide +kernel))]; exact I.2.2.2.2.2.2.2.2.2.2.1), (by rw [(K223.2.1 (7, 0) (by decide +kernel)), (K223.2.1 (6, 0) (by decide +kernel))]; exact I.2.2.2.2.2.2.2.2.2.2.2.1), (by rw [(K223.2.1 (10, 0) (by decide +kernel)), (K223.2.1 (9, 0) (by decide +kernel))]; exact I.2.2.2.2.2.2.2.2.2.2.2.2.1), ((K223.2.1 (5, 0) (by decide +kernel)).trans I.2.2.2.2.2.2.2.2.2.2.2.2.2.1), ((K223.2.1 (8, 0) (by decide +kernel)).trans I.2.2.2.2.2.2.2.2.2.2.2.2.2.2.1), (xGR_set (Lo := [some 29, some 31, some 33, some 35, some 37, some 39, some 41, some 43, some 45, some 47, some 49, some 51]) I.2.2.2.2.2.2.2.2.2.2.2.2.2.2.2.1 (by decide) rfl ept164 (by omega) (by show _ < ((12 : Nat) : Int); omega) A172 (by rw [hy172]; decide) A225 rfl A226 s209 (fun c hc hne => ((eh221.2.1 c (Ne.symm (xk_nc hc rfl))).trans ((eh218.2.1 c (Ne.symm (xk_nc hc rfl))).trans ((eh214.2.1 c (Ne.symm (xk_nc hc rfl))).trans ((eh209.2.1 c (Ne.symm (xk_nc hc rfl))).trans ((eh205.2.1 c (Ne.symm (xk_nc hc rfl))).trans ((eh186.2.1 c hne).trans ((eh182.2.1 c hne).trans ((eh178.2.1 c hne).trans (eh154.2.1 c (Ne.symm (xk_nc hc rfl))))))))))))), (xGR_set (Lo := [some 29, some 31, some 33, some 35, some 37, some 39, some 41, some 43, some 45, some 47, some 49, some 51]) I.2.2.2.2.2.2.2.2.2.2.2.2.2.2.2.2.1 (by decide) rfl ept164 (by omega) (by show _ < ((12 : Nat) : Int); omega) A174 (by rw [hy174]; decide) A225 rfl A227 s218 (fun c hc hne => ((eh221.2.1 c (Ne.symm (xk_nc hc rfl))).trans ((eh218.2.1 c (Ne.symm (xk_nc hc rfl))).trans ((eh214.2.1 c (Ne.symm (xk_nc hc rfl))).trans ((eh209.2.1 c (Ne.symm (xk_nc hc rfl))).trans ((eh205.2.1 c (Ne.symm (xk_nc hc rfl))).trans ((eh186.2.1 c hne).trans ((eh182.2.1 c hne).trans ((eh178.2.1 c hne).trans (eh154.2.1 c (Ne.symm (xk_nc hc rfl))))))))))))), ((K223.2.1 (1, 5) (by decide +kernel)).trans (I.2.2.2.2.2.2.2.2.2.2.2.2.2.2.2.2.2.1.trans (K223.2.1 (115, 23) (by decide +kernel)).symm)), (xGR_fr I.2.2.2.2.2.2.2.2.2.2.2.2.2.2.2.2.2.2.1 K223.2.1 (by decide +kernel) (by decide +kernel)), (xGR_fr I.2.2.2.2.2.2.2.2.2.2.2.2.2.2.2.2.2.2.2.1 K223.2.1 (by decide +kernel) (by decide +kernel)), (xGR_fr I.2.2.2.2.2.2.2.2.2.2.2.2.2.2.2.2.2.2.2.2.1 K223.2.1 (by decide +kernel) (by decide +kernel)), (xGR_fr I.2.2.2.2.2.2.2.2.2.2.2.2.2.2.2.2.2.2.2.2.2.1 K223.2.1 (by decide +kernel) (by decide +kernel)), (by rw [(K223.2.1 (63, 2) (by decide +kernel)), (K223.2.1 (139, 0) (by decide +kernel)), (K223.2.1 (1, 5) (by decide +kernel))]; exact I.2.2.2.2.2.2.2.2.2.2.2.2.2.2.2.2.2.2.2.2.2.2.1), ((K223.2.1 (0, 8) (by decide +kernel)).trans (I.2.2.2.2.2.2.2.2.2.2.2.2.2.2.2.2.2.2.2.2.2.2.2.1.trans (K223.2.1 (115, 34) (by decide +kernel)).symm)), (xGR_fr I.2.2.2.2.2.2.2.2.2.2.2.2.2.2.2.2.2.2.2.2.2.2.2.2.1 K223.2.1 (by decide +kernel) (by decide +kernel)), (xGR_fr I.2.2.2.2.2.2.2.2.2.2.2.2.2.2.2.2.2.2.2.2.2.2.2.2.2.1 K223.2.1 (by decide +kernel) (by decide +kernel)), (xGR_fr I.2.2.2.2.2.2.2.2.2.2.2.2.2.2.2.2.2.2.2.2.2.2.2.2.2.2.1 K223.2.1 (by decide +kernel) (by decide +kernel)), (xGR_fr I.2.2.2.2.2.2.2.2.2.2.2.2.2.2.2.2.2.2.2.2.2.2.2.2.2.2.2.1 K223.2.1 (by decide +kernel) (by decide +kernel)), (xts_fr I.2.2.2.2.2.2.2.2.2.2.2.2.2.2.2.2.2.2.2.2.2.2.2.2.2.2.2.2.1 (fun l hl => K223.2.1 l (xk_el (by decide +kernel) hl))), ((K223.2.1 (63, 3) (by decide +kernel)).trans I.2.2.2.2.2.2.2.2.2.2.2.2.2.2.2.2.2.2.2.2.2.2.2.2.2.2.2.2.2)⟩
                · refine xi_iff (pc' := 4) kc_89_1 rfl (xc_lt_f (X := u166.toInt) (Y := 0) rfl (by decide) (by omega)) ?_
                  refine xi_iload_n (pc' := 5) (x := u166) kc_89_4 rfl rfl ?_
                  refine xi_bipush (pc' := 7) (v := 6) kc_89_5 rfl rfl ?_
                  refine xi_cmf (pc' := 10) kc_89_7 rfl (xc_ge_f (X := u166.toInt) (Y := 6) rfl (by decide) (by omega)) ?_
                  refine xi_iconst (pc' := 11) (v := 1) kc_89_10 rfl rfl ?_
                  refine xi_goto (pc' := 15) kc_89_11 rfl ?_
                  refine xi_ireturn kc_89_15 mr_89 rfl ?_
                  show xw J ov 98 105 (7, [(0, .ref pt164)], [.int 1], hh155) _
                  refine xi_ireturn kc_105_7 mr_105 rfl ?_
                  show xw J ov 99 103 (67, [(5, .ref pt164), (0, .ref 0), (1, .int a2), (2, .int a4), (3, .int a6), (4, .int 0)], [.int 1], hh155) _
                  refine xi_iff (pc' := 70) kc_103_67 rfl rfl ?_
                  refine xi_iconst (pc' := 71) (v := 0) kc_103_70 rfl rfl ?_
                  refine xi_goto (pc' := 75) kc_103_71 rfl ?_
                  refine xi_istore (pc' := 77) (lv' := [(6, .int 0), (5, .ref pt164), (0, .ref 0), (1, .int a2), (2, .int a4), (3, .int a6), (4, .int 0)]) kc_103_75 rfl rfl (xm_lt ml_103 rfl) ?_
                  refine xi_aload (pc' := 79) (x := pt164) kc_103_77 rfl rfl ?_
                  refine xi_iload_n (pc' := 80) (x := a4) kc_103_79 rfl rfl ?_
                  refine xi_putfield (pc' := 83) (fs' := [.int a4, .int u167, .int u168, .int u169, .ref pt170]) kc_103_80 rfl rfl rfl A176 rfl rfl rfl (Nat.le_of_ble_eq_true rfl) rfl (fun hh229 eh228 => ?_)
                  obtain ⟨ds230, Dds230, dds230_0, dds230_1, dds230_2, dds230_3⟩ := xGo_wall mpt164
                  have K231 := xk_pf (k := 0) (v := a4) K156 (xk_gf mpt164 (by decide +kernel)) Dds230 A176 dds230_0 (by first | omega | decide) (by first | omega | decide) eh228 rfl
                  refine xi_aload (pc' := 85) (x := pt164) kc_103_83 rfl rfl ?_
                  refine xi_iload_n (pc' := 86) (x := a6) kc_103_85 rfl rfl ?_
                  refine xi_putfield (pc' := 89) (fs' := [.int a4, .int a6, .int u168, .int u169, .ref pt170]) kc_103_86 rfl rfl rfl eh228.1 rfl rfl rfl (Nat.le_of_ble_eq_true rfl) rfl (fun hh233 eh232 => ?_)
                  obtain ⟨ds234, Dds234, dds234_0, dds234_1, dds234_2, dds234_3⟩ := xGo_wall mpt164
                  have K235 := xk_pf (k := 1) (v := a6) K231 (xk_gf mpt164 (by decide +kernel)) Dds234 eh228.1 dds234_1 (by first | omega | decide) (by first | omega | decide) eh232 rfl
                  refine xi_aload (pc' := 91) (x := pt164) kc_103_89 rfl rfl ?_
                  refine xi_iload (pc' := 93) (x := 0) kc_103_91 rfl rfl ?_
                  refine xi_putfield (pc' := 96) (fs' := [.int a4, .int a6, .int 0, .int u169, .ref pt170]) kc_103_93 rfl rfl rfl eh232.1 rfl rfl rfl (Nat.le_of_ble_eq_true rfl) rfl (fun hh237 eh236 => ?_)
                  obtain ⟨ds238, Dds238, dds238_0, dds238_1, dds238_2, dds238_3⟩ := xGo_wall mpt164
                  have K239 := xk_pf (k := 2) (v := 0) K235 (xk_gf mpt164 (by decide +kernel)) Dds238 eh232.1 dds238_2 (by first | omega | decide) (by first | omega | decide) eh236 rfl
                  refine xi_iload (pc' := 98) (x := 0) kc_103_96 rfl rfl ?_
                  refine xi_ireturn kc_103_98 mr_103 rfl ?_
                  show xw J ov 100 195 (437, [(4, .int x4), (3, .ref 167), (2, .ref 115), (1, .ref 0), (0, .ref 1000000)], [.int 0], hh237) _
                  refine xi_pop (pc' := 438) kc_195_437 rfl rfl ?_
                  refine xi_aload_n (pc' := 439) (x := 115) kc_195_438 rfl rfl ?_
                  refine xi_aload_n (pc' := 440) (x := 1000000) kc_195_439 rfl rfl ?_
                  refine xi_iload (pc' := 442) (x := x4) kc_195_440 rfl rfl ?_
                  refine xi_iconst (pc' := 443) (v := 1) kc_195_442 rfl rfl ?_
                  refine xi_iadd (pc' := 444) (v := v1) kc_195_443 rfl ev1 ?_
                  refine xi_ialoadO (pc' := 445) (v := a2) kc_195_444 rfl (by decide) hov0 (xi_in (by omega) (by omega)) ea2 ?_
                  refine xi_aload_n (pc' := 446) (x := 1000000) kc_195_445 rfl rfl ?_
                  refine xi_iload (pc' := 448) (x := x4) kc_195_446 rfl rfl ?_
                  refine xi_iconst (pc' := 449) (v := 2) kc_195_448 rfl rfl ?_
                  refine xi_iadd (pc' := 450) (v := v3) kc_195_449 rfl ev3 ?_
                  refine xi_ialoadO (pc' := 451) (v := a4) kc_195_450 rfl (by decide) hov0 (xi_in (by omega) (by omega)) ea4 ?_
                  refine xi_aload_n (pc' := 452) (x := 1000000) kc_195_451 rfl rfl ?_
                  refine xi_iload (pc' := 454) (x := x4) kc_195_452 rfl rfl ?_
                  refine xi_iconst (pc' := 455) (v := 3) kc_195_454 rfl rfl ?_
                  refine xi_iadd (pc' := 456) (v := v5) kc_195_455 rfl ev5 ?_
                  refine xi_ialoadO (pc' := 457) (v := a6) kc_195_456 rfl (by decide) hov0 (xi_in (by omega) (by omega)) ea6 ?_
                  refine xi_aload_n (pc' := 458) (x := 1000000) kc_195_457 rfl rfl ?_
                  refine xi_iload (pc' := 460) (x := x4) kc_195_458 rfl rfl ?_
                  refine xi_iconst (pc' := 461) (v := 4) kc_195_460 rfl rfl ?_
                  refine xi_iadd (pc' := 462) (v := v7) kc_195_461 rfl ev7 ?_
                  refine xi_ialoadO (pc' := 463) (v := a8) kc_195_462 rfl (by decide) hov0 (xi_in (by omega) (by omega)) ea8 ?_
                  refine xi_ift (pc' := 470) kc_195_463 rfl (xc_eq_t (X := a8.toInt) (Y := 0) rfl (by decide) (by omega)) ?_
                  refine xi_iconst (pc' := 471) (v := 0) kc_195_470 rfl rfl ?_
                  obtain ⟨u240, u241, u242, u243, u244, u245, u246, u247, u248, u249, u250, u251, u252, bu240, bu241, bu242, bu243, bu244, bu245, bu246, bu247, bu248, bu249, bu250, bu251, bu252, A253⟩ := xq_115 K.1
                  have A254 := ((eh236.2.1 115 (xk_nc mpt164 rfl)).trans ((eh232.2.1 115 (xk_nc mpt164 rfl)).trans ((eh228.2.1 115 (xk_nc mpt164 rfl)).trans ((eh154.2.1 115 (by decide)).trans A253))))
                  refine xi_virtual (mj := 23) (as := [.int a2, .int a4, .int a6, .int 0]) (st1 := []) (lv0 := [(0, .ref 115), (1, .int a2), (2, .int a4), (3, .int a6), (4, .int 0)]) kc_195_471 rfl rfl rfl rfl rfl A254 (Nat.le_of_ble_eq_true rfl) (hJ _ _ _ _ (by decide)) (xm_le ml_23 rfl) rfl ?_
                  refine xi_aload_n (pc' := 1) (x := 115) kc_23_0 rfl rfl ?_
                  refine xi_iconst (pc' := 2) (v := 0) kc_23_1 rfl rfl ?_
                  refine xi_putfield (pc' := 5) (fs' := [.int 0, .int u241, .ref 116, .ref 117, .ref 118, .ref 119, .ref 120, .ref 121, .ref 122, .ref 123, .ref 124, .ref 125, .ref 126, .ref 127, .ref 128, .ref 129, .int u242, .ref 130, .int u243, .ref 131, .ref 132, .ref 133, .ref 134, .int u244, .ref 135, .ref 136, .ref 137, .ref 138, .ref 139, .ref 140, .ref 141, .ref 142, .int u245, .int u246, .int u247, .ref 143, .ref 144, .ref 145, .ref 146, .ref 147, .ref 148, .int u248, .ref 149, .ref 150, .ref 151, .int u249, .ref 152, .ref 153, .ref 154, .ref 155, .ref 156, .ref 157, .ref 158, .ref 159, .int u250, .ref 160, .int u251, .ref 161, .ref 162, .ref 163, .ref 164, .int u252, .ref 165, .ref 166]) kc_23_2 rfl rfl rfl A254 rfl rfl rfl (Nat.le_of_ble_eq_true rfl) rfl (fun hh256 eh255 => ?_)
                  have K257 := xk_pf (k := 0) (v := 0) K239 (xk_wf (by decide +kernel)) xD_115 A254 rfl (by first | omega | decide) (by first | omega | decide) eh255 rfl
                  refine xi_iload_n (pc' := 6) (x := a2) kc_23_5 rfl rfl ?_
                  refine xi_static (mj := 24) (as := [.int a2]) (st1 := []) (lv0 := [(0, .int a2)]) kc_23_6 rfl rfl (Nat.le_of_ble_eq_true rfl) rfl rfl (Nat.le_of_ble_eq_true rfl) (hJ _ _ _ _ (by decide)) (xm_le ml_24 rfl) rfl ?_
                  refine xi_iload_n (pc' := 1) (x := a2) kc_24_0 rfl rfl ?_
                  refine xi_iconst (pc' := 2) (v := 0) kc_24_1 rfl rfl ?_
                  refine xi_bipush (pc' := 4) (v := 11) kc_24_2 rfl rfl ?_
                  refine xi_static (mj := 11) (as := [.int a2, .int 0, .int 11]) (st1 := []) (lv0 := [(0, .int a2), (1, .int 0), (2, .int 11)]) kc_24_4 rfl rfl (Nat.le_of_ble_eq_true rfl) rfl rfl (Nat.le_of_ble_eq_true rfl) (hJ _ _ _ _ (by decide)) (xm_le ml_11 rfl) rfl ?_
                  refine xi_iload_n (pc' := 1) (x := a2) kc_11_0 rfl rfl ?_
                  refine xi_iload_n (pc' := 2) (x := 0) kc_11_1 rfl rfl ?_
                  refine xi_cmf (pc' := 5) kc_11_2 rfl (xc_lt_f (X := a2.toInt) (Y := 0) rfl (by decide) (by omega)) ?_
                  refine xi_iload_n (pc' := 6) (x := a2) kc_11_5 rfl rfl ?_
                  refine xi_iload_n (pc' := 7) (x := 11) kc_11_6 rfl rfl ?_
                  refine xi_cmf (pc' := 10) kc_11_7 rfl (xc_gt_f (X := a2.toInt) (Y := 11) rfl (by decide) (by omega)) ?_
                  refine xi_iconst (pc' := 11) (v := 1) kc_11_10 rfl rfl ?_
                  refine xi_goto (pc' := 15) kc_11_11 rfl ?_
                  refine xi_ireturn kc_11_15 mr_11 rfl ?_
                  show xw J ov 98 24 (7, [(0, .int a2)], [.int 1], hh256) _
                  refine xi_ireturn kc_24_7 mr_24 rfl ?_
                  show xw J ov 99 23 (9, [(0, .ref 115), (1, .int a2), (2, .int a4), (3, .int a6), (4, .int 0)], [.int 1], hh256) _
                  refine xi_iff (pc' := 12) kc_23_9 rfl rfl ?_
                  refine xi_iload_n (pc' := 13) (x := a4) kc_23_12 rfl rfl ?_
                  refine xi_static (mj := 10) (as := [.int a4]) (st1 := []) (lv0 := [(0, .int a4)]) kc_23_13 rfl rfl (Nat.le_of_ble_eq_true rfl) rfl rfl (Nat.le_of_ble_eq_true rfl) (hJ _ _ _ _ (by decide)) (xm_le ml_10 rfl) rfl ?_
                  refine xi_iload_n (pc' := 1) (x := a4) kc_10_0 rfl rfl ?_
                  refine xi_iconst (pc' := 2) (v := 0) kc_10_1 rfl rfl ?_
                  refine xi_iconst (pc' := 3) (v := 5) kc_10_2 rfl rfl ?_
                  refine xi_static (mj := 11) (as := [.int a4, .int 0, .int 5]) (st1 := []) (lv0 := [(0, .int a4), (1, .int 0), (2, .int 5)]) kc_10_3 rfl rfl (Nat.le_of_ble_eq_true rfl) rfl rfl (Nat.le_of_ble_eq_true rfl) (hJ _ _ _ _ (by decide)) (xm_le ml_11 rfl) rfl ?_
                  refine xi_iload_n (pc' := 1) (x := a4) kc_11_0 rfl rfl ?_
                  refine xi_iload_n (pc' := 2) (x := 0) kc_11_1 rfl rfl ?_
                  refine xi_cmf (pc' := 5) kc_11_2 rfl (xc_lt_f (X := a4.toInt) (Y := 0) rfl (by decide) (by omega)) ?_
                  refine xi_iload_n (pc' := 6) (x := a4) kc_11_5 rfl rfl ?_
                  refine xi_iload_n (pc' := 7) (x := 5) kc_11_6 rfl rfl ?_
                  refine xi_cmf (pc' := 10) kc_11_7 rfl (xc_gt_f (X := a4.toInt) (Y := 5) rfl (by decide) (by omega)) ?_
                  refine xi_iconst (pc' := 11) (v := 1) kc_11_10 rfl rfl ?_
                  refine xi_goto (pc' := 15) kc_11_11 rfl ?_
                  refine xi_ireturn kc_11_15 mr_11 rfl ?_
                  show xw J ov 98 10 (6, [(0, .int a4)], [.int 1], hh256) _
                  refine xi_ireturn kc_10_6 mr_10 rfl ?_
                  show xw J ov 99 23 (16, [(0, .ref 115), (1, .int a2), (2, .int a4), (3, .int a6), (4, .int 0)], [.int 1], hh256) _
                  refine xi_ift (pc' := 25) kc_23_16 rfl rfl ?_
                  refine xi_iload_n (pc' := 26) (x := a6) kc_23_25 rfl rfl ?_
                  refine xi_ift (pc' := 36) kc_23_26 rfl (xc_ge_t (X := a6.toInt) (Y := 0) rfl (by decide) (by omega)) ?_
                  refine xi_iload_n (pc' := 37) (x := a6) kc_23_36 rfl rfl ?_
                  refine xi_bipush (pc' := 39) (v := 100) kc_23_37 rfl rfl ?_
                  refine xi_cmt (pc' := 49) kc_23_39 rfl (xc_le_t (X := a6.toInt) (Y := 100) rfl (by decide) (by omega)) ?_
                  refine xi_aload_n (pc' := 50) (x := 115) kc_23_49 rfl rfl ?_
                  refine xi_getfield (pc' := 53) (v := .ref 125) kc_23_50 rfl rfl rfl eh255.1 rfl ?_
                  refine xi_iload_n (pc' := 54) (x := a2) kc_23_53 rfl rfl ?_
                  have A258 := ((eh255.2.1 125 (by decide)).trans ((eh236.2.1 125 (xk_nc mpt164 rfl)).trans ((eh232.2.1 125 (xk_nc mpt164 rfl)).trans ((eh228.2.1 125 (xk_nc mpt164 rfl)).trans ((eh154.2.1 125 (by decide)).trans A172)))))
                  refine xi_iaload (pc' := 55) (v := u166) kc_23_54 rfl A258 (by decide) rfl (xi_in (by omega) (by rw [hy172]; omega)) HG173 ?_
                  refine xi_iff (pc' := 58) kc_23_55 rfl (xc_lt_f (X := u166.toInt) (Y := 0) rfl (by decide) (by omega)) ?_
                  refine xi_iconst (pc' := 59) (v := 1) kc_23_58 rfl rfl ?_
                  refine xi_goto (pc' := 63) kc_23_59 rfl ?_
                  refine xi_istore (pc' := 65) (lv' := [(5, .int 1), (0, .ref 115), (1, .int a2), (2, .int a4), (3, .int a6), (4, .int 0)]) kc_23_63 rfl rfl (xm_lt ml_23 rfl) ?_
                  refine xi_aload_n (pc' := 66) (x := 115) kc_23_65 rfl rfl ?_
                  refine xi_getfield (pc' := 69) (v := .ref 125) kc_23_66 rfl rfl rfl eh255.1 rfl ?_
                  refine xi_iload_n (pc' := 70) (x := a2) kc_23_69 rfl rfl ?_
                  refine xi_iload_n (pc' := 71) (x := a4) kc_23_70 rfl rfl ?_
                  obtain ⟨y259, s259, hy259, ry259⟩ := xj_set (v := a4) hy172 ry172 a2 (by first | omega | decide) (by first | omega | decide)
                  refine xi_iastore (pc' := 72) (x' := y259) kc_23_71 rfl A258 rfl (xi_in (by omega) (by rw [hy172]; omega)) s259 (fun hh259 eh259 => ?_)
                  have K260 := xk_pa K257 (xk_wa (by decide +kernel)) xD_125 hy259 ry259 eh259
                  refine xi_aload_n (pc' := 73) (x := 115) kc_23_72 rfl rfl ?_
                  have A261 := ((eh259.2.1 115 (by decide)).trans eh255.1)
                  refine xi_getfield (pc' := 76) (v := .ref 126) kc_23_73 rfl rfl rfl A261 rfl ?_
                  refine xi_iload_n (pc' := 77) (x := a2) kc_23_76 rfl rfl ?_
                  refine xi_iload_n (pc' := 78) (x := a6) kc_23_77 rfl rfl ?_
                  obtain ⟨y262, A262, hy262, ry262⟩ := xk_arr K.1 xD_126
                  have A263 := ((eh259.2.1 126 (by decide)).trans ((eh255.2.1 126 (by decide)).trans ((eh236.2.1 126 (xk_nc mpt164 rfl)).trans ((eh232.2.1 126 (xk_nc mpt164 rfl)).trans ((eh228.2.1 126 (xk_nc mpt164 rfl)).trans ((eh154.2.1 126 (by decide)).trans A262))))))
                  obtain ⟨y264, s264, hy264, ry264⟩ := xj_set (v := a6) hy262 ry262 a2 (by first | omega | decide) (by first | omega | decide)
                  refine xi_iastore (pc' := 79) (x' := y264) kc_23_78 rfl A263 rfl (xi_in (by omega) (by rw [hy262]; omega)) s264 (fun hh264 eh264 => ?_)
                  have K265 := xk_pa K260 (xk_wa (by decide +kernel)) xD_126 hy264 ry264 eh264
                  refine xi_aload_n (pc' := 80) (x := 115) kc_23_79 rfl rfl ?_
                  have A266 := ((eh264.2.1 115 (by decide)).trans A261)
                  refine xi_getfield (pc' := 83) (v := .ref 127) kc_23_80 rfl rfl rfl A266 rfl ?_
                  refine xi_iload_n (pc' := 84) (x := a2) kc_23_83 rfl rfl ?_
                  refine xi_iload (pc' := 86) (x := 0) kc_23_84 rfl rfl ?_
                  have A267 := ((eh264.2.1 127 (by decide)).trans ((eh259.2.1 127 (by decide)).trans ((eh255.2.1 127 (by decide)).trans ((eh236.2.1 127 (xk_nc mpt164 rfl)).trans ((eh232.2.1 127 (xk_nc mpt164 rfl)).trans ((eh228.2.1 127 (xk_nc mpt164 rfl)).trans ((eh154.2.1 127 (by decide)).trans A174)))))))
                  obtain ⟨y268, s268, hy268, ry268⟩ := xj_set (v := 0) hy174 ry174 a2 (by first | omega | decide) (by first | omega | decide)
                  refine xi_bastore (pc' := 87) (x' := y268) kc_23_86 rfl A267 rfl (xi_in (by omega) (by rw [hy174]; omega)) s268 (fun hh268 eh268 => ?_)
                  have K269 := xk_pa K265 (xk_wa (by decide +kernel)) xD_127 hy268 ry268 eh268
                  refine xi_aload_n (pc' := 88) (x := 115) kc_23_87 rfl rfl ?_
                  refine xi_iconst (pc' := 89) (v := 0) kc_23_88 rfl rfl ?_
                  have A270 := ((eh268.2.1 115 (by decide)).trans A266)
                  refine xi_putfield (pc' := 92) (fs' := [.int 0, .int u241, .ref 116, .ref 117, .ref 118, .ref 119, .ref 120, .ref 121, .ref 122, .ref 123, .ref 124, .ref 125, .ref 126, .ref 127, .ref 128, .ref 129, .int u242, .ref 130, .int u243, .ref 131, .ref 132, .ref 133, .ref 134, .int u244, .ref 135, .ref 136, .ref 137, .ref 138, .ref 139, .ref 140, .ref 141, .ref 142, .int u245, .int u246, .int u247, .ref 143, .ref 144, .ref 145, .ref 146, .ref 147, .ref 148, .int 0, .ref 149, .ref 150, .ref 151, .int u249, .ref 152, .ref 153, .ref 154, .ref 155, .ref 156, .ref 157, .ref 158, .ref 159, .int u250, .ref 160, .int u251, .ref 161, .ref 162, .ref 163, .ref 164, .int u252, .ref 165, .ref 166]) kc_23_89 rfl rfl rfl A270 rfl rfl rfl (Nat.le_of_ble_eq_true rfl) rfl (fun hh272 eh271 => ?_)
                  have K273 := xk_pf (k := 41) (v := 0) K269 (xk_wf (by decide +kernel)) xD_115 A270 rfl (by first | omega | decide) (by first | omega | decide) eh271 rfl
                  refine xi_iload (pc' := 94) (x := 1) kc_23_92 rfl rfl ?_
                  refine xi_iff (pc' := 97) kc_23_94 rfl rfl ?_
                  refine xi_iconst (pc' := 98) (v := 0) kc_23_97 rfl rfl ?_
                  refine xi_goto (pc' := 102) kc_23_98 rfl ?_
                  refine xi_ireturn kc_23_102 mr_23 rfl ?_
                  show xw J ov 100 195 (474, [(4, .int x4), (3, .ref 167), (2, .ref 115), (1, .ref 0), (0, .ref 1000000)], [.int 0], hh272) _
                  refine xi_pop (pc' := 475) kc_195_474 rfl rfl ?_
                  refine xi_goto (pc' := 1501) kc_195_475 rfl ?_
                  obtain ⟨v274, ev274⟩ : ∃ q : Int32, x4 + 6 = q := ⟨_, rfl⟩
                  have zv274 : v274.toInt = (x4.toInt + 6) := by rw [← ev274]; exact (xz_add (X := x4.toInt) (Y := 6) rfl (by decide) (by omega) (by omega)).trans (by omega)
                  refine xi_iinc (pc' := 1504) (x := x4) (v := v274) (lv' := [(4, .int v274), (3, .ref 167), (2, .ref 115), (1, .ref 0), (0, .ref 1000000)]) kc_195_1501 rfl rfl ev274 rfl (xm_lt ml_195 rfl) ?_
                  refine xi_goto (pc' := 23) kc_195_1504 rfl ?_
                  have A275 := ((eh271.2.1 pt164 (Ne.symm (xk_nc mpt164 rfl))).trans ((eh268.2.1 pt164 (Ne.symm (xk_nc mpt164 rfl))).trans ((eh264.2.1 pt164 (Ne.symm (xk_nc mpt164 rfl))).trans ((eh259.2.1 pt164 (Ne.symm (xk_nc mpt164 rfl))).trans ((eh255.2.1 pt164 (Ne.symm (xk_nc mpt164 rfl))).trans eh236.1)))))
                  have A276 := ((eh271.2.1 125 (by decide)).trans ((eh268.2.1 125 (by decide)).trans ((eh264.2.1 125 (by decide)).trans eh259.1)))
                  have A277 := ((eh271.2.1 127 (by decide)).trans eh268.1)
                  exact kk v274 hh272 (by omega) K273 ⟨((K273.2.1 (0, 9) (by decide +kernel)).trans (I.1.trans (K273.2.1 (115, 1) (by decide +kernel)).symm)), (xWW_fr I.2.1 (K273.2.1 (64, 0) (by decide +kernel)) (K273.2.1 (121, 0) (by decide +kernel))), (xSG_fr I.2.2.1 (fun l hl => K273.2.1 l (xk_el (by decide +kernel) hl))), (by rw [(K273.2.1 (13, 0) (by decide +kernel)), (K273.2.1 (122, 0) (by decide +kernel))]; exact I.2.2.2.1), (by rw [(K273.2.1 (16, 0) (by decide +kernel)), (K273.2.1 (122, 0) (by decide +kernel))]; exact I.2.2.2.2.1), (by rw [(K273.2.1 (19, 0) (by decide +kernel)), (K273.2.1 (122, 0) (by decide +kernel))]; exact I.2.2.2.2.2.1), (by rw [(K273.2.1 (22, 0) (by decide +kernel)), (K273.2.1 (122, 0) (by decide +kernel))]; exact I.2.2.2.2.2.2.1), (by rw [(K273.2.1 (25, 0) (by decide +kernel)), (K273.2.1 (122, 0) (by decide +kernel))]; exact I.2.2.2.2.2.2.2.1), (by rw [(K273.2.1 (28, 0) (by decide +kernel)), (K273.2.1 (122, 0) (by decide +kernel))]; exact I.2.2.2.2.2.2.2.2.1), (by rw [(K273.2.1 (6, 0) (by decide +kernel)), (K273.2.1 (123, 0) (by decide +kernel))]; exact I.2.2.2.2.2.2.2.2.2.1), (by rw [(K273.2.1 (9, 0) (by decide +kernel)), (K273.2.1 (124, 0) (by decide +kernel))]; exact I.2.2.2.2.2.2.2.2.2.2.1), (by rw [(K273.2.1 (7, 0) (by decide +kernel)), (K273.2.1 (6, 0) (by decide +kernel))]; exact I.2.2.2.2.2.2.2.2.2.2.2.1), (by rw [(K273.2.1 (10, 0) (by decide +kernel)), (K273.2.1 (9, 0) (by decide +kernel))]; exact I.2.2.2.2.2.2.2.2.2.2.2.2.1), ((K273.2.1 (5, 0) (by decide +kernel)).trans I.2.2.2.2.2.2.2.2.2.2.2.2.2.1), ((K273.2.1 (8, 0) (by decide +kernel)).trans I.2.2.2.2.2.2.2.2.2.2.2.2.2.2.1), (xGR_set (Lo := [some 29, some 31, some 33, some 35, some 37, some 39, some 41, some 43, some 45, some 47, some 49, some 51]) I.2.2.2.2.2.2.2.2.2.2.2.2.2.2.2.1 (by decide) rfl ept164 (by omega) (by show _ < ((12 : Nat) : Int); omega) A172 (by rw [hy172]; decide) A275 rfl A276 s259 (fun c hc hne => ((eh271.2.1 c (Ne.symm (xk_nc hc rfl))).trans ((eh268.2.1 c (Ne.symm (xk_nc hc rfl))).trans ((eh264.2.1 c (Ne.symm (xk_nc hc rfl))).trans ((eh259.2.1 c (Ne.symm (xk_nc hc rfl))).trans ((eh255.2.1 c (Ne.symm (xk_nc hc rfl))).trans ((eh236.2.1 c hne).trans ((eh232.2.1 c hne).trans ((eh228.2.1 c hne).trans (eh154.2.1 c (Ne.symm (xk_nc hc rfl))))))))))))), (xGR_set (Lo := [some 29, some 31, some 33, some 35, some 37, some 39, some 41, some 43, some 45, some 47, some 49, some 51]) I.2.2.2.2.2.2.2.2.2.2.2.2.2.2.2.2.1 (by decide) rfl ept164 (by omega) (by show _ < ((12 : Nat) : Int); omega) A174 (by rw [hy174]; decide) A275 rfl A277 s268 (fun c hc hne => ((eh271.2.1 c (Ne.symm (xk_nc hc rfl))).trans ((eh268.2.1 c (Ne.symm (xk_nc hc rfl))).trans ((eh264.2.1 c (Ne.symm (xk_nc hc rfl))).trans ((eh259.2.1 c (Ne.symm (xk_nc hc rfl))).trans ((eh255.2.1 c (Ne.symm (xk_nc hc rfl))).trans ((eh236.2.1 c hne).trans ((eh232.2.1 c hne).trans ((eh228.2.1 c hne).trans (eh154.2.1 c (Ne.symm (xk_nc hc rfl))))))))))))), ((K273.2.1 (1, 5) (by decide +kernel)).trans (I.2.2.2.2.2.2.2.2.2.2.2.2.2.2.2.2.2.1.trans (K273.2.1 (115, 23) (by decide +kernel)).symm)), (xGR_fr I.2.2.2.2.2.2.2.2.2.2.2.2.2.2.2.2.2.2.1 K273.2.1 (by decide +kernel) (by decide +kernel)), (xGR_fr I.2.2.2.2.2.2.2.2.2.2.2.2.2.2.2.2.2.2.2.1 K273.2.1 (by decide +kernel) (by decide +kernel)), (xGR_fr I.2.2.2.2.2.2.2.2.2.2.2.2.2.2.2.2.2.2.2.2.1 K273.2.1 (by decide +kernel) (by decide +kernel)), (xGR_fr I.2.2.2.2.2.2.2.2.2.2.2.2.2.2.2.2.2.2.2.2.2.1 K273.2.1 (by decide +kernel) (by decide +kernel)), (by rw [(K273.2.1 (63, 2) (by decide +kernel)), (K273.2.1 (139, 0) (by decide +kernel)), (K273.2.1 (1, 5) (by decide +kernel))]; exact I.2.2.2.2.2.2.2.2.2.2.2.2.2.2.2.2.2.2.2.2.2.2.1), ((K273.2.1 (0, 8) (by decide +kernel)).trans (I.2.2.2.2.2.2.2.2.2.2.2.2.2.2.2.2.2.2.2.2.2.2.2.1.trans (K273.2.1 (115, 34) (by decide +kernel)).symm)), (xGR_fr I.2.2.2.2.2.2.2.2.2.2.2.2.2.2.2.2.2.2.2.2.2.2.2.2.1 K273.2.1 (by decide +kernel) (by decide +kernel)), (xGR_fr I.2.2.2.2.2.2.2.2.2.2.2.2.2.2.2.2.2.2.2.2.2.2.2.2.2.1 K273.2.1 (by decide +kernel) (by decide +kernel)), (xGR_fr I.2.2.2.2.2.2.2.2.2.2.2.2.2.2.2.2.2.2.2.2.2.2.2.2.2.2.1 K273.2.1 (by decide +kernel) (by decide +kernel)), (xGR_fr I.2.2.2.2.2.2.2.2.2.2.2.2.2.2.2.2.2.2.2.2.2.2.2.2.2.2.2.1 K273.2.1 (by decide +kernel) (by decide +kernel)), (xts_fr I.2.2.2.2.2.2.2.2.2.2.2.2.2.2.2.2.2.2.2.2.2.2.2.2.2.2.2.2.1 (fun l hl => K273.2.1 l (xk_el (by decide +kernel) hl))), ((K273.2.1 (63, 3) (by decide +kernel)).trans I.2.2.2.2.2.2.2.2.2.2.2.2.2.2.2.2.2.2.2.2.2.2.2.2.2.2.2.2.2)⟩
              · refine xi_cmf (pc' := 37) kc_103_34 rfl (xc_le_f (X := a6.toInt) (Y := 100) rfl (by decide) (by omega)) ?_
                refine xi_aload_n (pc' := 38) (x := 0) kc_103_37 rfl rfl ?_
                refine xi_bipush (pc' := 40) (v := (-6)) kc_103_38 rfl rfl ?_
                refine xi_virtual (mj := 90) (as := [.int (-6)]) (st1 := []) (lv0 := [(0, .ref 0), (1, .int (-6))]) kc_103_40 rfl rfl rfl rfl rfl A12 (Nat.le_of_ble_eq_true rfl) (hJ _ _ _ _ (by decide)) (xm_le ml_90 rfl) rfl ?_
                refine xi_iload_n (pc' := 1) (x := (-6)) kc_90_0 rfl rfl ?_
                refine xi_ineg (pc' := 2) (v := 6) kc_90_1 rfl rfl ?_
                refine xi_istore_n (pc' := 3) (lv' := [(2, .int 6), (0, .ref 0), (1, .int (-6))]) kc_90_2 rfl rfl (xm_lt ml_90 rfl) ?_
                refine xi_iload_n (pc' := 4) (x := 6) kc_90_3 rfl rfl ?_
                refine xi_iff (pc' := 7) kc_90_4 rfl rfl ?_
                refine xi_iload_n (pc' := 8) (x := 6) kc_90_7 rfl rfl ?_
                refine xi_aload_n (pc' := 9) (x := 0) kc_90_8 rfl rfl ?_
                refine xi_getfield (pc' := 12) (v := .ref 94) kc_90_9 rfl rfl rfl A12 rfl ?_
                obtain ⟨y278, A278, hy278, ry278⟩ := xk_arr K.1 xD_94
                refine xi_arraylength (pc' := 13) (n := 7) (v := 7) kc_90_12 rfl (xl_lenI (by decide) (by decide) A278 hy278) rfl ?_
                refine xi_cmf (pc' := 16) kc_90_13 rfl rfl ?_
                refine xi_aload_n (pc' := 17) (x := 0) kc_90_16 rfl rfl ?_
                refine xi_getfield (pc' := 20) (v := .ref 94) kc_90_17 rfl rfl rfl A12 rfl ?_
                refine xi_iload_n (pc' := 21) (x := 6) kc_90_20 rfl rfl ?_
                refine xi_dup2 (pc' := 22) kc_90_21 rfl ⟨rfl, rfl⟩ ?_
                obtain ⟨v279, ev279, bv279, dv279⟩ := xj_get hy278 ry278 (i := 6) (by decide) (by decide)
                refine xi_iaload (pc' := 23) (v := v279) kc_90_22 rfl A278 (by decide) rfl (xi_in (by decide) (by rw [hy278]; decide)) ev279 ?_
                refine xi_iconst (pc' := 24) (v := 1) kc_90_23 rfl rfl ?_
                obtain ⟨v280, ev280⟩ : ∃ q : Int32, (v279 : Int32) + 1 = q := ⟨_, rfl⟩
                have rv280 := xc_rng v280
                refine xi_iadd (pc' := 25) (v := v280) kc_90_24 rfl ev280 ?_
                obtain ⟨y281, s281, hy281, ry281⟩ := xj_set (v := v280) hy278 ry278 6 (by first | omega | decide) (by first | omega | decide)
                refine xi_iastore (pc' := 26) (x' := y281) kc_90_25 rfl A278 rfl (xi_in (by decide) (by rw [hy278]; decide)) s281 (fun hh281 eh281 => ?_)
                have K282 := xk_pa K (xk_wa (by decide +kernel)) xD_94 hy281 ry281 eh281
                have KR283 := xk_pa KR (xk_wa (by decide +kernel)) xD_94 hy281 ry281 eh281
                refine xi_iload_n (pc' := 27) (x := (-6)) kc_90_26 rfl rfl ?_
                refine xi_ireturn kc_90_27 mr_90 rfl ?_
                show xw J ov 99 103 (43, [(0, .ref 0), (1, .int a2), (2, .int a4), (3, .int a6), (4, .int 0)], [.int (-6)], hh281) _
                refine xi_ireturn kc_103_43 mr_103 rfl ?_
                show xw J ov 100 195 (437, [(4, .int x4), (3, .ref 167), (2, .ref 115), (1, .ref 0), (0, .ref 1000000)], [.int (-6)], hh281) _
                refine xi_pop (pc' := 438) kc_195_437 rfl rfl ?_
                refine xi_aload_n (pc' := 439) (x := 115) kc_195_438 rfl rfl ?_
                refine xi_aload_n (pc' := 440) (x := 1000000) kc_195_439 rfl rfl ?_
                refine xi_iload (pc' := 442) (x := x4) kc_195_440 rfl rfl ?_
                refine xi_iconst (pc' := 443) (v := 1) kc_195_442 rfl rfl ?_
                refine xi_iadd (pc' := 444) (v := v1) kc_195_443 rfl ev1 ?_
                refine xi_ialoadO (pc' := 445) (v := a2) kc_195_444 rfl (by decide) hov0 (xi_in (by omega) (by omega)) ea2 ?_
                refine xi_aload_n (pc' := 446) (x := 1000000) kc_195_445 rfl rfl ?_
                refine xi_iload (pc' := 448) (x := x4) kc_195_446 rfl rfl ?_
                refine xi_iconst (pc' := 449) (v := 2) kc_195_448 rfl rfl ?_
                refine xi_iadd (pc' := 450) (v := v3) kc_195_449 rfl ev3 ?_
                refine xi_ialoadO (pc' := 451) (v := a4) kc_195_450 rfl (by decide) hov0 (xi_in (by omega) (by omega)) ea4 ?_
                refine xi_aload_n (pc' := 452) (x := 1000000) kc_195_451 rfl rfl ?_
                refine xi_iload (pc' := 454) (x := x4) kc_195_452 rfl rfl ?_
                refine xi_iconst (pc' := 455) (v := 3) kc_195_454 rfl rfl ?_
                refine xi_iadd (pc' := 456) (v := v5) kc_195_455 rfl ev5 ?_
                refine xi_ialoadO (pc' := 457) (v := a6) kc_195_456 rfl (by decide) hov0 (xi_in (by omega) (by omega)) ea6 ?_
                refine xi_aload_n (pc' := 458) (x := 1000000) kc_195_457 rfl rfl ?_
                refine xi_iload (pc' := 460) (x := x4) kc_195_458 rfl rfl ?_
                refine xi_iconst (pc' := 461) (v := 4) kc_195_460 rfl rfl ?_
                refine xi_iadd (pc' := 462) (v := v7) kc_195_461 rfl ev7 ?_
                refine xi_ialoadO (pc' := 463) (v := a8) kc_195_462 rfl (by decide) hov0 (xi_in (by omega) (by omega)) ea8 ?_
                refine xi_ift (pc' := 470) kc_195_463 rfl (xc_eq_t (X := a8.toInt) (Y := 0) rfl (by decide) (by omega)) ?_
                refine xi_iconst (pc' := 471) (v := 0) kc_195_470 rfl rfl ?_
                obtain ⟨u284, u285, u286, u287, u288, u289, u290, u291, u292, u293, u294, u295, u296, bu284, bu285, bu286, bu287, bu288, bu289, bu290, bu291, bu292, bu293, bu294, bu295, bu296, A297⟩ := xq_115 K.1
                have A298 := ((eh281.2.1 115 (by decide)).trans A297)
                refine xi_virtual (mj := 23) (as := [.int a2, .int a4, .int a6, .int 0]) (st1 := []) (lv0 := [(0, .ref 115), (1, .int a2), (2, .int a4), (3, .int a6), (4, .int 0)]) kc_195_471 rfl rfl rfl rfl rfl A298 (Nat.le_of_ble_eq_true rfl) (hJ _ _ _ _ (by decide)) (xm_le ml_23 rfl) rfl ?_
                refine xi_aload_n (pc' := 1) (x := 115) kc_23_0 rfl rfl ?_
                refine xi_iconst (pc' := 2) (v := 0) kc_23_1 rfl rfl ?_
                refine xi_putfield (pc' := 5) (fs' := [.int 0, .int u285, .ref 116, .ref 117, .ref 118, .ref 119, .ref 120, .ref 121, .ref 122, .ref 123, .ref 124, .ref 125, .ref 126, .ref 127, .ref 128, .ref 129, .int u286, .ref 130, .int u287, .ref 131, .ref 132, .ref 133, .ref 134, .int u288, .ref 135, .ref 136, .ref 137, .ref 138, .ref 139, .ref 140, .ref 141, .ref 142, .int u289, .int u290, .int u291, .ref 143, .ref 144, .ref 145, .ref 146, .ref 147, .ref 148, .int u292, .ref 149, .ref 150, .ref 151, .int u293, .ref 152, .ref 153, .ref 154, .ref 155, .ref 156, .ref 157, .ref 158, .ref 159, .int u294, .ref 160, .int u295, .ref 161, .ref 162, .ref 163, .ref 164, .int u296, .ref 165, .ref 166]) kc_23_2 rfl rfl rfl A298 rfl rfl rfl (Nat.le_of_ble_eq_true rfl) rfl (fun hh300 eh299 => ?_)
                have K301 := xk_pf (k := 0) (v := 0) K282 (xk_wf (by decide +kernel)) xD_115 A298 rfl (by first | omega | decide) (by first | omega | decide) eh299 rfl
                have KR302 := xk_pf (k := 0) (v := 0) KR283 (xk_wf (by decide +kernel)) xD_115 A298 rfl (by first | omega | decide) (by first | omega | decide) eh299 rfl
                refine xi_iload_n (pc' := 6) (x := a2) kc_23_5 rfl rfl ?_
                refine xi_static (mj := 24) (as := [.int a2]) (st1 := []) (lv0 := [(0, .int a2)]) kc_23_6 rfl rfl (Nat.le_of_ble_eq_true rfl) rfl rfl (Nat.le_of_ble_eq_true rfl) (hJ _ _ _ _ (by decide)) (xm_le ml_24 rfl) rfl ?_
                refine xi_iload_n (pc' := 1) (x := a2) kc_24_0 rfl rfl ?_
                refine xi_iconst (pc' := 2) (v := 0) kc_24_1 rfl rfl ?_
                refine xi_bipush (pc' := 4) (v := 11) kc_24_2 rfl rfl ?_
                refine xi_static (mj := 11) (as := [.int a2, .int 0, .int 11]) (st1 := []) (lv0 := [(0, .int a2), (1, .int 0), (2, .int 11)]) kc_24_4 rfl rfl (Nat.le_of_ble_eq_true rfl) rfl rfl (Nat.le_of_ble_eq_true rfl) (hJ _ _ _ _ (by decide)) (xm_le ml_11 rfl) rfl ?_
                refine xi_iload_n (pc' := 1) (x := a2) kc_11_0 rfl rfl ?_
                refine xi_iload_n (pc' := 2) (x := 0) kc_11_1 rfl rfl ?_
                refine xi_cmf (pc' := 5) kc_11_2 rfl (xc_lt_f (X := a2.toInt) (Y := 0) rfl (by decide) (by omega)) ?_
                refine xi_iload_n (pc' := 6) (x := a2) kc_11_5 rfl rfl ?_
                refine xi_iload_n (pc' := 7) (x := 11) kc_11_6 rfl rfl ?_
                refine xi_cmf (pc' := 10) kc_11_7 rfl (xc_gt_f (X := a2.toInt) (Y := 11) rfl (by decide) (by omega)) ?_
                refine xi_iconst (pc' := 11) (v := 1) kc_11_10 rfl rfl ?_
                refine xi_goto (pc' := 15) kc_11_11 rfl ?_
                refine xi_ireturn kc_11_15 mr_11 rfl ?_
                show xw J ov 98 24 (7, [(0, .int a2)], [.int 1], hh300) _
                refine xi_ireturn kc_24_7 mr_24 rfl ?_
                show xw J ov 99 23 (9, [(0, .ref 115), (1, .int a2), (2, .int a4), (3, .int a6), (4, .int 0)], [.int 1], hh300) _
                refine xi_iff (pc' := 12) kc_23_9 rfl rfl ?_
                refine xi_iload_n (pc' := 13) (x := a4) kc_23_12 rfl rfl ?_
                refine xi_static (mj := 10) (as := [.int a4]) (st1 := []) (lv0 := [(0, .int a4)]) kc_23_13 rfl rfl (Nat.le_of_ble_eq_true rfl) rfl rfl (Nat.le_of_ble_eq_true rfl) (hJ _ _ _ _ (by decide)) (xm_le ml_10 rfl) rfl ?_
                refine xi_iload_n (pc' := 1) (x := a4) kc_10_0 rfl rfl ?_
                refine xi_iconst (pc' := 2) (v := 0) kc_10_1 rfl rfl ?_
                refine xi_iconst (pc' := 3) (v := 5) kc_10_2 rfl rfl ?_
                refine xi_static (mj := 11) (as := [.int a4, .int 0, .int 5]) (st1 := []) (lv0 := [(0, .int a4), (1, .int 0), (2, .int 5)]) kc_10_3 rfl rfl (Nat.le_of_ble_eq_true rfl) rfl rfl (Nat.le_of_ble_eq_true rfl) (hJ _ _ _ _ (by decide)) (xm_le ml_11 rfl) rfl ?_
                refine xi_iload_n (pc' := 1) (x := a4) kc_11_0 rfl rfl ?_
                refine xi_iload_n (pc' := 2) (x := 0) kc_11_1 rfl rfl ?_
                refine xi_cmf (pc' := 5) kc_11_2 rfl (xc_lt_f (X := a4.toInt) (Y := 0) rfl (by decide) (by omega)) ?_
                refine xi_iload_n (pc' := 6) (x := a4) kc_11_5 rfl rfl ?_
                refine xi_iload_n (pc' := 7) (x := 5) kc_11_6 rfl rfl ?_
                refine xi_cmf (pc' := 10) kc_11_7 rfl (xc_gt_f (X := a4.toInt) (Y := 5) rfl (by decide) (by omega)) ?_
                refine xi_iconst (pc' := 11) (v := 1) kc_11_10 rfl rfl ?_
                refine xi_goto (pc' := 15) kc_11_11 rfl ?_
                refine xi_ireturn kc_11_15 mr_11 rfl ?_
                show xw J ov 98 10 (6, [(0, .int a4)], [.int 1], hh300) _
                refine xi_ireturn kc_10_6 mr_10 rfl ?_
                show xw J ov 99 23 (16, [(0, .ref 115), (1, .int a2), (2, .int a4), (3, .int a6), (4, .int 0)], [.int 1], hh300) _
                refine xi_ift (pc' := 25) kc_23_16 rfl rfl ?_
                refine xi_iload_n (pc' := 26) (x := a6) kc_23_25 rfl rfl ?_
                refine xi_ift (pc' := 36) kc_23_26 rfl (xc_ge_t (X := a6.toInt) (Y := 0) rfl (by decide) (by omega)) ?_
                refine xi_iload_n (pc' := 37) (x := a6) kc_23_36 rfl rfl ?_
                refine xi_bipush (pc' := 39) (v := 100) kc_23_37 rfl rfl ?_
                refine xi_cmf (pc' := 42) kc_23_39 rfl (xc_le_f (X := a6.toInt) (Y := 100) rfl (by decide) (by omega)) ?_
                refine xi_aload_n (pc' := 43) (x := 115) kc_23_42 rfl rfl ?_
                refine xi_bipush (pc' := 45) (v := (-6)) kc_23_43 rfl rfl ?_
                refine xi_virtual (mj := 12) (as := [.int (-6)]) (st1 := []) (lv0 := [(0, .ref 115), (1, .int (-6))]) kc_23_45 rfl rfl rfl rfl rfl eh299.1 (Nat.le_of_ble_eq_true rfl) (hJ _ _ _ _ (by decide)) (xm_le ml_12 rfl) rfl ?_
                refine xi_aload_n (pc' := 1) (x := 115) kc_12_0 rfl rfl ?_
                refine xi_getfield (pc' := 4) (v := .ref 140) kc_12_1 rfl rfl rfl eh299.1 rfl ?_
                refine xi_iload_n (pc' := 5) (x := (-6)) kc_12_4 rfl rfl ?_
                refine xi_ineg (pc' := 6) (v := 6) kc_12_5 rfl rfl ?_
                refine xi_dup2 (pc' := 7) kc_12_6 rfl ⟨rfl, rfl⟩ ?_
                obtain ⟨y303, A303, hy303, ry303⟩ := xk_arr K.1 xD_140
                obtain ⟨v304, ev304, bv304, dv304⟩ := xj_get hy303 ry303 (i := 6) (by decide) (by decide)
                have A305 := ((eh299.2.1 140 (by decide)).trans ((eh281.2.1 140 (by decide)).trans A303))
                refine xi_iaload (pc' := 8) (v := v304) kc_12_7 rfl A305 (by decide) rfl (xi_in (by decide) (by rw [hy303]; decide)) ev304 ?_
                refine xi_iconst (pc' := 9) (v := 1) kc_12_8 rfl rfl ?_
                obtain ⟨v306, ev306⟩ : ∃ q : Int32, (v304 : Int32) + 1 = q := ⟨_, rfl⟩
                have rv306 := xc_rng v306
                refine xi_iadd (pc' := 10) (v := v306) kc_12_9 rfl ev306 ?_
                obtain ⟨y307, s307, hy307, ry307⟩ := xj_set (v := v306) hy303 ry303 6 (by first | omega | decide) (by first | omega | decide)
                refine xi_iastore (pc' := 11) (x' := y307) kc_12_10 rfl A305 rfl (xi_in (by decide) (by rw [hy303]; decide)) s307 (fun hh307 eh307 => ?_)
                have K308 := xk_pa K301 (xk_wa (by decide +kernel)) xD_140 hy307 ry307 eh307
                have KR309 := xk_pa KR302 (xk_wa (by decide +kernel)) xD_140 hy307 ry307 eh307
                refine xi_iload_n (pc' := 12) (x := (-6)) kc_12_11 rfl rfl ?_
                refine xi_ireturn kc_12_12 mr_12 rfl ?_
                show xw J ov 99 23 (48, [(0, .ref 115), (1, .int a2), (2, .int a4), (3, .int a6), (4, .int 0)], [.int (-6)], hh307) _
                refine xi_ireturn kc_23_48 mr_23 rfl ?_
                show xw J ov 100 195 (474, [(4, .int x4), (3, .ref 167), (2, .ref 115), (1, .ref 0), (0, .ref 1000000)], [.int (-6)], hh307) _
                refine xi_pop (pc' := 475) kc_195_474 rfl rfl ?_
                refine xi_goto (pc' := 1501) kc_195_475 rfl ?_
                obtain ⟨v310, ev310⟩ : ∃ q : Int32, x4 + 6 = q := ⟨_, rfl⟩
                have zv310 : v310.toInt = (x4.toInt + 6) := by rw [← ev310]; exact (xz_add (X := x4.toInt) (Y := 6) rfl (by decide) (by omega) (by omega)).trans (by omega)
                refine xi_iinc (pc' := 1504) (x := x4) (v := v310) (lv' := [(4, .int v310), (3, .ref 167), (2, .ref 115), (1, .ref 0), (0, .ref 1000000)]) kc_195_1501 rfl rfl ev310 rfl (xm_lt ml_195 rfl) ?_
                refine xi_goto (pc' := 23) kc_195_1504 rfl ?_
                exact kk v310 hh307 (by omega) K308 (xI_kept I KR309.2.1)
            · refine xi_iff (pc' := 24) kc_103_21 rfl (xc_ge_f (X := a6.toInt) (Y := 0) rfl (by decide) (by omega)) ?_
              refine xi_aload_n (pc' := 25) (x := 0) kc_103_24 rfl rfl ?_
              refine xi_bipush (pc' := 27) (v := (-4)) kc_103_25 rfl rfl ?_
              refine xi_virtual (mj := 90) (as := [.int (-4)]) (st1 := []) (lv0 := [(0, .ref 0), (1, .int (-4))]) kc_103_27 rfl rfl rfl rfl rfl A12 (Nat.le_of_ble_eq_true rfl) (hJ _ _ _ _ (by decide)) (xm_le ml_90 rfl) rfl ?_
              refine xi_iload_n (pc' := 1) (x := (-4)) kc_90_0 rfl rfl ?_
              refine xi_ineg (pc' := 2) (v := 4) kc_90_1 rfl rfl ?_
              refine xi_istore_n (pc' := 3) (lv' := [(2, .int 4), (0, .ref 0), (1, .int (-4))]) kc_90_2 rfl rfl (xm_lt ml_90 rfl) ?_
              refine xi_iload_n (pc' := 4) (x := 4) kc_90_3 rfl rfl ?_
              refine xi_iff (pc' := 7) kc_90_4 rfl rfl ?_
              refine xi_iload_n (pc' := 8) (x := 4) kc_90_7 rfl rfl ?_
              refine xi_aload_n (pc' := 9) (x := 0) kc_90_8 rfl rfl ?_
              refine xi_getfield (pc' := 12) (v := .ref 94) kc_90_9 rfl rfl rfl A12 rfl ?_
              obtain ⟨y311, A311, hy311, ry311⟩ := xk_arr K.1 xD_94
              refine xi_arraylength (pc' := 13) (n := 7) (v := 7) kc_90_12 rfl (xl_lenI (by decide) (by decide) A311 hy311) rfl ?_
              refine xi_cmf (pc' := 16) kc_90_13 rfl rfl ?_
              refine xi_aload_n (pc' := 17) (x := 0) kc_90_16 rfl rfl ?_
              refine xi_getfield (pc' := 20) (v := .ref 94) kc_90_17 rfl rfl rfl A12 rfl ?_
              refine xi_iload_n (pc' := 21) (x := 4) kc_90_20 rfl rfl ?_
              refine xi_dup2 (pc' := 22) kc_90_21 rfl ⟨rfl, rfl⟩ ?_
              obtain ⟨v312, ev312, bv312, dv312⟩ := xj_get hy311 ry311 (i := 4) (by decide) (by decide)
              refine xi_iaload (pc' := 23) (v := v312) kc_90_22 rfl A311 (by decide) rfl (xi_in (by decide) (by rw [hy311]; decide)) ev312 ?_
              refine xi_iconst (pc' := 24) (v := 1) kc_90_23 rfl rfl ?_
              obtain ⟨v313, ev313⟩ : ∃ q : Int32, (v312 : Int32) + 1 = q := ⟨_, rfl⟩
              have rv313 := xc_rng v313
              refine xi_iadd (pc' := 25) (v := v313) kc_90_24 rfl ev313 ?_
              obtain ⟨y314, s314, hy314, ry314⟩ := xj_set (v := v313) hy311 ry311 4 (by first | omega | decide) (by first | omega | decide)
              refine xi_iastore (pc' := 26) (x' := y314) kc_90_25 rfl A311 rfl (xi_in (by decide) (by rw [hy311]; decide)) s314 (fun hh314 eh314 => ?_)
              have K315 := xk_pa K (xk_wa (by decide +kernel)) xD_94 hy314 ry314 eh314
              have KR316 := xk_pa KR (xk_wa (by decide +kernel)) xD_94 hy314 ry314 eh314
              refine xi_iload_n (pc' := 27) (x := (-4)) kc_90_26 rfl rfl ?_
              refine xi_ireturn kc_90_27 mr_90 rfl ?_
              show xw J ov 99 103 (30, [(0, .ref 0), (1, .int a2), (2, .int a4), (3, .int a6), (4, .int 0)], [.int (-4)], hh314) _
              refine xi_ireturn kc_103_30 mr_103 rfl ?_
              show xw J ov 100 195 (437, [(4, .int x4), (3, .ref 167), (2, .ref 115), (1, .ref 0), (0, .ref 1000000)], [.int (-4)], hh314) _
              refine xi_pop (pc' := 438) kc_195_437 rfl rfl ?_
              refine xi_aload_n (pc' := 439) (x := 115) kc_195_438 rfl rfl ?_
              refine xi_aload_n (pc' := 440) (x := 1000000) kc_195_439 rfl rfl ?_
              refine xi_iload (pc' := 442) (x := x4) kc_195_440 rfl rfl ?_
              refine xi_iconst (pc' := 443) (v := 1) kc_195_442 rfl rfl ?_
              refine xi_iadd (pc' := 444) (v := v1) kc_195_443 rfl ev1 ?_
              refine xi_ialoadO (pc' := 445) (v := a2) kc_195_444 rfl (by decide) hov0 (xi_in (by omega) (by omega)) ea2 ?_
              refine xi_aload_n (pc' := 446) (x := 1000000) kc_195_445 rfl rfl ?_
              refine xi_iload (pc' := 448) (x := x4) kc_195_446 rfl rfl ?_
              refine xi_iconst (pc' := 449) (v := 2) kc_195_448 rfl rfl ?_
              refine xi_iadd (pc' := 450) (v := v3) kc_195_449 rfl ev3 ?_
              refine xi_ialoadO (pc' := 451) (v := a4) kc_195_450 rfl (by decide) hov0 (xi_in (by omega) (by omega)) ea4 ?_
              refine xi_aload_n (pc' := 452) (x := 1000000) kc_195_451 rfl rfl ?_
              refine xi_iload (pc' := 454) (x := x4) kc_195_452 rfl rfl ?_
              refine xi_iconst (pc' := 455) (v := 3) kc_195_454 rfl rfl ?_
              refine xi_iadd (pc' := 456) (v := v5) kc_195_455 rfl ev5 ?_
              refine xi_ialoadO (pc' := 457) (v := a6) kc_195_456 rfl (by decide) hov0 (xi_in (by omega) (by omega)) ea6 ?_
              refine xi_aload_n (pc' := 458) (x := 1000000) kc_195_457 rfl rfl ?_
              refine xi_iload (pc' := 460) (x := x4) kc_195_458 rfl rfl ?_
              refine xi_iconst (pc' := 461) (v := 4) kc_195_460 rfl rfl ?_
              refine xi_iadd (pc' := 462) (v := v7) kc_195_461 rfl ev7 ?_
              refine xi_ialoadO (pc' := 463) (v := a8) kc_195_462 rfl (by decide) hov0 (xi_in (by omega) (by omega)) ea8 ?_
              refine xi_ift (pc' := 470) kc_195_463 rfl (xc_eq_t (X := a8.toInt) (Y := 0) rfl (by decide) (by omega)) ?_
              refine xi_iconst (pc' := 471) (v := 0) kc_195_470 rfl rfl ?_
              obtain ⟨u317, u318, u319, u320, u321, u322, u323, u324, u325, u326, u327, u328, u329, bu317, bu318, bu319, bu320, bu321, bu322, bu323, bu324, bu325, bu326, bu327, bu328, bu329, A330⟩ := xq_115 K.1
              have A331 := ((eh314.2.1 115 (by decide)).trans A330)
              refine xi_virtual (mj := 23) (as := [.int a2, .int a4, .int a6, .int 0]) (st1 := []) (lv0 := [(0, .ref 115), (1, .int a2), (2, .int a4), (3, .int a6), (4, .int 0)]) kc_195_471 rfl rfl rfl rfl rfl A331 (Nat.le_of_ble_eq_true rfl) (hJ _ _ _ _ (by decide)) (xm_le ml_23 rfl) rfl ?_
              refine xi_aload_n (pc' := 1) (x := 115) kc_23_0 rfl rfl ?_
              refine xi_iconst (pc' := 2) (v := 0) kc_23_1 rfl rfl ?_
              refine xi_putfield (pc' := 5) (fs' := [.int 0, .int u318, .ref 116, .ref 117, .ref 118, .ref 119, .ref 120, .ref 121, .ref 122, .ref 123, .ref 124, .ref 125, .ref 126, .ref 127, .ref 128, .ref 129, .int u319, .ref 130, .int u320, .ref 131, .ref 132, .ref 133, .ref 134, .int u321, .ref 135, .ref 136, .ref 137, .ref 138, .ref 139, .ref 140, .ref 141, .ref 142, .int u322, .int u323, .int u324, .ref 143, .ref 144, .ref 145, .ref 146, .ref 147, .ref 148, .int u325, .ref 149, .ref 150, .ref 151, .int u326, .ref 152, .ref 153, .ref 154, .ref 155, .ref 156, .ref 157, .ref 158, .ref 159, .int u327, .ref 160, .int u328, .ref 161, .ref 162, .ref 163, .ref 164, .int u329, .ref 165, .ref 166]) kc_23_2 rfl rfl rfl A331 rfl rfl rfl (Nat.le_of_ble_eq_true rfl) rfl (fun hh333 eh332 => ?_)
              have K334 := xk_pf (k := 0) (v := 0) K315 (xk_wf (by decide +kernel)) xD_115 A331 rfl (by first | omega | decide) (by first | omega | decide) eh332 rfl
              have KR335 := xk_pf (k := 0) (v := 0) KR316 (xk_wf (by decide +kernel)) xD_115 A331 rfl (by first | omega | decide) (by first | omega | decide) eh332 rfl
              refine xi_iload_n (pc' := 6) (x := a2) kc_23_5 rfl rfl ?_
              refine xi_static (mj := 24) (as := [.int a2]) (st1 := []) (lv0 := [(0, .int a2)]) kc_23_6 rfl rfl (Nat.le_of_ble_eq_true rfl) rfl rfl (Nat.le_of_ble_eq_true rfl) (hJ _ _ _ _ (by decide)) (xm_le ml_24 rfl) rfl ?_
              refine xi_iload_n (pc' := 1) (x := a2) kc_24_0 rfl rfl ?_
              refine xi_iconst (pc' := 2) (v := 0) kc_24_1 rfl rfl ?_
              refine xi_bipush (pc' := 4) (v := 11) kc_24_2 rfl rfl ?_
              refine xi_static (mj := 11) (as := [.int a2, .int 0, .int 11]) (st1 := []) (lv0 := [(0, .int a2), (1, .int 0), (2, .int 11)]) kc_24_4 rfl rfl (Nat.le_of_ble_eq_true rfl) rfl rfl (Nat.le_of_ble_eq_true rfl) (hJ _ _ _ _ (by decide)) (xm_le ml_11 rfl) rfl ?_
              refine xi_iload_n (pc' := 1) (x := a2) kc_11_0 rfl rfl ?_
              refine xi_iload_n (pc' := 2) (x := 0) kc_11_1 rfl rfl ?_
              refine xi_cmf (pc' := 5) kc_11_2 rfl (xc_lt_f (X := a2.toInt) (Y := 0) rfl (by decide) (by omega)) ?_
              refine xi_iload_n (pc' := 6) (x := a2) kc_11_5 rfl rfl ?_
              refine xi_iload_n (pc' := 7) (x := 11) kc_11_6 rfl rfl ?_
              refine xi_cmf (pc' := 10) kc_11_7 rfl (xc_gt_f (X := a2.toInt) (Y := 11) rfl (by decide) (by omega)) ?_
              refine xi_iconst (pc' := 11) (v := 1) kc_11_10 rfl rfl ?_
              refine xi_goto (pc' := 15) kc_11_11 rfl ?_
              refine xi_ireturn kc_11_15 mr_11 rfl ?_
              show xw J ov 98 24 (7, [(0, .int a2)], [.int 1], hh333) _
              refine xi_ireturn kc_24_7 mr_24 rfl ?_
              show xw J ov 99 23 (9, [(0, .ref 115), (1, .int a2), (2, .int a4), (3, .int a6), (4, .int 0)], [.int 1], hh333) _
              refine xi_iff (pc' := 12) kc_23_9 rfl rfl ?_
              refine xi_iload_n (pc' := 13) (x := a4) kc_23_12 rfl rfl ?_
              refine xi_static (mj := 10) (as := [.int a4]) (st1 := []) (lv0 := [(0, .int a4)]) kc_23_13 rfl rfl (Nat.le_of_ble_eq_true rfl) rfl rfl (Nat.le_of_ble_eq_true rfl) (hJ _ _ _ _ (by decide)) (xm_le ml_10 rfl) rfl ?_
              refine xi_iload_n (pc' := 1) (x := a4) kc_10_0 rfl rfl ?_
              refine xi_iconst (pc' := 2) (v := 0) kc_10_1 rfl rfl ?_
              refine xi_iconst (pc' := 3) (v := 5) kc_10_2 rfl rfl ?_
              refine xi_static (mj := 11) (as := [.int a4, .int 0, .int 5]) (st1 := []) (lv0 := [(0, .int a4), (1, .int 0), (2, .int 5)]) kc_10_3 rfl rfl (Nat.le_of_ble_eq_true rfl) rfl rfl (Nat.le_of_ble_eq_true rfl) (hJ _ _ _ _ (by decide)) (xm_le ml_11 rfl) rfl ?_
              refine xi_iload_n (pc' := 1) (x := a4) kc_11_0 rfl rfl ?_
              refine xi_iload_n (pc' := 2) (x := 0) kc_11_1 rfl rfl ?_
              refine xi_cmf (pc' := 5) kc_11_2 rfl (xc_lt_f (X := a4.toInt) (Y := 0) rfl (by decide) (by omega)) ?_
              refine xi_iload_n (pc' := 6) (x := a4) kc_11_5 rfl rfl ?_
              refine xi_iload_n (pc' := 7) (x := 5) kc_11_6 rfl rfl ?_
              refine xi_cmf (pc' := 10) kc_11_7 rfl (xc_gt_f (X := a4.toInt) (Y := 5) rfl (by decide) (by omega)) ?_
              refine xi_iconst (pc' := 11) (v := 1) kc_11_10 rfl rfl ?_
              refine xi_goto (pc' := 15) kc_11_11 rfl ?_
              refine xi_ireturn kc_11_15 mr_11 rfl ?_
              show xw J ov 98 10 (6, [(0, .int a4)], [.int 1], hh333) _
              refine xi_ireturn kc_10_6 mr_10 rfl ?_
              show xw J ov 99 23 (16, [(0, .ref 115), (1, .int a2), (2, .int a4), (3, .int a6), (4, .int 0)], [.int 1], hh333) _
              refine xi_ift (pc' := 25) kc_23_16 rfl rfl ?_
              refine xi_iload_n (pc' := 26) (x := a6) kc_23_25 rfl rfl ?_
              refine xi_iff (pc' := 29) kc_23_26 rfl (xc_ge_f (X := a6.toInt) (Y := 0) rfl (by decide) (by omega)) ?_
              refine xi_aload_n (pc' := 30) (x := 115) kc_23_29 rfl rfl ?_
              refine xi_bipush (pc' := 32) (v := (-4)) kc_23_30 rfl rfl ?_
              refine xi_virtual (mj := 12) (as := [.int (-4)]) (st1 := []) (lv0 := [(0, .ref 115), (1, .int (-4))]) kc_23_32 rfl rfl rfl rfl rfl eh332.1 (Nat.le_of_ble_eq_true rfl) (hJ _ _ _ _ (by decide)) (xm_le ml_12 rfl) rfl ?_
              refine xi_aload_n (pc' := 1) (x := 115) kc_12_0 rfl rfl ?_
              refine xi_getfield (pc' := 4) (v := .ref 140) kc_12_1 rfl rfl rfl eh332.1 rfl ?_
              refine xi_iload_n (pc' := 5) (x := (-4)) kc_12_4 rfl rfl ?_
              refine xi_ineg (pc' := 6) (v := 4) kc_12_5 rfl rfl ?_
              refine xi_dup2 (pc' := 7) kc_12_6 rfl ⟨rfl, rfl⟩ ?_
              obtain ⟨y336, A336, hy336, ry336⟩ := xk_arr K.1 xD_140
              obtain ⟨v337, ev337, bv337, dv337⟩ := xj_get hy336 ry336 (i := 4) (by decide) (by decide)
              have A338 := ((eh332.2.1 140 (by decide)).trans ((eh314.2.1 140 (by decide)).trans A336))
              refine xi_iaload (pc' := 8) (v := v337) kc_12_7 rfl A338 (by decide) rfl (xi_in (by decide) (by rw [hy336]; decide)) ev337 ?_
              refine xi_iconst (pc' := 9) (v := 1) kc_12_8 rfl rfl ?_
              obtain ⟨v339, ev339⟩ : ∃ q : Int32, (v337 : Int32) + 1 = q := ⟨_, rfl⟩
              have rv339 := xc_rng v339
              refine xi_iadd (pc' := 10) (v := v339) kc_12_9 rfl ev339 ?_
              obtain ⟨y340, s340, hy340, ry340⟩ := xj_set (v := v339) hy336 ry336 4 (by first | omega | decide) (by first | omega | decide)
              refine xi_iastore (pc' := 11) (x' := y340) kc_12_10 rfl A338 rfl (xi_in (by decide) (by rw [hy336]; decide)) s340 (fun hh340 eh340 => ?_)
              have K341 := xk_pa K334 (xk_wa (by decide +kernel)) xD_140 hy340 ry340 eh340
              have KR342 := xk_pa KR335 (xk_wa (by decide +kernel)) xD_140 hy340 ry340 eh340
              refine xi_iload_n (pc' := 12) (x := (-4)) kc_12_11 rfl rfl ?_
              refine xi_ireturn kc_12_12 mr_12 rfl ?_
              show xw J ov 99 23 (35, [(0, .ref 115), (1, .int a2), (2, .int a4), (3, .int a6), (4, .int 0)], [.int (-4)], hh340) _
              refine xi_ireturn kc_23_35 mr_23 rfl ?_
              show xw J ov 100 195 (474, [(4, .int x4), (3, .ref 167), (2, .ref 115), (1, .ref 0), (0, .ref 1000000)], [.int (-4)], hh340) _
              refine xi_pop (pc' := 475) kc_195_474 rfl rfl ?_
              refine xi_goto (pc' := 1501) kc_195_475 rfl ?_
              obtain ⟨v343, ev343⟩ : ∃ q : Int32, x4 + 6 = q := ⟨_, rfl⟩
              have zv343 : v343.toInt = (x4.toInt + 6) := by rw [← ev343]; exact (xz_add (X := x4.toInt) (Y := 6) rfl (by decide) (by omega) (by omega)).trans (by omega)
              refine xi_iinc (pc' := 1504) (x := x4) (v := v343) (lv' := [(4, .int v343), (3, .ref 167), (2, .ref 115), (1, .ref 0), (0, .ref 1000000)]) kc_195_1501 rfl rfl ev343 rfl (xm_lt ml_195 rfl) ?_
              refine xi_goto (pc' := 23) kc_195_1504 rfl ?_
              exact kk v343 hh340 (by omega) K341 (xI_kept I KR342.2.1)
  · refine xi_iff (pc' := 429) kc_195_426 rfl (xc_eq_f (X := a8.toInt) (Y := 0) rfl (by decide) (by omega)) ?_
    refine xi_iconst (pc' := 430) (v := 1) kc_195_429 rfl rfl ?_
    refine xi_goto (pc' := 434) kc_195_430 rfl ?_
    obtain ⟨u344, u345, bu344, bu345, A346⟩ := xq_0 K.1
    refine xi_virtual (mj := 103) (as := [.int a2, .int a4, .int a6, .int 1]) (st1 := []) (lv0 := [(0, .ref 0), (1, .int a2), (2, .int a4), (3, .int a6), (4, .int 1)]) kc_195_434 rfl rfl rfl rfl rfl A346 (Nat.le_of_ble_eq_true rfl) (hJ _ _ _ _ (by decide)) (xm_le ml_103 rfl) rfl ?_
    refine xi_iload_n (pc' := 1) (x := a2) kc_103_0 rfl rfl ?_
    refine xi_static (mj := 104) (as := [.int a2]) (st1 := []) (lv0 := [(0, .int a2)]) kc_103_1 rfl rfl (Nat.le_of_ble_eq_true rfl) rfl rfl (Nat.le_of_ble_eq_true rfl) (hJ _ _ _ _ (by decide)) (xm_le ml_104 rfl) rfl ?_
    refine xi_iload_n (pc' := 1) (x := a2) kc_104_0 rfl rfl ?_
    by_cases c347 : a2.toInt < 0
    · refine xi_ift (pc' := 14) kc_104_1 rfl (xc_lt_t (X := a2.toInt) (Y := 0) rfl (by decide) (by omega)) ?_
      refine xi_iconst (pc' := 15) (v := 0) kc_104_14 rfl rfl ?_
      refine xi_ireturn kc_104_15 mr_104 rfl ?_
      show xw J ov 99 103 (4, [(0, .ref 0), (1, .int a2), (2, .int a4), (3, .int a6), (4, .int 1)], [.int 0], h) _
      refine xi_ift (pc' := 14) kc_103_4 rfl rfl ?_
      refine xi_aload_n (pc' := 15) (x := 0) kc_103_14 rfl rfl ?_
      refine xi_iconst (pc' := 16) (v := (-1)) kc_103_15 rfl rfl ?_
      refine xi_virtual (mj := 90) (as := [.int (-1)]) (st1 := []) (lv0 := [(0, .ref 0), (1, .int (-1))]) kc_103_16 rfl rfl rfl rfl rfl A346 (Nat.le_of_ble_eq_true rfl) (hJ _ _ _ _ (by decide)) (xm_le ml_90 rfl) rfl ?_
      refine xi_iload_n (pc' := 1) (x := (-1)) kc_90_0 rfl rfl ?_
      refine xi_ineg (pc' := 2) (v := 1) kc_90_1 rfl rfl ?_
      refine xi_istore_n (pc' := 3) (lv' := [(2, .int 1), (0, .ref 0), (1, .int (-1))]) kc_90_2 rfl rfl (xm_lt ml_90 rfl) ?_
      refine xi_iload_n (pc' := 4) (x := 1) kc_90_3 rfl rfl ?_
      refine xi_iff (pc' := 7) kc_90_4 rfl rfl ?_
      refine xi_iload_n (pc' := 8) (x := 1) kc_90_7 rfl rfl ?_
      refine xi_aload_n (pc' := 9) (x := 0) kc_90_8 rfl rfl ?_
      refine xi_getfield (pc' := 12) (v := .ref 94) kc_90_9 rfl rfl rfl A346 rfl ?_
      obtain ⟨y348, A348, hy348, ry348⟩ := xk_arr K.1 xD_94
      refine xi_arraylength (pc' := 13) (n := 7) (v := 7) kc_90_12 rfl (xl_lenI (by decide) (by decide) A348 hy348) rfl ?_
      refine xi_cmf (pc' := 16) kc_90_13 rfl rfl ?_
      refine xi_aload_n (pc' := 17) (x := 0) kc_90_16 rfl rfl ?_
      refine xi_getfield (pc' := 20) (v := .ref 94) kc_90_17 rfl rfl rfl A346 rfl ?_
      refine xi_iload_n (pc' := 21) (x := 1) kc_90_20 rfl rfl ?_
      refine xi_dup2 (pc' := 22) kc_90_21 rfl ⟨rfl, rfl⟩ ?_
      obtain ⟨v349, ev349, bv349, dv349⟩ := xj_get hy348 ry348 (i := 1) (by decide) (by decide)
      refine xi_iaload (pc' := 23) (v := v349) kc_90_22 rfl A348 (by decide) rfl (xi_in (by decide) (by rw [hy348]; decide)) ev349 ?_
      refine xi_iconst (pc' := 24) (v := 1) kc_90_23 rfl rfl ?_
      obtain ⟨v350, ev350⟩ : ∃ q : Int32, (v349 : Int32) + 1 = q := ⟨_, rfl⟩
      have rv350 := xc_rng v350
      refine xi_iadd (pc' := 25) (v := v350) kc_90_24 rfl ev350 ?_
      obtain ⟨y351, s351, hy351, ry351⟩ := xj_set (v := v350) hy348 ry348 1 (by first | omega | decide) (by first | omega | decide)
      refine xi_iastore (pc' := 26) (x' := y351) kc_90_25 rfl A348 rfl (xi_in (by decide) (by rw [hy348]; decide)) s351 (fun hh351 eh351 => ?_)
      have K352 := xk_pa K (xk_wa (by decide +kernel)) xD_94 hy351 ry351 eh351
      have KR353 := xk_pa KR (xk_wa (by decide +kernel)) xD_94 hy351 ry351 eh351
      refine xi_iload_n (pc' := 27) (x := (-1)) kc_90_26 rfl rfl ?_
      refine xi_ireturn kc_90_27 mr_90 rfl ?_
      show xw J ov 99 103 (19, [(0, .ref 0), (1, .int a2), (2, .int a4), (3, .int a6), (4, .int 1)], [.int (-1)], hh351) _
      refine xi_ireturn kc_103_19 mr_103 rfl ?_
      show xw J ov 100 195 (437, [(4, .int x4), (3, .ref 167), (2, .ref 115), (1, .ref 0), (0, .ref 1000000)], [.int (-1)], hh351) _
      refine xi_pop (pc' := 438) kc_195_437 rfl rfl ?_
      refine xi_aload_n (pc' := 439) (x := 115) kc_195_438 rfl rfl ?_
      refine xi_aload_n (pc' := 440) (x := 1000000) kc_195_439 rfl rfl ?_
      refine xi_iload (pc' := 442) (x := x4) kc_195_440 rfl rfl ?_
      refine xi_iconst (pc' := 443) (v := 1) kc_195_442 rfl rfl ?_
      refine xi_iadd (pc' := 444) (v := v1) kc_195_443 rfl ev1 ?_
      refine xi_ialoadO (pc' := 445) (v := a2) kc_195_444 rfl (by decide) hov0 (xi_in (by omega) (by omega)) ea2 ?_
      refine xi_aload_n (pc' := 446) (x := 1000000) kc_195_445 rfl rfl ?_
      refine xi_iload (pc' := 448) (x := x4) kc_195_446 rfl rfl ?_
      refine xi_iconst (pc' := 449) (v := 2) kc_195_448 rfl rfl ?_
      refine xi_iadd (pc' := 450) (v := v3) kc_195_449 rfl ev3 ?_
      refine xi_ialoadO (pc' := 451) (v := a4) kc_195_450 rfl (by decide) hov0 (xi_in (by omega) (by omega)) ea4 ?_
      refine xi_aload_n (pc' := 452) (x := 1000000) kc_195_451 rfl rfl ?_
      refine xi_iload (pc' := 454) (x := x4) kc_195_452 rfl rfl ?_
      refine xi_iconst (pc' := 455) (v := 3) kc_195_454 rfl rfl ?_
      refine xi_iadd (pc' := 456) (v := v5) kc_195_455 rfl ev5 ?_
      refine xi_ialoadO (pc' := 457) (v := a6) kc_195_456 rfl (by decide) hov0 (xi_in (by omega) (by omega)) ea6 ?_
      refine xi_aload_n (pc' := 458) (x := 1000000) kc_195_457 rfl rfl ?_
      refine xi_iload (pc' := 460) (x := x4) kc_195_458 rfl rfl ?_
      refine xi_iconst (pc' := 461) (v := 4) kc_195_460 rfl rfl ?_
      refine xi_iadd (pc' := 462) (v := v7) kc_195_461 rfl ev7 ?_
      refine xi_ialoadO (pc' := 463) (v := a8) kc_195_462 rfl (by decide) hov0 (xi_in (by omega) (by omega)) ea8 ?_
      refine xi_iff (pc' := 466) kc_195_463 rfl (xc_eq_f (X := a8.toInt) (Y := 0) rfl (by decide) (by omega)) ?_
      refine xi_iconst (pc' := 467) (v := 1) kc_195_466 rfl rfl ?_
      refine xi_goto (pc' := 471) kc_195_467 rfl ?_
      obtain ⟨u354, u355, u356, u357, u358, u359, u360, u361, u362, u363, u364, u365, u366, bu354, bu355, bu356, bu357, bu358, bu359, bu360, bu361, bu362, bu363, bu364, bu365, bu366, A367⟩ := xq_115 K.1
      have A368 := ((eh351.2.1 115 (by decide)).trans A367)
      refine xi_virtual (mj := 23) (as := [.int a2, .int a4, .int a6, .int 1]) (st1 := []) (lv0 := [(0, .ref 115), (1, .int a2), (2, .int a4), (3, .int a6), (4, .int 1)]) kc_195_471 rfl rfl rfl rfl rfl A368 (Nat.le_of_ble_eq_true rfl) (hJ _ _ _ _ (by decide)) (xm_le ml_23 rfl) rfl ?_
      refine xi_aload_n (pc' := 1) (x := 115) kc_23_0 rfl rfl ?_
      refine xi_iconst (pc' := 2) (v := 0) kc_23_1 rfl rfl ?_
      refine xi_putfield (pc' := 5) (fs' := [.int 0, .int u355, .ref 116, .ref 117, .ref 118, .ref 119, .ref 120, .ref 121, .ref 122, .ref 123, .ref 124, .ref 125, .ref 126, .ref 127, .ref 128, .ref 129, .int u356, .ref 130, .int u357, .ref 131, .ref 132, .ref 133, .ref 134, .int u358, .ref 135, .ref 136, .ref 137, .ref 138, .ref 139, .ref 140, .ref 141, .ref 142, .int u359, .int u360, .int u361, .ref 143, .ref 144, .ref 145, .ref 146, .ref 147, .ref 148, .int u362, .ref 149, .ref 150, .ref 151, .int u363, .ref 152, .ref 153, .ref 154, .ref 155, .ref 156, .ref 157, .ref 158, .ref 159, .int u364, .ref 160, .int u365, .ref 161, .ref 162, .ref 163, .ref 164, .int u366, .ref 165, .ref 166]) kc_23_2 rfl rfl rfl A368 rfl rfl rfl (Nat.le_of_ble_eq_true rfl) rfl (fun hh370 eh369 => ?_)
      have K371 := xk_pf (k := 0) (v := 0) K352 (xk_wf (by decide +kernel)) xD_115 A368 rfl (by first | omega | decide) (by first | omega | decide) eh369 rfl
      have KR372 := xk_pf (k := 0) (v := 0) KR353 (xk_wf (by decide +kernel)) xD_115 A368 rfl (by first | omega | decide) (by first | omega | decide) eh369 rfl
      refine xi_iload_n (pc' := 6) (x := a2) kc_23_5 rfl rfl ?_
      refine xi_static (mj := 24) (as := [.int a2]) (st1 := []) (lv0 := [(0, .int a2)]) kc_23_6 rfl rfl (Nat.le_of_ble_eq_true rfl) rfl rfl (Nat.le_of_ble_eq_true rfl) (hJ _ _ _ _ (by decide)) (xm_le ml_24 rfl) rfl ?_
      refine xi_iload_n (pc' := 1) (x := a2) kc_24_0 rfl rfl ?_
      refine xi_iconst (pc' := 2) (v := 0) kc_24_1 rfl rfl ?_
      refine xi_bipush (pc' := 4) (v := 11) kc_24_2 rfl rfl ?_
      refine xi_static (mj := 11) (as := [.int a2, .int 0, .int 11]) (st1 := []) (lv0 := [(0, .int a2), (1, .int 0), (2, .int 11)]) kc_24_4 rfl rfl (Nat.le_of_ble_eq_true rfl) rfl rfl (Nat.le_of_ble_eq_true rfl) (hJ _ _ _ _ (by decide)) (xm_le ml_11 rfl) rfl ?_
      refine xi_iload_n (pc' := 1) (x := a2) kc_11_0 rfl rfl ?_
      refine xi_iload_n (pc' := 2) (x := 0) kc_11_1 rfl rfl ?_
      refine xi_cmt (pc' := 14) kc_11_2 rfl (xc_lt_t (X := a2.toInt) (Y := 0) rfl (by decide) (by omega)) ?_
      refine xi_iconst (pc' := 15) (v := 0) kc_11_14 rfl rfl ?_
      refine xi_ireturn kc_11_15 mr_11 rfl ?_
      show xw J ov 98 24 (7, [(0, .int a2)], [.int 0], hh370) _
      refine xi_ireturn kc_24_7 mr_24 rfl ?_
      show xw J ov 99 23 (9, [(0, .ref 115), (1, .int a2), (2, .int a4), (3, .int a6), (4, .int 1)], [.int 0], hh370) _
      refine xi_ift (pc' := 19) kc_23_9 rfl rfl ?_
      refine xi_aload_n (pc' := 20) (x := 115) kc_23_19 rfl rfl ?_
      refine xi_iconst (pc' := 21) (v := (-1)) kc_23_20 rfl rfl ?_
      refine xi_virtual (mj := 12) (as := [.int (-1)]) (st1 := []) (lv0 := [(0, .ref 115), (1, .int (-1))]) kc_23_21 rfl rfl rfl rfl rfl eh369.1 (Nat.le_of_ble_eq_true rfl) (hJ _ _ _ _ (by decide)) (xm_le ml_12 rfl) rfl ?_
      refine xi_aload_n (pc' := 1) (x := 115) kc_12_0 rfl rfl ?_
      refine xi_getfield (pc' := 4) (v := .ref 140) kc_12_1 rfl rfl rfl eh369.1 rfl ?_
      refine xi_iload_n (pc' := 5) (x := (-1)) kc_12_4 rfl rfl ?_
      refine xi_ineg (pc' := 6) (v := 1) kc_12_5 rfl rfl ?_
      refine xi_dup2 (pc' := 7) kc_12_6 rfl ⟨rfl, rfl⟩ ?_
      obtain ⟨y373, A373, hy373, ry373⟩ := xk_arr K.1 xD_140
      obtain ⟨v374, ev374, bv374, dv374⟩ := xj_get hy373 ry373 (i := 1) (by decide) (by decide)
      have A375 := ((eh369.2.1 140 (by decide)).trans ((eh351.2.1 140 (by decide)).trans A373))
      refine xi_iaload (pc' := 8) (v := v374) kc_12_7 rfl A375 (by decide) rfl (xi_in (by decide) (by rw [hy373]; decide)) ev374 ?_
      refine xi_iconst (pc' := 9) (v := 1) kc_12_8 rfl rfl ?_
      obtain ⟨v376, ev376⟩ : ∃ q : Int32, (v374 : Int32) + 1 = q := ⟨_, rfl⟩
      have rv376 := xc_rng v376
      refine xi_iadd (pc' := 10) (v := v376) kc_12_9 rfl ev376 ?_
      obtain ⟨y377, s377, hy377, ry377⟩ := xj_set (v := v376) hy373 ry373 1 (by first | omega | decide) (by first | omega | decide)
      refine xi_iastore (pc' := 11) (x' := y377) kc_12_10 rfl A375 rfl (xi_in (by decide) (by rw [hy373]; decide)) s377 (fun hh377 eh377 => ?_)
      have K378 := xk_pa K371 (xk_wa (by decide +kernel)) xD_140 hy377 ry377 eh377
      have KR379 := xk_pa KR372 (xk_wa (by decide +kernel)) xD_140 hy377 ry377 eh377
      refine xi_iload_n (pc' := 12) (x := (-1)) kc_12_11 rfl rfl ?_
      refine xi_ireturn kc_12_12 mr_12 rfl ?_
      show xw J ov 99 23 (24, [(0, .ref 115), (1, .int a2), (2, .int a4), (3, .int a6), (4, .int 1)], [.int (-1)], hh377) _
      refine xi_ireturn kc_23_24 mr_23 rfl ?_
      show xw J ov 100 195 (474, [(4, .int x4), (3, .ref 167), (2, .ref 115), (1, .ref 0), (0, .ref 1000000)], [.int (-1)], hh377) _
      refine xi_pop (pc' := 475) kc_195_474 rfl rfl ?_
      refine xi_goto (pc' := 1501) kc_195_475 rfl ?_
      obtain ⟨v380, ev380⟩ : ∃ q : Int32, x4 + 6 = q := ⟨_, rfl⟩
      have zv380 : v380.toInt = (x4.toInt + 6) := by rw [← ev380]; exact (xz_add (X := x4.toInt) (Y := 6) rfl (by decide) (by omega) (by omega)).trans (by omega)
      refine xi_iinc (pc' := 1504) (x := x4) (v := v380) (lv' := [(4, .int v380), (3, .ref 167), (2, .ref 115), (1, .ref 0), (0, .ref 1000000)]) kc_195_1501 rfl rfl ev380 rfl (xm_lt ml_195 rfl) ?_
      refine xi_goto (pc' := 23) kc_195_1504 rfl ?_
      exact kk v380 hh377 (by omega) K378 (xI_kept I KR379.2.1)
    · refine xi_iff (pc' := 4) kc_104_1 rfl (xc_lt_f (X := a2.toInt) (Y := 0) rfl (by decide) (by omega)) ?_
      refine xi_iload_n (pc' := 5) (x := a2) kc_104_4 rfl rfl ?_
      refine xi_bipush (pc' := 7) (v := 12) kc_104_5 rfl rfl ?_
      by_cases c381 : 12 ≤ a2.toInt
      · refine xi_cmt (pc' := 14) kc_104_7 rfl (xc_ge_t (X := a2.toInt) (Y := 12) rfl (by decide) (by omega)) ?_
        refine xi_iconst (pc' := 15) (v := 0) kc_104_14 rfl rfl ?_
        refine xi_ireturn kc_104_15 mr_104 rfl ?_
        show xw J ov 99 103 (4, [(0, .ref 0), (1, .int a2), (2, .int a4), (3, .int a6), (4, .int 1)], [.int 0], h) _
        refine xi_ift (pc' := 14) kc_103_4 rfl rfl ?_
        refine xi_aload_n (pc' := 15) (x := 0) kc_103_14 rfl rfl ?_
        refine xi_iconst (pc' := 16) (v := (-1)) kc_103_15 rfl rfl ?_
        refine xi_virtual (mj := 90) (as := [.int (-1)]) (st1 := []) (lv0 := [(0, .ref 0), (1, .int (-1))]) kc_103_16 rfl rfl rfl rfl rfl A346 (Nat.le_of_ble_eq_true rfl) (hJ _ _ _ _ (by decide)) (xm_le ml_90 rfl) rfl ?_
        refine xi_iload_n (pc' := 1) (x := (-1)) kc_90_0 rfl rfl ?_
        refine xi_ineg (pc' := 2) (v := 1) kc_90_1 rfl rfl ?_
        refine xi_istore_n (pc' := 3) (lv' := [(2, .int 1), (0, .ref 0), (1, .int (-1))]) kc_90_2 rfl rfl (xm_lt ml_90 rfl) ?_
        refine xi_iload_n (pc' := 4) (x := 1) kc_90_3 rfl rfl ?_
        refine xi_iff (pc' := 7) kc_90_4 rfl rfl ?_
        refine xi_iload_n (pc' := 8) (x := 1) kc_90_7 rfl rfl ?_
        refine xi_aload_n (pc' := 9) (x := 0) kc_90_8 rfl rfl ?_
        refine xi_getfield (pc' := 12) (v := .ref 94) kc_90_9 rfl rfl rfl A346 rfl ?_
        obtain ⟨y382, A382, hy382, ry382⟩ := xk_arr K.1 xD_94
        refine xi_arraylength (pc' := 13) (n := 7) (v := 7) kc_90_12 rfl (xl_lenI (by decide) (by decide) A382 hy382) rfl ?_
        refine xi_cmf (pc' := 16) kc_90_13 rfl rfl ?_
        refine xi_aload_n (pc' := 17) (x := 0) kc_90_16 rfl rfl ?_
        refine xi_getfield (pc' := 20) (v := .ref 94) kc_90_17 rfl rfl rfl A346 rfl ?_
        refine xi_iload_n (pc' := 21) (x := 1) kc_90_20 rfl rfl ?_
        refine xi_dup2 (pc' := 22) kc_90_21 rfl ⟨rfl, rfl⟩ ?_
        obtain ⟨v383, ev383, bv383, dv383⟩ := xj_get hy382 ry382 (i := 1) (by decide) (by decide)
        refine xi_iaload (pc' := 23) (v := v383) kc_90_22 rfl A382 (by decide) rfl (xi_in (by decide) (by rw [hy382]; decide)) ev383 ?_
        refine xi_iconst (pc' := 24) (v := 1) kc_90_23 rfl rfl ?_
        obtain ⟨v384, ev384⟩ : ∃ q : Int32, (v383 : Int32) + 1 = q := ⟨_, rfl⟩
        have rv384 := xc_rng v384
        refine xi_iadd (pc' := 25) (v := v384) kc_90_24 rfl ev384 ?_
        obtain ⟨y385, s385, hy385, ry385⟩ := xj_set (v := v384) hy382 ry382 1 (by first | omega | decide) (by first | omega | decide)
        refine xi_iastore (pc' := 26) (x' := y385) kc_90_25 rfl A382 rfl (xi_in (by decide) (by rw [hy382]; decide)) s385 (fun hh385 eh385 => ?_)
        have K386 := xk_pa K (xk_wa (by decide +kernel)) xD_94 hy385 ry385 eh385
        have KR387 := xk_pa KR (xk_wa (by decide +kernel)) xD_94 hy385 ry385 eh385
        refine xi_iload_n (pc' := 27) (x := (-1)) kc_90_26 rfl rfl ?_
        refine xi_ireturn kc_90_27 mr_90 rfl ?_
        show xw J ov 99 103 (19, [(0, .ref 0), (1, .int a2), (2, .int a4), (3, .int a6), (4, .int 1)], [.int (-1)], hh385) _
        refine xi_ireturn kc_103_19 mr_103 rfl ?_
        show xw J ov 100 195 (437, [(4, .int x4), (3, .ref 167), (2, .ref 115), (1, .ref 0), (0, .ref 1000000)], [.int (-1)], hh385) _
        refine xi_pop (pc' := 438) kc_195_437 rfl rfl ?_
        refine xi_aload_n (pc' := 439) (x := 115) kc_195_438 rfl rfl ?_
        refine xi_aload_n (pc' := 440) (x := 1000000) kc_195_439 rfl rfl ?_
        refine xi_iload (pc' := 442) (x := x4) kc_195_440 rfl rfl ?_
        refine xi_iconst (pc' := 443) (v := 1) kc_195_442 rfl rfl ?_
        refine xi_iadd (pc' := 444) (v := v1) kc_195_443 rfl ev1 ?_
        refine xi_ialoadO (pc' := 445) (v := a2) kc_195_444 rfl (by decide) hov0 (xi_in (by omega) (by omega)) ea2 ?_
        refine xi_aload_n (pc' := 446) (x := 1000000) kc_195_445 rfl rfl ?_
        refine xi_iload (pc' := 448) (x := x4) kc_195_446 rfl rfl ?_
        refine xi_iconst (pc' := 449) (v := 2) kc_195_448 rfl rfl ?_
        refine xi_iadd (pc' := 450) (v := v3) kc_195_449 rfl ev3 ?_
        refine xi_ialoadO (pc' := 451) (v := a4) kc_195_450 rfl (by decide) hov0 (xi_in (by omega) (by omega)) ea4 ?_
        refine xi_aload_n (pc' := 452) (x := 1000000) kc_195_451 rfl rfl ?_
        refine xi_iload (pc' := 454) (x := x4) kc_195_452 rfl rfl ?_
        refine xi_iconst (pc' := 455) (v := 3) kc_195_454 rfl rfl ?_
        refine xi_iadd (pc' := 456) (v := v5) kc_195_455 rfl ev5 ?_
        refine xi_ialoadO (pc' := 457) (v := a6) kc_195_456 rfl (by decide) hov0 (xi_in (by omega) (by omega)) ea6 ?_
        refine xi_aload_n (pc' := 458) (x := 1000000) kc_195_457 rfl rfl ?_
        refine xi_iload (pc' := 460) (x := x4) kc_195_458 rfl rfl ?_
        refine xi_iconst (pc' := 461) (v := 4) kc_195_460 rfl rfl ?_
        refine xi_iadd (pc' := 462) (v := v7) kc_195_461 rfl ev7 ?_
        refine xi_ialoadO (pc' := 463) (v := a8) kc_195_462 rfl (by decide) hov0 (xi_in (by omega) (by omega)) ea8 ?_
        refine xi_iff (pc' := 466) kc_195_463 rfl (xc_eq_f (X := a8.toInt) (Y := 0) rfl (by decide) (by omega)) ?_
        refine xi_iconst (pc' := 467) (v := 1) kc_195_466 rfl rfl ?_
        refine xi_goto (pc' := 471) kc_195_467 rfl ?_
        obtain ⟨u388, u389, u390, u391, u392, u393, u394, u395, u396, u397, u398, u399, u400, bu388, bu389, bu390, bu391, bu392, bu393, bu394, bu395, bu396, bu397, bu398, bu399, bu400, A401⟩ := xq_115 K.1
        have A402 := ((eh385.2.1 115 (by decide)).trans A401)
        refine xi_virtual (mj := 23) (as := [.int a2, .int a4, .int a6, .int 1]) (st1 := []) (lv0 := [(0, .ref 115), (1, .int a2), (2, .int a4), (3, .int a6), (4, .int 1)]) kc_195_471 rfl rfl rfl rfl rfl A402 (Nat.le_of_ble_eq_true rfl) (hJ _ _ _ _ (by decide)) (xm_le ml_23 rfl) rfl ?_
        refine xi_aload_n (pc' := 1) (x := 115) kc_23_0 rfl rfl ?_
        refine xi_iconst (pc' := 2) (v := 0) kc_23_1 rfl rfl ?_
        refine xi_putfield (pc' := 5) (fs' := [.int 0, .int u389, .ref 116, .ref 117, .ref 118, .ref 119, .ref 120, .ref 121, .ref 122, .ref 123, .ref 124, .ref 125, .ref 126, .ref 127, .ref 128, .ref 129, .int u390, .ref 130, .int u391, .ref 131, .ref 132, .ref 133, .ref 134, .int u392, .ref 135, .ref 136, .ref 137, .ref 138, .ref 139, .ref 140, .ref 141, .ref 142, .int u393, .int u394, .int u395, .ref 143, .ref 144, .ref 145, .ref 146, .ref 147, .ref 148, .int u396, .ref 149, .ref 150, .ref 151, .int u397, .ref 152, .ref 153, .ref 154, .ref 155, .ref 156, .ref 157, .ref 158, .ref 159, .int u398, .ref 160, .int u399, .ref 161, .ref 162, .ref 163, .ref 164, .int u400, .ref 165, .ref 166]) kc_23_2 rfl rfl rfl A402 rfl rfl rfl (Nat.le_of_ble_eq_true rfl) rfl (fun hh404 eh403 => ?_)
        have K405 := xk_pf (k := 0) (v := 0) K386 (xk_wf (by decide +kernel)) xD_115 A402 rfl (by first | omega | decide) (by first | omega | decide) eh403 rfl
        have KR406 := xk_pf (k := 0) (v := 0) KR387 (xk_wf (by decide +kernel)) xD_115 A402 rfl (by first | omega | decide) (by first | omega | decide) eh403 rfl
        refine xi_iload_n (pc' := 6) (x := a2) kc_23_5 rfl rfl ?_
        refine xi_static (mj := 24) (as := [.int a2]) (st1 := []) (lv0 := [(0, .int a2)]) kc_23_6 rfl rfl (Nat.le_of_ble_eq_true rfl) rfl rfl (Nat.le_of_ble_eq_true rfl) (hJ _ _ _ _ (by decide)) (xm_le ml_24 rfl) rfl ?_
        refine xi_iload_n (pc' := 1) (x := a2) kc_24_0 rfl rfl ?_
        refine xi_iconst (pc' := 2) (v := 0) kc_24_1 rfl rfl ?_
        refine xi_bipush (pc' := 4) (v := 11) kc_24_2 rfl rfl ?_
        refine xi_static (mj := 11) (as := [.int a2, .int 0, .int 11]) (st1 := []) (lv0 := [(0, .int a2), (1, .int 0), (2, .int 11)]) kc_24_4 rfl rfl (Nat.le_of_ble_eq_true rfl) rfl rfl (Nat.le_of_ble_eq_true rfl) (hJ _ _ _ _ (by decide)) (xm_le ml_11 rfl) rfl ?_
        refine xi_iload_n (pc' := 1) (x := a2) kc_11_0 rfl rfl ?_
        refine xi_iload_n (pc' := 2) (x := 0) kc_11_1 rfl rfl ?_
        refine xi_cmf (pc' := 5) kc_11_2 rfl (xc_lt_f (X := a2.toInt) (Y := 0) rfl (by decide) (by omega)) ?_
        refine xi_iload_n (pc' := 6) (x := a2) kc_11_5 rfl rfl ?_
        refine xi_iload_n (pc' := 7) (x := 11) kc_11_6 rfl rfl ?_
        refine xi_cmt (pc' := 14) kc_11_7 rfl (xc_gt_t (X := a2.toInt) (Y := 11) rfl (by decide) (by omega)) ?_
        refine xi_iconst (pc' := 15) (v := 0) kc_11_14 rfl rfl ?_
        refine xi_ireturn kc_11_15 mr_11 rfl ?_
        show xw J ov 98 24 (7, [(0, .int a2)], [.int 0], hh404) _
        refine xi_ireturn kc_24_7 mr_24 rfl ?_
        show xw J ov 99 23 (9, [(0, .ref 115), (1, .int a2), (2, .int a4), (3, .int a6), (4, .int 1)], [.int 0], hh404) _
        refine xi_ift (pc' := 19) kc_23_9 rfl rfl ?_
        refine xi_aload_n (pc' := 20) (x := 115) kc_23_19 rfl rfl ?_
        refine xi_iconst (pc' := 21) (v := (-1)) kc_23_20 rfl rfl ?_
        refine xi_virtual (mj := 12) (as := [.int (-1)]) (st1 := []) (lv0 := [(0, .ref 115), (1, .int (-1))]) kc_23_21 rfl rfl rfl rfl rfl eh403.1 (Nat.le_of_ble_eq_true rfl) (hJ _ _ _ _ (by decide)) (xm_le ml_12 rfl) rfl ?_
        refine xi_aload_n (pc' := 1) (x := 115) kc_12_0 rfl rfl ?_
        refine xi_getfield (pc' := 4) (v := .ref 140) kc_12_1 rfl rfl rfl eh403.1 rfl ?_
        refine xi_iload_n (pc' := 5) (x := (-1)) kc_12_4 rfl rfl ?_
        refine xi_ineg (pc' := 6) (v := 1) kc_12_5 rfl rfl ?_
        refine xi_dup2 (pc' := 7) kc_12_6 rfl ⟨rfl, rfl⟩ ?_
        obtain ⟨y407, A407, hy407, ry407⟩ := xk_arr K.1 xD_140
        obtain ⟨v408, ev408, bv408, dv408⟩ := xj_get hy407 ry407 (i := 1) (by decide) (by decide)
        have A409 := ((eh403.2.1 140 (by decide)).trans ((eh385.2.1 140 (by decide)).trans A407))
        refine xi_iaload (pc' := 8) (v := v408) kc_12_7 rfl A409 (by decide) rfl (xi_in (by decide) (by rw [hy407]; decide)) ev408 ?_
        refine xi_iconst (pc' := 9) (v := 1) kc_12_8 rfl rfl ?_
        obtain ⟨v410, ev410⟩ : ∃ q : Int32, (v408 : Int32) + 1 = q := ⟨_, rfl⟩
        have rv410 := xc_rng v410
        refine xi_iadd (pc' := 10) (v := v410) kc_12_9 rfl ev410 ?_
        obtain ⟨y411, s411, hy411, ry411⟩ := xj_set (v := v410) hy407 ry407 1 (by first | omega | decide) (by first | omega | decide)
        refine xi_iastore (pc' := 11) (x' := y411) kc_12_10 rfl A409 rfl (xi_in (by decide) (by rw [hy407]; decide)) s411 (fun hh411 eh411 => ?_)
        have K412 := xk_pa K405 (xk_wa (by decide +kernel)) xD_140 hy411 ry411 eh411
        have KR413 := xk_pa KR406 (xk_wa (by decide +kernel)) xD_140 hy411 ry411 eh411
        refine xi_iload_n (pc' := 12) (x := (-1)) kc_12_11 rfl rfl ?_
        refine xi_ireturn kc_12_12 mr_12 rfl ?_
        show xw J ov 99 23 (24, [(0, .ref 115), (1, .int a2), (2, .int a4), (3, .int a6), (4, .int 1)], [.int (-1)], hh411) _
        refine xi_ireturn kc_23_24 mr_23 rfl ?_
        show xw J ov 100 195 (474, [(4, .int x4), (3, .ref 167), (2, .ref 115), (1, .ref 0), (0, .ref 1000000)], [.int (-1)], hh411) _
        refine xi_pop (pc' := 475) kc_195_474 rfl rfl ?_
        refine xi_goto (pc' := 1501) kc_195_475 rfl ?_
        obtain ⟨v414, ev414⟩ : ∃ q : Int32, x4 + 6 = q := ⟨_, rfl⟩
        have zv414 : v414.toInt = (x4.toInt + 6) := by rw [← ev414]; exact (xz_add (X := x4.toInt) (Y := 6) rfl (by decide) (by omega) (by omega)).trans (by omega)
        refine xi_iinc (pc' := 1504) (x := x4) (v := v414) (lv' := [(4, .int v414), (3, .ref 167), (2, .ref 115), (1, .ref 0), (0, .ref 1000000)]) kc_195_1501 rfl rfl ev414 rfl (xm_lt ml_195 rfl) ?_
        refine xi_goto (pc' := 23) kc_195_1504 rfl ?_
        exact kk v414 hh411 (by omega) K412 (xI_kept I KR413.2.1)
      · refine xi_cmf (pc' := 10) kc_104_7 rfl (xc_ge_f (X := a2.toInt) (Y := 12) rfl (by decide) (by omega)) ?_
        refine xi_iconst (pc' := 11) (v := 1) kc_104_10 rfl rfl ?_
        refine xi_goto (pc' := 15) kc_104_11 rfl ?_
        refine xi_ireturn kc_104_15 mr_104 rfl ?_
        show xw J ov 99 103 (4, [(0, .ref 0), (1, .int a2), (2, .int a4), (3, .int a6), (4, .int 1)], [.int 1], h) _
        refine xi_iff (pc' := 7) kc_103_4 rfl rfl ?_
        refine xi_iload_n (pc' := 8) (x := a4) kc_103_7 rfl rfl ?_
        refine xi_static (mj := 89) (as := [.int a4]) (st1 := []) (lv0 := [(0, .int a4)]) kc_103_8 rfl rfl (Nat.le_of_ble_eq_true rfl) rfl rfl (Nat.le_of_ble_eq_true rfl) (hJ _ _ _ _ (by decide)) (xm_le ml_89 rfl) rfl ?_
        refine xi_iload_n (pc' := 1) (x := a4) kc_89_0 rfl rfl ?_
        by_cases c415 : a4.toInt < 0
        · refine xi_ift (pc' := 14) kc_89_1 rfl (xc_lt_t (X := a4.toInt) (Y := 0) rfl (by decide) (by omega)) ?_
          refine xi_iconst (pc' := 15) (v := 0) kc_89_14 rfl rfl ?_
          refine xi_ireturn kc_89_15 mr_89 rfl ?_
          show xw J ov 99 103 (11, [(0, .ref 0), (1, .int a2), (2, .int a4), (3, .int a6), (4, .int 1)], [.int 0], h) _
          refine xi_iff (pc' := 14) kc_103_11 rfl rfl ?_
          refine xi_aload_n (pc' := 15) (x := 0) kc_103_14 rfl rfl ?_
          refine xi_iconst (pc' := 16) (v := (-1)) kc_103_15 rfl rfl ?_
          refine xi_virtual (mj := 90) (as := [.int (-1)]) (st1 := []) (lv0 := [(0, .ref 0), (1, .int (-1))]) kc_103_16 rfl rfl rfl rfl rfl A346 (Nat.le_of_ble_eq_true rfl) (hJ _ _ _ _ (by decide)) (xm_le ml_90 rfl) rfl ?_
          refine xi_iload_n (pc' := 1) (x := (-1)) kc_90_0 rfl rfl ?_
          refine xi_ineg (pc' := 2) (v := 1) kc_90_1 rfl rfl ?_
          refine xi_istore_n (pc' := 3) (lv' := [(2, .int 1), (0, .ref 0), (1, .int (-1))]) kc_90_2 rfl rfl (xm_lt ml_90 rfl) ?_
          refine xi_iload_n (pc' := 4) (x := 1) kc_90_3 rfl rfl ?_
          refine xi_iff (pc' := 7) kc_90_4 rfl rfl ?_
          refine xi_iload_n (pc' := 8) (x := 1) kc_90_7 rfl rfl ?_
          refine xi_aload_n (pc' := 9) (x := 0) kc_90_8 rfl rfl ?_
          refine xi_getfield (pc' := 12) (v := .ref 94) kc_90_9 rfl rfl rfl A346 rfl ?_
          obtain ⟨y416, A416, hy416, ry416⟩ := xk_arr K.1 xD_94
          refine xi_arraylength (pc' := 13) (n := 7) (v := 7) kc_90_12 rfl (xl_lenI (by decide) (by decide) A416 hy416) rfl ?_
          refine xi_cmf (pc' := 16) kc_90_13 rfl rfl ?_
          refine xi_aload_n (pc' := 17) (x := 0) kc_90_16 rfl rfl ?_
          refine xi_getfield (pc' := 20) (v := .ref 94) kc_90_17 rfl rfl rfl A346 rfl ?_
          refine xi_iload_n (pc' := 21) (x := 1) kc_90_20 rfl rfl ?_
          refine xi_dup2 (pc' := 22) kc_90_21 rfl ⟨rfl, rfl⟩ ?_
          obtain ⟨v417, ev417, bv417, dv417⟩ := xj_get hy416 ry416 (i := 1) (by decide) (by decide)
          refine xi_iaload (pc' := 23) (v := v417) kc_90_22 rfl A416 (by decide) rfl (xi_in (by decide) (by rw [hy416]; decide)) ev417 ?_
          refine xi_iconst (pc' := 24) (v := 1) kc_90_23 rfl rfl ?_
          obtain ⟨v418, ev418⟩ : ∃ q : Int32, (v417 : Int32) + 1 = q := ⟨_, rfl⟩
          have rv418 := xc_rng v418
          refine xi_iadd (pc' := 25) (v := v418) kc_90_24 rfl ev418 ?_
          obtain ⟨y419, s419, hy419, ry419⟩ := xj_set (v := v418) hy416 ry416 1 (by first | omega | decide) (by first | omega | decide)
          refine xi_iastore (pc' := 26) (x' := y419) kc_90_25 rfl A416 rfl (xi_in (by decide) (by rw [hy416]; decide)) s419 (fun hh419 eh419 => ?_)
          have K420 := xk_pa K (xk_wa (by decide +kernel)) xD_94 hy419 ry419 eh419
          have KR421 := xk_pa KR (xk_wa (by decide +kernel)) xD_94 hy419 ry419 eh419
          refine xi_iload_n (pc' := 27) (x := (-1)) kc_90_26 rfl rfl ?_
          refine xi_ireturn kc_90_27 mr_90 rfl ?_
          show xw J ov 99 103 (19, [(0, .ref 0), (1, .int a2), (2, .int a4), (3, .int a6), (4, .int 1)], [.int (-1)], hh419) _
          refine xi_ireturn kc_103_19 mr_103 rfl ?_
          show xw J ov 100 195 (437, [(4, .int x4), (3, .ref 167), (2, .ref 115), (1, .ref 0), (0, .ref 1000000)], [.int (-1)], hh419) _
          refine xi_pop (pc' := 438) kc_195_437 rfl rfl ?_
          refine xi_aload_n (pc' := 439) (x := 115) kc_195_438 rfl rfl ?_
          refine xi_aload_n (pc' := 440) (x := 1000000) kc_195_439 rfl rfl ?_
          refine xi_iload (pc' := 442) (x := x4) kc_195_440 rfl rfl ?_
          refine xi_iconst (pc' := 443) (v := 1) kc_195_442 rfl rfl ?_
          refine xi_iadd (pc' := 444) (v := v1) kc_195_443 rfl ev1 ?_
          refine xi_ialoadO (pc' := 445) (v := a2) kc_195_444 rfl (by decide) hov0 (xi_in (by omega) (by omega)) ea2 ?_
          refine xi_aload_n (pc' := 446) (x := 1000000) kc_195_445 rfl rfl ?_
          refine xi_iload (pc' := 448) (x := x4) kc_195_446 rfl rfl ?_
          refine xi_iconst (pc' := 449) (v := 2) kc_195_448 rfl rfl ?_
          refine xi_iadd (pc' := 450) (v := v3) kc_195_449 rfl ev3 ?_
          refine xi_ialoadO (pc' := 451) (v := a4) kc_195_450 rfl (by decide) hov0 (xi_in (by omega) (by omega)) ea4 ?_
          refine xi_aload_n (pc' := 452) (x := 1000000) kc_195_451 rfl rfl ?_
          refine xi_iload (pc' := 454) (x := x4) kc_195_452 rfl rfl ?_
          refine xi_iconst (pc' := 455) (v := 3) kc_195_454 rfl rfl ?_
          refine xi_iadd (pc' := 456) (v := v5) kc_195_455 rfl ev5 ?_
          refine xi_ialoadO (pc' := 457) (v := a6) kc_195_456 rfl (by decide) hov0 (xi_in (by omega) (by omega)) ea6 ?_
          refine xi_aload_n (pc' := 458) (x := 1000000) kc_195_457 rfl rfl ?_
          refine xi_iload (pc' := 460) (x := x4) kc_195_458 rfl rfl ?_
          refine xi_iconst (pc' := 461) (v := 4) kc_195_460 rfl rfl ?_
          refine xi_iadd (pc' := 462) (v := v7) kc_195_461 rfl ev7 ?_
          refine xi_ialoadO (pc' := 463) (v := a8) kc_195_462 rfl (by decide) hov0 (xi_in (by omega) (by omega)) ea8 ?_
          refine xi_iff (pc' := 466) kc_195_463 rfl (xc_eq_f (X := a8.toInt) (Y := 0) rfl (by decide) (by omega)) ?_
          refine xi_iconst (pc' := 467) (v := 1) kc_195_466 rfl rfl ?_
          refine xi_goto (pc' := 471) kc_195_467 rfl ?_
          obtain ⟨u422, u423, u424, u425, u426, u427, u428, u429, u430, u431, u432, u433, u434, bu422, bu423, bu424, bu425, bu426, bu427, bu428, bu429, bu430, bu431, bu432, bu433, bu434, A435⟩ := xq_115 K.1
          have A436 := ((eh419.2.1 115 (by decide)).trans A435)
          refine xi_virtual (mj := 23) (as := [.int a2, .int a4, .int a6, .int 1]) (st1 := []) (lv0 := [(0, .ref 115), (1, .int a2), (2, .int a4), (3, .int a6), (4, .int 1)]) kc_195_471 rfl rfl rfl rfl rfl A436 (Nat.le_of_ble_eq_true rfl) (hJ _ _ _ _ (by decide)) (xm_le ml_23 rfl) rfl ?_
          refine xi_aload_n (pc' := 1) (x := 115) kc_23_0 rfl rfl ?_
          refine xi_iconst (pc' := 2) (v := 0) kc_23_1 rfl rfl ?_
          refine xi_putfield (pc' := 5) (fs' := [.int 0, .int u423, .ref 116, .ref 117, .ref 118, .ref 119, .ref 120, .ref 121, .ref 122, .ref 123, .ref 124, .ref 125, .ref 126, .ref 127, .ref 128, .ref 129, .int u424, .ref 130, .int u425, .ref 131, .ref 132, .ref 133, .ref 134, .int u426, .ref 135, .ref 136, .ref 137, .ref 138, .ref 139, .ref 140, .ref 141, .ref 142, .int u427, .int u428, .int u429, .ref 143, .ref 144, .ref 145, .ref 146, .ref 147, .ref 148, .int u430, .ref 149, .ref 150, .ref 151, .int u431, .ref 152, .ref 153, .ref 154, .ref 155, .ref 156, .ref 157, .ref 158, .ref 159, .int u432, .ref 160, .int u433, .ref 161, .ref 162, .ref 163, .ref 164, .int u434, .ref 165, .ref 166]) kc_23_2 rfl rfl rfl A436 rfl rfl rfl (Nat.le_of_ble_eq_true rfl) rfl (fun hh438 eh437 => ?_)
          have K439 := xk_pf (k := 0) (v := 0) K420 (xk_wf (by decide +kernel)) xD_115 A436 rfl (by first | omega | decide) (by first | omega | decide) eh437 rfl
          have KR440 := xk_pf (k := 0) (v := 0) KR421 (xk_wf (by decide +kernel)) xD_115 A436 rfl (by first | omega | decide) (by first | omega | decide) eh437 rfl
          refine xi_iload_n (pc' := 6) (x := a2) kc_23_5 rfl rfl ?_
          refine xi_static (mj := 24) (as := [.int a2]) (st1 := []) (lv0 := [(0, .int a2)]) kc_23_6 rfl rfl (Nat.le_of_ble_eq_true rfl) rfl rfl (Nat.le_of_ble_eq_true rfl) (hJ _ _ _ _ (by decide)) (xm_le ml_24 rfl) rfl ?_
          refine xi_iload_n (pc' := 1) (x := a2) kc_24_0 rfl rfl ?_
          refine xi_iconst (pc' := 2) (v := 0) kc_24_1 rfl rfl ?_
          refine xi_bipush (pc' := 4) (v := 11) kc_24_2 rfl rfl ?_
          refine xi_static (mj := 11) (as := [.int a2, .int 0, .int 11]) (st1 := []) (lv0 := [(0, .int a2), (1, .int 0), (2, .int 11)]) kc_24_4 rfl rfl (Nat.le_of_ble_eq_true rfl) rfl rfl (Nat.le_of_ble_eq_true rfl) (hJ _ _ _ _ (by decide)) (xm_le ml_11 rfl) rfl ?_
          refine xi_iload_n (pc' := 1) (x := a2) kc_11_0 rfl rfl ?_
          refine xi_iload_n (pc' := 2) (x := 0) kc_11_1 rfl rfl ?_
          refine xi_cmf (pc' := 5) kc_11_2 rfl (xc_lt_f (X := a2.toInt) (Y := 0) rfl (by decide) (by omega)) ?_
          refine xi_iload_n (pc' := 6) (x := a2) kc_11_5 rfl rfl ?_
          refine xi_iload_n (pc' := 7) (x := 11) kc_11_6 rfl rfl ?_
          refine xi_cmf (pc' := 10) kc_11_7 rfl (xc_gt_f (X := a2.toInt) (Y := 11) rfl (by decide) (by omega)) ?_
          refine xi_iconst (pc' := 11) (v := 1) kc_11_10 rfl rfl ?_
          refine xi_goto (pc' := 15) kc_11_11 rfl ?_
          refine xi_ireturn kc_11_15 mr_11 rfl ?_
          show xw J ov 98 24 (7, [(0, .int a2)], [.int 1], hh438) _
          refine xi_ireturn kc_24_7 mr_24 rfl ?_
          show xw J ov 99 23 (9, [(0, .ref 115), (1, .int a2), (2, .int a4), (3, .int a6), (4, .int 1)], [.int 1], hh438) _
          refine xi_iff (pc' := 12) kc_23_9 rfl rfl ?_
          refine xi_iload_n (pc' := 13) (x := a4) kc_23_12 rfl rfl ?_
          refine xi_static (mj := 10) (as := [.int a4]) (st1 := []) (lv0 := [(0, .int a4)]) kc_23_13 rfl rfl (Nat.le_of_ble_eq_true rfl) rfl rfl (Nat.le_of_ble_eq_true rfl) (hJ _ _ _ _ (by decide)) (xm_le ml_10 rfl) rfl ?_
          refine xi_iload_n (pc' := 1) (x := a4) kc_10_0 rfl rfl ?_
          refine xi_iconst (pc' := 2) (v := 0) kc_10_1 rfl rfl ?_
          refine xi_iconst (pc' := 3) (v := 5) kc_10_2 rfl rfl ?_
          refine xi_static (mj := 11) (as := [.int a4, .int 0, .int 5]) (st1 := []) (lv0 := [(0, .int a4), (1, .int 0), (2, .int 5)]) kc_10_3 rfl rfl (Nat.le_of_ble_eq_true rfl) rfl rfl (Nat.le_of_ble_eq_true rfl) (hJ _ _ _ _ (by decide)) (xm_le ml_11 rfl) rfl ?_
          refine xi_iload_n (pc' := 1) (x := a4) kc_11_0 rfl rfl ?_
          refine xi_iload_n (pc' := 2) (x := 0) kc_11_1 rfl rfl ?_
          refine xi_cmt (pc' := 14) kc_11_2 rfl (xc_lt_t (X := a4.toInt) (Y := 0) rfl (by decide) (by omega)) ?_
          refine xi_iconst (pc' := 15) (v := 0) kc_11_14 rfl rfl ?_
          refine xi_ireturn kc_11_15 mr_11 rfl ?_
          show xw J ov 98 10 (6, [(0, .int a4)], [.int 0], hh438) _
          refine xi_ireturn kc_10_6 mr_10 rfl ?_
          show xw J ov 99 23 (16, [(0, .ref 115), (1, .int a2), (2, .int a4), (3, .int a6), (4, .int 1)], [.int 0], hh438) _
          refine xi_iff (pc' := 19) kc_23_16 rfl rfl ?_
          refine xi_aload_n (pc' := 20) (x := 115) kc_23_19 rfl rfl ?_
          refine xi_iconst (pc' := 21) (v := (-1)) kc_23_20 rfl rfl ?_
          refine xi_virtual (mj := 12) (as := [.int (-1)]) (st1 := []) (lv0 := [(0, .ref 115), (1, .int (-1))]) kc_23_21 rfl rfl rfl rfl rfl eh437.1 (Nat.le_of_ble_eq_true rfl) (hJ _ _ _ _ (by decide)) (xm_le ml_12 rfl) rfl ?_
          refine xi_aload_n (pc' := 1) (x := 115) kc_12_0 rfl rfl ?_
          refine xi_getfield (pc' := 4) (v := .ref 140) kc_12_1 rfl rfl rfl eh437.1 rfl ?_
          refine xi_iload_n (pc' := 5) (x := (-1)) kc_12_4 rfl rfl ?_
          refine xi_ineg (pc' := 6) (v := 1) kc_12_5 rfl rfl ?_
          refine xi_dup2 (pc' := 7) kc_12_6 rfl ⟨rfl, rfl⟩ ?_
          obtain ⟨y441, A441, hy441, ry441⟩ := xk_arr K.1 xD_140
          obtain ⟨v442, ev442, bv442, dv442⟩ := xj_get hy441 ry441 (i := 1) (by decide) (by decide)
          have A443 := ((eh437.2.1 140 (by decide)).trans ((eh419.2.1 140 (by decide)).trans A441))
          refine xi_iaload (pc' := 8) (v := v442) kc_12_7 rfl A443 (by decide) rfl (xi_in (by decide) (by rw [hy441]; decide)) ev442 ?_
          refine xi_iconst (pc' := 9) (v := 1) kc_12_8 rfl rfl ?_
          obtain ⟨v444, ev444⟩ : ∃ q : Int32, (v442 : Int32) + 1 = q := ⟨_, rfl⟩
          have rv444 := xc_rng v444
          refine xi_iadd (pc' := 10) (v := v444) kc_12_9 rfl ev444 ?_
          obtain ⟨y445, s445, hy445, ry445⟩ := xj_set (v := v444) hy441 ry441 1 (by first | omega | decide) (by first | omega | decide)
          refine xi_iastore (pc' := 11) (x' := y445) kc_12_10 rfl A443 rfl (xi_in (by decide) (by rw [hy441]; decide)) s445 (fun hh445 eh445 => ?_)
          have K446 := xk_pa K439 (xk_wa (by decide +kernel)) xD_140 hy445 ry445 eh445
          have KR447 := xk_pa KR440 (xk_wa (by decide +kernel)) xD_140 hy445 ry445 eh445
          refine xi_iload_n (pc' := 12) (x := (-1)) kc_12_11 rfl rfl ?_
          refine xi_ireturn kc_12_12 mr_12 rfl ?_
          show xw J ov 99 23 (24, [(0, .ref 115), (1, .int a2), (2, .int a4), (3, .int a6), (4, .int 1)], [.int (-1)], hh445) _
          refine xi_ireturn kc_23_24 mr_23 rfl ?_
          show xw J ov 100 195 (474, [(4, .int x4), (3, .ref 167), (2, .ref 115), (1, .ref 0), (0, .ref 1000000)], [.int (-1)], hh445) _
          refine xi_pop (pc' := 475) kc_195_474 rfl rfl ?_
          refine xi_goto (pc' := 1501) kc_195_475 rfl ?_
          obtain ⟨v448, ev448⟩ : ∃ q : Int32, x4 + 6 = q := ⟨_, rfl⟩
          have zv448 : v448.toInt = (x4.toInt + 6) := by rw [← ev448]; exact (xz_add (X := x4.toInt) (Y := 6) rfl (by decide) (by omega) (by omega)).trans (by omega)
          refine xi_iinc (pc' := 1504) (x := x4) (v := v448) (lv' := [(4, .int v448), (3, .ref 167), (2, .ref 115), (1, .ref 0), (0, .ref 1000000)]) kc_195_1501 rfl rfl ev448 rfl (xm_lt ml_195 rfl) ?_
          refine xi_goto (pc' := 23) kc_195_1504 rfl ?_
          exact kk v448 hh445 (by omega) K446 (xI_kept I KR447.2.1)
        · refine xi_iff (pc' := 4) kc_89_1 rfl (xc_lt_f (X := a4.toInt) (Y := 0) rfl (by decide) (by omega)) ?_
          refine xi_iload_n (pc' := 5) (x := a4) kc_89_4 rfl rfl ?_
          refine xi_bipush (pc' := 7) (v := 6) kc_89_5 rfl rfl ?_
          by_cases c449 : 6 ≤ a4.toInt
          · refine xi_cmt (pc' := 14) kc_89_7 rfl (xc_ge_t (X := a4.toInt) (Y := 6) rfl (by decide) (by omega)) ?_
            refine xi_iconst (pc' := 15) (v := 0) kc_89_14 rfl rfl ?_
            refine xi_ireturn kc_89_15 mr_89 rfl ?_
            show xw J ov 99 103 (11, [(0, .ref 0), (1, .int a2), (2, .int a4), (3, .int a6), (4, .int 1)], [.int 0], h) _
            refine xi_iff (pc' := 14) kc_103_11 rfl rfl ?_
            refine xi_aload_n (pc' := 15) (x := 0) kc_103_14 rfl rfl ?_
            refine xi_iconst (pc' := 16) (v := (-1)) kc_103_15 rfl rfl ?_
            refine xi_virtual (mj := 90) (as := [.int (-1)]) (st1 := []) (lv0 := [(0, .ref 0), (1, .int (-1))]) kc_103_16 rfl rfl rfl rfl rfl A346 (Nat.le_of_ble_eq_true rfl) (hJ _ _ _ _ (by decide)) (xm_le ml_90 rfl) rfl ?_
            refine xi_iload_n (pc' := 1) (x := (-1)) kc_90_0 rfl rfl ?_
            refine xi_ineg (pc' := 2) (v := 1) kc_90_1 rfl rfl ?_
            refine xi_istore_n (pc' := 3) (lv' := [(2, .int 1), (0, .ref 0), (1, .int (-1))]) kc_90_2 rfl rfl (xm_lt ml_90 rfl) ?_
            refine xi_iload_n (pc' := 4) (x := 1) kc_90_3 rfl rfl ?_
            refine xi_iff (pc' := 7) kc_90_4 rfl rfl ?_
            refine xi_iload_n (pc' := 8) (x := 1) kc_90_7 rfl rfl ?_
            refine xi_aload_n (pc' := 9) (x := 0) kc_90_8 rfl rfl ?_
            refine xi_getfield (pc' := 12) (v := .ref 94) kc_90_9 rfl rfl rfl A346 rfl ?_
            obtain ⟨y450, A450, hy450, ry450⟩ := xk_arr K.1 xD_94
            refine xi_arraylength (pc' := 13) (n := 7) (v := 7) kc_90_12 rfl (xl_lenI (by decide) (by decide) A450 hy450) rfl ?_
            refine xi_cmf (pc' := 16) kc_90_13 rfl rfl ?_
            refine xi_aload_n (pc' := 17) (x := 0) kc_90_16 rfl rfl ?_
            refine xi_getfield (pc' := 20) (v := .ref 94) kc_90_17 rfl rfl rfl A346 rfl ?_
            refine xi_iload_n (pc' := 21) (x := 1) kc_90_20 rfl rfl ?_
            refine xi_dup2 (pc' := 22) kc_90_21 rfl ⟨rfl, rfl⟩ ?_
            obtain ⟨v451, ev451, bv451, dv451⟩ := xj_get hy450 ry450 (i := 1) (by decide) (by decide)
            refine xi_iaload (pc' := 23) (v := v451) kc_90_22 rfl A450 (by decide) rfl (xi_in (by decide) (by rw [hy450]; decide)) ev451 ?_
            refine xi_iconst (pc' := 24) (v := 1) kc_90_23 rfl rfl ?_
            obtain ⟨v452, ev452⟩ : ∃ q : Int32, (v451 : Int32) + 1 = q := ⟨_, rfl⟩
            have rv452 := xc_rng v452
            refine xi_iadd (pc' := 25) (v := v452) kc_90_24 rfl ev452 ?_
            obtain ⟨y453, s453, hy453, ry453⟩ := xj_set (v := v452) hy450 ry450 1 (by first | omega | decide) (by first | omega | decide)
            refine xi_iastore (pc' := 26) (x' := y453) kc_90_25 rfl A450 rfl (xi_in (by decide) (by rw [hy450]; decide)) s453 (fun hh453 eh453 => ?_)
            have K454 := xk_pa K (xk_wa (by decide +kernel)) xD_94 hy453 ry453 eh453
            have KR455 := xk_pa KR (xk_wa (by decide +kernel)) xD_94 hy453 ry453 eh453
            refine xi_iload_n (pc' := 27) (x := (-1)) kc_90_26 rfl rfl ?_
            refine xi_ireturn kc_90_27 mr_90 rfl ?_
            show xw J ov 99 103 (19, [(0, .ref 0), (1, .int a2), (2, .int a4), (3, .int a6), (4, .int 1)], [.int (-1)], hh453) _
            refine xi_ireturn kc_103_19 mr_103 rfl ?_
            show xw J ov 100 195 (437, [(4, .int x4), (3, .ref 167), (2, .ref 115), (1, .ref 0), (0, .ref 1000000)], [.int (-1)], hh453) _
            refine xi_pop (pc' := 438) kc_195_437 rfl rfl ?_
            refine xi_aload_n (pc' := 439) (x := 115) kc_195_438 rfl rfl ?_
            refine xi_aload_n (pc' := 440) (x := 1000000) kc_195_439 rfl rfl ?_
            refine xi_iload (pc' := 442) (x := x4) kc_195_440 rfl rfl ?_
            refine xi_iconst (pc' := 443) (v := 1) kc_195_442 rfl rfl ?_
            refine xi_iadd (pc' := 444) (v := v1) kc_195_443 rfl ev1 ?_
            refine xi_ialoadO (pc' := 445) (v := a2) kc_195_444 rfl (by decide) hov0 (xi_in (by omega) (by omega)) ea2 ?_
            refine xi_aload_n (pc' := 446) (x := 1000000) kc_195_445 rfl rfl ?_
            refine xi_iload (pc' := 448) (x := x4) kc_195_446 rfl rfl ?_
            refine xi_iconst (pc' := 449) (v := 2) kc_195_448 rfl rfl ?_
            refine xi_iadd (pc' := 450) (v := v3) kc_195_449 rfl ev3 ?_
            refine xi_ialoadO (pc' := 451) (v := a4) kc_195_450 rfl (by decide) hov0 (xi_in (by omega) (by omega)) ea4 ?_
            refine xi_aload_n (pc' := 452) (x := 1000000) kc_195_451 rfl rfl ?_
            refine xi_iload (pc' := 454) (x := x4) kc_195_452 rfl rfl ?_
            refine xi_iconst (pc' := 455) (v := 3) kc_195_454 rfl rfl ?_
            refine xi_iadd (pc' := 456) (v := v5) kc_195_455 rfl ev5 ?_
            refine xi_ialoadO (pc' := 457) (v := a6) kc_195_456 rfl (by decide) hov0 (xi_in (by omega) (by omega)) ea6 ?_
            refine xi_aload_n (pc' := 458) (x := 1000000) kc_195_457 rfl rfl ?_
            refine xi_iload (pc' := 460) (x := x4) kc_195_458 rfl rfl ?_
            refine xi_iconst (pc' := 461) (v := 4) kc_195_460 rfl rfl ?_
            refine xi_iadd (pc' := 462) (v := v7) kc_195_461 rfl ev7 ?_
            refine xi_ialoadO (pc' := 463) (v := a8) kc_195_462 rfl (by decide) hov0 (xi_in (by omega) (by omega)) ea8 ?_
            refine xi_iff (pc' := 466) kc_195_463 rfl (xc_eq_f (X := a8.toInt) (Y := 0) rfl (by decide) (by omega)) ?_
            refine xi_iconst (pc' := 467) (v := 1) kc_195_466 rfl rfl ?_
            refine xi_goto (pc' := 471) kc_195_467 rfl ?_
            obtain ⟨u456, u457, u458, u459, u460, u461, u462, u463, u464, u465, u466, u467, u468, bu456, bu457, bu458, bu459, bu460, bu461, bu462, bu463, bu464, bu465, bu466, bu467, bu468, A469⟩ := xq_115 K.1
            have A470 := ((eh453.2.1 115 (by decide)).trans A469)
            refine xi_virtual (mj := 23) (as := [.int a2, .int a4, .int a6, .int 1]) (st1 := []) (lv0 := [(0, .ref 115), (1, .int a2), (2, .int a4), (3, .int a6), (4, .int 1)]) kc_195_471 rfl rfl rfl rfl rfl A470 (Nat.le_of_ble_eq_true rfl) (hJ _ _ _ _ (by decide)) (xm_le ml_23 rfl) rfl ?_
            refine xi_aload_n (pc' := 1) (x := 115) kc_23_0 rfl rfl ?_
            refine xi_iconst (pc' := 2) (v := 0) kc_23_1 rfl rfl ?_
            refine xi_putfield (pc' := 5) (fs' := [.int 0, .int u457, .ref 116, .ref 117, .ref 118, .ref 119, .ref 120, .ref 121, .ref 122, .ref 123, .ref 124, .ref 125, .ref 126, .ref 127, .ref 128, .ref 129, .int u458, .ref 130, .int u459, .ref 131, .ref 132, .ref 133, .ref 134, .int u460, .ref 135, .ref 136, .ref 137, .ref 138, .ref 139, .ref 140, .ref 141, .ref 142, .int u461, .int u462, .int u463, .ref 143, .ref 144, .ref 145, .ref 146, .ref 147, .ref 148, .int u464, .ref 149, .ref 150, .ref 151, .int u465, .ref 152, .ref 153, .ref 154, .ref 155, .ref 156, .ref 157, .ref 158, .ref 159, .int u466, .ref 160, .int u467, .ref 161, .ref 162, .ref 163, .ref 164, .int u468, .ref 165, .ref 166]) kc_23_2 rfl rfl rfl A470 rfl rfl rfl (Nat.le_of_ble_eq_true rfl) rfl (fun hh472 eh471 => ?_)
            have K473 := xk_pf (k := 0) (v := 0) K454 (xk_wf (by decide +kernel)) xD_115 A470 rfl (by first | omega | decide) (by first | omega | decide) eh471 rfl
            have KR474 := xk_pf (k := 0) (v := 0) KR455 (xk_wf (by decide +kernel)) xD_115 A470 rfl (by first | omega | decide) (by first | omega | decide) eh471 rfl
            refine xi_iload_n (pc' := 6) (x := a2) kc_23_5 rfl rfl ?_
            refine xi_static (mj := 24) (as := [.int a2]) (st1 := []) (lv0 := [(0, .int a2)]) kc_23_6 rfl rfl (Nat.le_of_ble_eq_true rfl) rfl rfl (Nat.le_of_ble_eq_true rfl) (hJ _ _ _ _ (by decide)) (xm_le ml_24 rfl) rfl ?_
            refine xi_iload_n (pc' := 1) (x := a2) kc_24_0 rfl rfl ?_
            refine xi_iconst (pc' := 2) (v := 0) kc_24_1 rfl rfl ?_
            refine xi_bipush (pc' := 4) (v := 11) kc_24_2 rfl rfl ?_
            refine xi_static (mj := 11) (as := [.int a2, .int 0, .int 11]) (st1 := []) (lv0 := [(0, .int a2), (1, .int 0), (2, .int 11)]) kc_24_4 rfl rfl (Nat.le_of_ble_eq_true rfl) rfl rfl (Nat.le_of_ble_eq_true rfl) (hJ _ _ _ _ (by decide)) (xm_le ml_11 rfl) rfl ?_
            refine xi_iload_n (pc' := 1) (x := a2) kc_11_0 rfl rfl ?_
            refine xi_iload_n (pc' := 2) (x := 0) kc_11_1 rfl rfl ?_
            refine xi_cmf (pc' := 5) kc_11_2 rfl (xc_lt_f (X := a2.toInt) (Y := 0) rfl (by decide) (by omega)) ?_
            refine xi_iload_n (pc' := 6) (x := a2) kc_11_5 rfl rfl ?_
            refine xi_iload_n (pc' := 7) (x := 11) kc_11_6 rfl rfl ?_
            refine xi_cmf (pc' := 10) kc_11_7 rfl (xc_gt_f (X := a2.toInt) (Y := 11) rfl (by decide) (by omega)) ?_
            refine xi_iconst (pc' := 11) (v := 1) kc_11_10 rfl rfl ?_
            refine xi_goto (pc' := 15) kc_11_11 rfl ?_
            refine xi_ireturn kc_11_15 mr_11 rfl ?_
            show xw J ov 98 24 (7, [(0, .int a2)], [.int 1], hh472) _
            refine xi_ireturn kc_24_7 mr_24 rfl ?_
            show xw J ov 99 23 (9, [(0, .ref 115), (1, .int a2), (2, .int a4), (3, .int a6), (4, .int 1)], [.int 1], hh472) _
            refine xi_iff (pc' := 12) kc_23_9 rfl rfl ?_
            refine xi_iload_n (pc' := 13) (x := a4) kc_23_12 rfl rfl ?_
            refine xi_static (mj := 10) (as := [.int a4]) (st1 := []) (lv0 := [(0, .int a4)]) kc_23_13 rfl rfl (Nat.le_of_ble_eq_true rfl) rfl rfl (Nat.le_of_ble_eq_true rfl) (hJ _ _ _ _ (by decide)) (xm_le ml_10 rfl) rfl ?_
            refine xi_iload_n (pc' := 1) (x := a4) kc_10_0 rfl rfl ?_
            refine xi_iconst (pc' := 2) (v := 0) kc_10_1 rfl rfl ?_
            refine xi_iconst (pc' := 3) (v := 5) kc_10_2 rfl rfl ?_
            refine xi_static (mj := 11) (as := [.int a4, .int 0, .int 5]) (st1 := []) (lv0 := [(0, .int a4), (1, .int 0), (2, .int 5)]) kc_10_3 rfl rfl (Nat.le_of_ble_eq_true rfl) rfl rfl (Nat.le_of_ble_eq_true rfl) (hJ _ _ _ _ (by decide)) (xm_le ml_11 rfl) rfl ?_
            refine xi_iload_n (pc' := 1) (x := a4) kc_11_0 rfl rfl ?_
            refine xi_iload_n (pc' := 2) (x := 0) kc_11_1 rfl rfl ?_
            refine xi_cmf (pc' := 5) kc_11_2 rfl (xc_lt_f (X := a4.toInt) (Y := 0) rfl (by decide) (by omega)) ?_
            refine xi_iload_n (pc' := 6) (x := a4) kc_11_5 rfl rfl ?_
            refine xi_iload_n (pc' := 7) (x := 5) kc_11_6 rfl rfl ?_
            refine xi_cmt (pc' := 14) kc_11_7 rfl (xc_gt_t (X := a4.toInt) (Y := 5) rfl (by decide) (by omega)) ?_
            refine xi_iconst (pc' := 15) (v := 0) kc_11_14 rfl rfl ?_
            refine xi_ireturn kc_11_15 mr_11 rfl ?_
            show xw J ov 98 10 (6, [(0, .int a4)], [.int 0], hh472) _
            refine xi_ireturn kc_10_6 mr_10 rfl ?_
            show xw J ov 99 23 (16, [(0, .ref 115), (1, .int a2), (2, .int a4), (3, .int a6), (4, .int 1)], [.int 0], hh472) _
            refine xi_iff (pc' := 19) kc_23_16 rfl rfl ?_
            refine xi_aload_n (pc' := 20) (x := 115) kc_23_19 rfl rfl ?_
            refine xi_iconst (pc' := 21) (v := (-1)) kc_23_20 rfl rfl ?_
            refine xi_virtual (mj := 12) (as := [.int (-1)]) (st1 := []) (lv0 := [(0, .ref 115), (1, .int (-1))]) kc_23_21 rfl rfl rfl rfl rfl eh471.1 (Nat.le_of_ble_eq_true rfl) (hJ _ _ _ _ (by decide)) (xm_le ml_12 rfl) rfl ?_
            refine xi_aload_n (pc' := 1) (x := 115) kc_12_0 rfl rfl ?_
            refine xi_getfield (pc' := 4) (v := .ref 140) kc_12_1 rfl rfl rfl eh471.1 rfl ?_
            refine xi_iload_n (pc' := 5) (x := (-1)) kc_12_4 rfl rfl ?_
            refine xi_ineg (pc' := 6) (v := 1) kc_12_5 rfl rfl ?_
            refine xi_dup2 (pc' := 7) kc_12_6 rfl ⟨rfl, rfl⟩ ?_
            obtain ⟨y475, A475, hy475, ry475⟩ := xk_arr K.1 xD_140
            obtain ⟨v476, ev476, bv476, dv476⟩ := xj_get hy475 ry475 (i := 1) (by decide) (by decide)
            have A477 := ((eh471.2.1 140 (by decide)).trans ((eh453.2.1 140 (by decide)).trans A475))
            refine xi_iaload (pc' := 8) (v := v476) kc_12_7 rfl A477 (by decide) rfl (xi_in (by decide) (by rw [hy475]; decide)) ev476 ?_
            refine xi_iconst (pc' := 9) (v := 1) kc_12_8 rfl rfl ?_
            obtain ⟨v478, ev478⟩ : ∃ q : Int32, (v476 : Int32) + 1 = q := ⟨_, rfl⟩
            have rv478 := xc_rng v478
            refine xi_iadd (pc' := 10) (v := v478) kc_12_9 rfl ev478 ?_
            obtain ⟨y479, s479, hy479, ry479⟩ := xj_set (v := v478) hy475 ry475 1 (by first | omega | decide) (by first | omega | decide)
            refine xi_iastore (pc' := 11) (x' := y479) kc_12_10 rfl A477 rfl (xi_in (by decide) (by rw [hy475]; decide)) s479 (fun hh479 eh479 => ?_)
            have K480 := xk_pa K473 (xk_wa (by decide +kernel)) xD_140 hy479 ry479 eh479
            have KR481 := xk_pa KR474 (xk_wa (by decide +kernel)) xD_140 hy479 ry479 eh479
            refine xi_iload_n (pc' := 12) (x := (-1)) kc_12_11 rfl rfl ?_
            refine xi_ireturn kc_12_12 mr_12 rfl ?_
            show xw J ov 99 23 (24, [(0, .ref 115), (1, .int a2), (2, .int a4), (3, .int a6), (4, .int 1)], [.int (-1)], hh479) _
            refine xi_ireturn kc_23_24 mr_23 rfl ?_
            show xw J ov 100 195 (474, [(4, .int x4), (3, .ref 167), (2, .ref 115), (1, .ref 0), (0, .ref 1000000)], [.int (-1)], hh479) _
            refine xi_pop (pc' := 475) kc_195_474 rfl rfl ?_
            refine xi_goto (pc' := 1501) kc_195_475 rfl ?_
            obtain ⟨v482, ev482⟩ : ∃ q : Int32, x4 + 6 = q := ⟨_, rfl⟩
            have zv482 : v482.toInt = (x4.toInt + 6) := by rw [← ev482]; exact (xz_add (X := x4.toInt) (Y := 6) rfl (by decide) (by omega) (by omega)).trans (by omega)
            refine xi_iinc (pc' := 1504) (x := x4) (v := v482) (lv' := [(4, .int v482), (3, .ref 167), (2, .ref 115), (1, .ref 0), (0, .ref 1000000)]) kc_195_1501 rfl rfl ev482 rfl (xm_lt ml_195 rfl) ?_
            refine xi_goto (pc' := 23) kc_195_1504 rfl ?_
            exact kk v482 hh479 (by omega) K480 (xI_kept I KR481.2.1)
          · refine xi_cmf (pc' := 10) kc_89_7 rfl (xc_ge_f (X := a4.toInt) (Y := 6) rfl (by decide) (by omega)) ?_
            refine xi_iconst (pc' := 11) (v := 1) kc_89_10 rfl rfl ?_
            refine xi_goto (pc' := 15) kc_89_11 rfl ?_
            refine xi_ireturn kc_89_15 mr_89 rfl ?_
            show xw J ov 99 103 (11, [(0, .ref 0), (1, .int a2), (2, .int a4), (3, .int a6), (4, .int 1)], [.int 1], h) _
            refine xi_ift (pc' := 20) kc_103_11 rfl rfl ?_
            refine xi_iload_n (pc' := 21) (x := a6) kc_103_20 rfl rfl ?_
            by_cases c483 : 0 ≤ a6.toInt
            · refine xi_ift (pc' := 31) kc_103_21 rfl (xc_ge_t (X := a6.toInt) (Y := 0) rfl (by decide) (by omega)) ?_
              refine xi_iload_n (pc' := 32) (x := a6) kc_103_31 rfl rfl ?_
              refine xi_bipush (pc' := 34) (v := 100) kc_103_32 rfl rfl ?_
              by_cases c484 : a6.toInt ≤ 100
              · refine xi_cmt (pc' := 44) kc_103_34 rfl (xc_le_t (X := a6.toInt) (Y := 100) rfl (by decide) (by omega)) ?_
                refine xi_aload_n (pc' := 45) (x := 0) kc_103_44 rfl rfl ?_
                refine xi_getfield (pc' := 48) (v := .ref 66) kc_103_45 rfl rfl rfl A346 rfl ?_
                obtain ⟨u486, wl485, bu486, A487⟩ := xq_66 K.1
                refine xi_virtual (mj := 91) (as := []) (st1 := []) (lv0 := [(0, .ref 66)]) kc_103_48 rfl rfl rfl rfl rfl A487 (Nat.le_of_ble_eq_true rfl) (hJ _ _ _ _ (by decide)) (xm_le ml_91 rfl) rfl ?_
                refine xi_aload_n (pc' := 1) (x := 66) kc_91_0 rfl rfl ?_
                refine xi_lconst (pc' := 2) (v := 0) kc_91_1 rfl rfl ?_
                refine xi_putfield (pc' := 5) (fs' := [.ref 1, .ref 67, .ref 70, .ref 71, .ref 72, .ref 73, .ref 74, .long 0, .int u486]) kc_91_2 rfl rfl rfl A487 rfl rfl rfl (Nat.le_of_ble_eq_true rfl) rfl (fun hh489 eh488 => ?_)
                have K490 := xk_pl (k := 7) (v := 0) K (xk_wf (by decide +kernel)) xD_66 A487 rfl eh488 rfl
                have KR491 := xk_pl (k := 7) (v := 0) KR (xk_wf (by decide +kernel)) xD_66 A487 rfl eh488 rfl
                refine xi_return kc_91_5 mr_91 ?_
                show xw J ov 99 103 (51, [(0, .ref 0), (1, .int a2), (2, .int a4), (3, .int a6), (4, .int 1)], [], hh489) _
                refine xi_aload_n (pc' := 52) (x := 0) kc_103_51 rfl rfl ?_
                have A492 := ((eh488.2.1 0 (by decide)).trans A346)
                refine xi_getfield (pc' := 55) (v := .ref 1) kc_103_52 rfl rfl rfl A492 rfl ?_
                obtain ⟨u493, u494, bu493, bu494, A495⟩ := xq_1 K.1
                have A496 := ((eh488.2.1 1 (by decide)).trans A495)
                refine xi_getfield (pc' := 58) (v := .ref 3) kc_103_55 rfl rfl rfl A496 rfl ?_
                refine xi_iload_n (pc' := 59) (x := a2) kc_103_58 rfl rfl ?_
                have A497 := xk_ex K.1 xD_3
                obtain ⟨pt498, ept498, mpt498⟩ := xR_3 (i := a2) (by omega) (by omega)
                have A499 := ((eh488.2.1 3 (by decide)).trans A497)
                refine xj_aaload (pc' := 60) (b := pt498) kc_103_59 rfl A499 rfl (xi_in (n := 12) (by omega) (by omega)) ept498 ?_
                refine xi_astore (pc' := 62) (lv' := [(5, .ref pt498), (0, .ref 0), (1, .int a2), (2, .int a4), (3, .int a6), (4, .int 1)]) kc_103_60 rfl rfl (xm_lt ml_103 rfl) ?_
                refine xi_aload (pc' := 64) (x := pt498) kc_103_62 rfl rfl ?_
                obtain ⟨u500, u501, u502, u503, pt504, bu500, bu501, bu502, bu503, mpt504, A505⟩ := xg_wall K.1 mpt498
                obtain ⟨y506, A506, hy506, ry506⟩ := xk_arr K.1 xD_125
                have HG507 : y506.getD (Int32.toNatClampNeg a2) 0 = u500 := xGR_ld (Lo := [some 29, some 31, some 33, some 35, some 37, some 39, some 41, some 43, some 45, some 47, some 49, some 51]) I.2.2.2.2.2.2.2.2.2.2.2.2.2.2.2.1 rfl ept498 (by omega) (by show _ < ((12 : Nat) : Int); omega) A505 rfl A506
                have bHG507 : (-9) ≤ u500.toInt ∧ u500.toInt ≤ 5 := by rw [← HG507]; exact ry506 _ (xj_nat (n := 12) (by omega) (by omega))
                obtain ⟨y508, A508, hy508, ry508⟩ := xk_arr K.1 xD_127
                have HG509 : y508.getD (Int32.toNatClampNeg a2) 0 = u502 := xGR_ld (Lo := [some 29, some 31, some 33, some 35, some 37, some 39, some 41, some 43, some 45, some 47, some 49, some 51]) I.2.2.2.2.2.2.2.2.2.2.2.2.2.2.2.2.1 rfl ept498 (by omega) (by show _ < ((12 : Nat) : Int); omega) A505 rfl A508
                have bHG509 : 0 ≤ u502.toInt ∧ u502.toInt ≤ 1 := by rw [← HG509]; exact ry508 _ (xj_nat (n := 12) (by omega) (by omega))
                have A510 := ((eh488.2.1 pt498 (Ne.symm (xk_nc mpt498 rfl))).trans A505)
                refine xi_virtual (mj := 105) (as := []) (st1 := []) (lv0 := [(0, .ref pt498)]) kc_103_64 rfl rfl rfl rfl rfl A510 (Nat.le_of_ble_eq_true rfl) (hJ _ _ _ _ (by decide)) (xm_le ml_105 rfl) rfl ?_
                refine xi_aload_n (pc' := 1) (x := pt498) kc_105_0 rfl rfl ?_
                refine xi_getfield (pc' := 4) (v := .int u500) kc_105_1 rfl rfl rfl A510 rfl ?_
                refine xi_static (mj := 89) (as := [.int u500]) (st1 := []) (lv0 := [(0, .int u500)]) kc_105_4 rfl rfl (Nat.le_of_ble_eq_true rfl) rfl rfl (Nat.le_of_ble_eq_true rfl) (hJ _ _ _ _ (by decide)) (xm_le ml_89 rfl) rfl ?_
                refine xi_iload_n (pc' := 1) (x := u500) kc_89_0 rfl rfl ?_
                by_cases c511 : u500.toInt < 0
                · refine xi_ift (pc' := 14) kc_89_1 rfl (xc_lt_t (X := u500.toInt) (Y := 0) rfl (by decide) (by omega)) ?_
                  refine xi_iconst (pc' := 15) (v := 0) kc_89_14 rfl rfl ?_
                  refine xi_ireturn kc_89_15 mr_89 rfl ?_
                  show xw J ov 98 105 (7, [(0, .ref pt498)], [.int 0], hh489) _
                  refine xi_ireturn kc_105_7 mr_105 rfl ?_
                  show xw J ov 99 103 (67, [(5, .ref pt498), (0, .ref 0), (1, .int a2), (2, .int a4), (3, .int a6), (4, .int 1)], [.int 0], hh489) _
                  refine xi_ift (pc' := 74) kc_103_67 rfl rfl ?_
                  refine xi_iconst (pc' := 75) (v := 1) kc_103_74 rfl rfl ?_
                  refine xi_istore (pc' := 77) (lv' := [(6, .int 1), (5, .ref pt498), (0, .ref 0), (1, .int a2), (2, .int a4), (3, .int a6), (4, .int 1)]) kc_103_75 rfl rfl (xm_lt ml_103 rfl) ?_
                  refine xi_aload (pc' := 79) (x := pt498) kc_103_77 rfl rfl ?_
                  refine xi_iload_n (pc' := 80) (x := a4) kc_103_79 rfl rfl ?_
                  refine xi_putfield (pc' := 83) (fs' := [.int a4, .int u501, .int u502, .int u503, .ref pt504]) kc_103_80 rfl rfl rfl A510 rfl rfl rfl (Nat.le_of_ble_eq_true rfl) rfl (fun hh513 eh512 => ?_)
                  obtain ⟨ds514, Dds514, dds514_0, dds514_1, dds514_2, dds514_3⟩ := xGo_wall mpt498
                  have K515 := xk_pf (k := 0) (v := a4) K490 (xk_gf mpt498 (by decide +kernel)) Dds514 A510 dds514_0 (by first | omega | decide) (by first | omega | decide) eh512 rfl
                  refine xi_aload (pc' := 85) (x := pt498) kc_103_83 rfl rfl ?_
                  refine xi_iload_n (pc' := 86) (x := a6) kc_103_85 rfl rfl ?_
                  refine xi_putfield (pc' := 89) (fs' := [.int a4, .int a6, .int u502, .int u503, .ref pt504]) kc_103_86 rfl rfl rfl eh512.1 rfl rfl rfl (Nat.le_of_ble_eq_true rfl) rfl (fun hh517 eh516 => ?_)
                  obtain ⟨ds518, Dds518, dds518_0, dds518_1, dds518_2, dds518_3⟩ := xGo_wall mpt498
                  have K519 := xk_pf (k := 1) (v := a6) K515 (xk_gf mpt498 (by decide +kernel)) Dds518 eh512.1 dds518_1 (by first | omega | decide) (by first | omega | decide) eh516 rfl
                  refine xi_aload (pc' := 91) (x := pt498) kc_103_89 rfl rfl ?_
                  refine xi_iload (pc' := 93) (x := 1) kc_103_91 rfl rfl ?_
                  refine xi_putfield (pc' := 96) (fs' := [.int a4, .int a6, .int 1, .int u503, .ref pt504]) kc_103_93 rfl rfl rfl eh516.1 rfl rfl rfl (Nat.le_of_ble_eq_true rfl) rfl (fun hh521 eh520 => ?_)
                  obtain ⟨ds522, Dds522, dds522_0, dds522_1, dds522_2, dds522_3⟩ := xGo_wall mpt498
                  have K523 := xk_pf (k := 2) (v := 1) K519 (xk_gf mpt498 (by decide +kernel)) Dds522 eh516.1 dds522_2 (by first | omega | decide) (by first | omega | decide) eh520 rfl
                  refine xi_iload (pc' := 98) (x := 1) kc_103_96 rfl rfl ?_
                  refine xi_ireturn kc_103_98 mr_103 rfl ?_
                  show xw J ov 100 195 (437, [(4, .int x4), (3, .ref 167), (2, .ref 115), (1, .ref 0), (0, .ref 1000000)], [.int 1], hh521) _
                  refine xi_pop (pc' := 438) kc_195_437 rfl rfl ?_
                  refine xi_aload_n (pc' := 439) (x := 115) kc_195_438 rfl rfl ?_
                  refine xi_aload_n (pc' := 440) (x := 1000000) kc_195_439 rfl rfl ?_
                  refine xi_iload (pc' := 442) (x := x4) kc_195_440 rfl rfl ?_
                  refine xi_iconst (pc' := 443) (v := 1) kc_195_442 rfl rfl ?_
                  refine xi_iadd (pc' := 444) (v := v1) kc_195_443 rfl ev1 ?_
                  refine xi_ialoadO (pc' := 445) (v := a2) kc_195_444 rfl (by decide) hov0 (xi_in (by omega) (by omega)) ea2 ?_
                  refine xi_aload_n (pc' := 446) (x := 1000000) kc_195_445 rfl rfl ?_
                  refine xi_iload (pc' := 448) (x := x4) kc_195_446 rfl rfl ?_
                  refine xi_iconst (pc' := 449) (v := 2) kc_195_448 rfl rfl ?_
                  refine xi_iadd (pc' := 450) (v := v3) kc_195_449 rfl ev3 ?_
                  refine xi_ialoadO (pc' := 451) (v := a4) kc_195_450 rfl (by decide) hov0 (xi_in (by omega) (by omega)) ea4 ?_
                  refine xi_aload_n (pc' := 452) (x := 1000000) kc_195_451 rfl rfl ?_
                  refine xi_iload (pc' := 454) (x := x4) kc_195_452 rfl rfl ?_
                  refine xi_iconst (pc' := 455) (v := 3) kc_195_454 rfl rfl ?_
                  refine xi_iadd (pc' := 456) (v := v5) kc_195_455 rfl ev5 ?_
                  refine xi_ialoadO (pc' := 457) (v := a6) kc_195_456 rfl (by decide) hov0 (xi_in (by omega) (by omega)) ea6 ?_
                  refine xi_aload_n (pc' := 458) (x := 1000000) kc_195_457 rfl rfl ?_
                  refine xi_iload (pc' := 460) (x := x4) kc_195_458 rfl rfl ?_
                  refine xi_iconst (pc' := 461) (v := 4) kc_195_460 rfl rfl ?_
                  refine xi_iadd (pc' := 462) (v := v7) kc_195_461 rfl ev7 ?_
                  refine xi_ialoadO (pc' := 463) (v := a8) kc_195_462 rfl (by decide) hov0 (xi_in (by omega) (by omega)) ea8 ?_
                  refine xi_iff (pc' := 466) kc_195_463 rfl (xc_eq_f (X := a8.toInt) (Y := 0) rfl (by decide) (by omega)) ?_
                  refine xi_iconst (pc' := 467) (v := 1) kc_195_466 rfl rfl ?_
                  refine xi_goto (pc' := 471) kc_195_467 rfl ?_
                  obtain ⟨u524, u525, u526, u527, u528, u529, u530, u531, u532, u533, u534, u535, u536, bu524, bu525, bu526, bu527, bu528, bu529, bu530, bu531, bu532, bu533, bu534, bu535, bu536, A537⟩ := xq_115 K.1
                  have A538 := ((eh520.2.1 115 (xk_nc mpt498 rfl)).trans ((eh516.2.1 115 (xk_nc mpt498 rfl)).trans ((eh512.2.1 115 (xk_nc mpt498 rfl)).trans ((eh488.2.1 115 (by decide)).trans A537))))
                  refine xi_virtual (mj := 23) (as := [.int a2, .int a4, .int a6, .int 1]) (st1 := []) (lv0 := [(0, .ref 115), (1, .int a2), (2, .int a4), (3, .int a6), (4, .int 1)]) kc_195_471 rfl rfl rfl rfl rfl A538 (Nat.le_of_ble_eq_true rfl) (hJ _ _ _ _ (by decide)) (xm_le ml_23 rfl) rfl ?_
                  refine xi_aload_n (pc' := 1) (x := 115) kc_23_0 rfl rfl ?_
                  refine xi_iconst (pc' := 2) (v := 0) kc_23_1 rfl rfl ?_
                  refine xi_putfield (pc' := 5) (fs' := [.int 0, .int u525, .ref 116, .ref 117, .ref 118, .ref 119, .ref 120, .ref 121, .ref 122, .ref 123, .ref 124, .ref 125, .ref 126, .ref 127, .ref 128, .ref 129, .int u526, .ref 130, .int u527, .ref 131, .ref 132, .ref 133, .ref 134, .int u528, .ref 135, .ref 136, .ref 137, .ref 138, .ref 139, .ref 140, .ref 141, .ref 142, .int u529, .int u530, .int u531, .ref 143, .ref 144, .ref 145, .ref 146, .ref 147, .ref 148, .int u532, .ref 149, .ref 150, .ref 151, .int u533, .ref 152, .ref 153, .ref 154, .ref 155, .ref 156, .ref 157, .ref 158, .ref 159, .int u534, .ref 160, .int u535, .ref 161, .ref 162, .ref 163, .ref 164, .int u536, .ref 165, .ref 166]) kc_23_2 rfl rfl rfl A538 rfl rfl rfl (Nat.le_of_ble_eq_true rfl) rfl (fun hh540 eh539 => ?_)
                  have K541 := xk_pf (k := 0) (v := 0) K523 (xk_wf (by decide +kernel)) xD_115 A538 rfl (by first | omega | decide) (by first | omega | decide) eh539 rfl
                  refine xi_iload_n (pc' := 6) (x := a2) kc_23_5 rfl rfl ?_
                  refine xi_static (mj := 24) (as := [.int a2]) (st1 := []) (lv0 := [(0, .int a2)]) kc_23_6 rfl rfl (Nat.le_of_ble_eq_true rfl) rfl rfl (Nat.le_of_ble_eq_true rfl) (hJ _ _ _ _ (by decide)) (xm_le ml_24 rfl) rfl ?_
                  refine xi_iload_n (pc' := 1) (x := a2) kc_24_0 rfl rfl ?_
                  refine xi_iconst (pc' := 2) (v := 0) kc_24_1 rfl rfl ?_
                  refine xi_bipush (pc' := 4) (v := 11) kc_24_2 rfl rfl ?_
                  refine xi_static (mj := 11) (as := [.int a2, .int 0, .int 11]) (st1 := []) (lv0 := [(0, .int a2), (1, .int 0), (2, .int 11)]) kc_24_4 rfl rfl (Nat.le_of_ble_eq_true rfl) rfl rfl (Nat.le_of_ble_eq_true rfl) (hJ _ _ _ _ (by decide)) (xm_le ml_11 rfl) rfl ?_
                  refine xi_iload_n (pc' := 1) (x := a2) kc_11_0 rfl rfl ?_
                  refine xi_iload_n (pc' := 2) (x := 0) kc_11_1 rfl rfl ?_
                  refine xi_cmf (pc' := 5) kc_11_2 rfl (xc_lt_f (X := a2.toInt) (Y := 0) rfl (by decide) (by omega)) ?_
                  refine xi_iload_n (pc' := 6) (x := a2) kc_11_5 rfl rfl ?_
                  refine xi_iload_n (pc' := 7) (x := 11) kc_11_6 rfl rfl ?_
                  refine xi_cmf (pc' := 10) kc_11_7 rfl (xc_gt_f (X := a2.toInt) (Y := 11) rfl (by decide) (by omega)) ?_
                  refine xi_iconst (pc' := 11) (v := 1) kc_11_10 rfl rfl ?_
                  refine xi_goto (pc' := 15) kc_11_11 rfl ?_
                  refine xi_ireturn kc_11_15 mr_11 rfl ?_
                  show xw J ov 98 24 (7, [(0, .int a2)], [.int 1], hh540) _
                  refine xi_ireturn kc_24_7 mr_24 rfl ?_
                  show xw J ov 99 23 (9, [(0, .ref 115), (1, .int a2), (2, .int a4), (3, .int a6), (4, .int 1)], [.int 1], hh540) _
                  refine xi_iff (pc' := 12) kc_23_9 rfl rfl ?_
                  refine xi_iload_n (pc' := 13) (x := a4) kc_23_12 rfl rfl ?_
                  refine xi_static (mj := 10) (as := [.int a4]) (st1 := []) (lv0 := [(0, .int a4)]) kc_23_13 rfl rfl (Nat.le_of_ble_eq_true rfl) rfl rfl (Nat.le_of_ble_eq_true rfl) (hJ _ _ _ _ (by decide)) (xm_le ml_10 rfl) rfl ?_
                  refine xi_iload_n (pc' := 1) (x := a4) kc_10_0 rfl rfl ?_
                  refine xi_iconst (pc' := 2) (v := 0) kc_10_1 rfl rfl ?_
                  refine xi_iconst (pc' := 3) (v := 5) kc_10_2 rfl rfl ?_
                  refine xi_static (mj := 11) (as := [.int a4, .int 0, .int 5]) (st1 := []) (lv0 := [(0, .int a4), (1, .int 0), (2, .int 5)]) kc_10_3 rfl rfl (Nat.le_of_ble_eq_true rfl) rfl rfl (Nat.le_of_ble_eq_true rfl) (hJ _ _ _ _ (by decide)) (xm_le ml_11 rfl) rfl ?_
                  refine xi_iload_n (pc' := 1) (x := a4) kc_11_0 rfl rfl ?_
                  refine xi_iload_n (pc' := 2) (x := 0) kc_11_1 rfl rfl ?_
                  refine xi_cmf (pc' := 5) kc_11_2 rfl (xc_lt_f (X := a4.toInt) (Y := 0) rfl (by decide) (by omega)) ?_
                  refine xi_iload_n (pc' := 6) (x := a4) kc_11_5 rfl rfl ?_
                  refine xi_iload_n (pc' := 7) (x := 5) kc_11_6 rfl rfl ?_
                  refine xi_cmf (pc' := 10) kc_11_7 rfl (xc_gt_f (X := a4.toInt) (Y := 5) rfl (by decide) (by omega)) ?_
                  refine xi_iconst (pc' := 11) (v := 1) kc_11_10 rfl rfl ?_
                  refine xi_goto (pc' := 15) kc_11_11 rfl ?_
                  refine xi_ireturn kc_11_15 mr_11 rfl ?_
                  show xw J ov 98 10 (6, [(0, .int a4)], [.int 1], hh540) _
                  refine xi_ireturn kc_10_6 mr_10 rfl ?_
                  show xw J ov 99 23 (16, [(0, .ref 115), (1, .int a2), (2, .int a4), (3, .int a6), (4, .int 1)], [.int 1], hh540) _
                  refine xi_ift (pc' := 25) kc_23_16 rfl rfl ?_
                  refine xi_iload_n (pc' := 26) (x := a6) kc_23_25 rfl rfl ?_
                  refine xi_ift (pc' := 36) kc_23_26 rfl (xc_ge_t (X := a6.toInt) (Y := 0) rfl (by decide) (by omega)) ?_
                  refine xi_iload_n (pc' := 37) (x := a6) kc_23_36 rfl rfl ?_
                  refine xi_bipush (pc' := 39) (v := 100) kc_23_37 rfl rfl ?_
                  refine xi_cmt (pc' := 49) kc_23_39 rfl (xc_le_t (X := a6.toInt) (Y := 100) rfl (by decide) (by omega)) ?_
                  refine xi_aload_n (pc' := 50) (x := 115) kc_23_49 rfl rfl ?_
                  refine xi_getfield (pc' := 53) (v := .ref 125) kc_23_50 rfl rfl rfl eh539.1 rfl ?_
                  refine xi_iload_n (pc' := 54) (x := a2) kc_23_53 rfl rfl ?_
                  have A542 := ((eh539.2.1 125 (by decide)).trans ((eh520.2.1 125 (xk_nc mpt498 rfl)).trans ((eh516.2.1 125 (xk_nc mpt498 rfl)).trans ((eh512.2.1 125 (xk_nc mpt498 rfl)).trans ((eh488.2.1 125 (by decide)).trans A506)))))
                  refine xi_iaload (pc' := 55) (v := u500) kc_23_54 rfl A542 (by decide) rfl (xi_in (by omega) (by rw [hy506]; omega)) HG507 ?_
                  refine xi_ift (pc' := 62) kc_23_55 rfl (xc_lt_t (X := u500.toInt) (Y := 0) rfl (by decide) (by omega)) ?_
                  refine xi_iconst (pc' := 63) (v := 0) kc_23_62 rfl rfl ?_
                  refine xi_istore (pc' := 65) (lv' := [(5, .int 0), (0, .ref 115), (1, .int a2), (2, .int a4), (3, .int a6), (4, .int 1)]) kc_23_63 rfl rfl (xm_lt ml_23 rfl) ?_
                  refine xi_aload_n (pc' := 66) (x := 115) kc_23_65 rfl rfl ?_
                  refine xi_getfield (pc' := 69) (v := .ref 125) kc_23_66 rfl rfl rfl eh539.1 rfl ?_
                  refine xi_iload_n (pc' := 70) (x := a2) kc_23_69 rfl rfl ?_
                  refine xi_iload_n (pc' := 71) (x := a4) kc_23_70 rfl rfl ?_
                  obtain ⟨y543, s543, hy543, ry543⟩ := xj_set (v := a4) hy506 ry506 a2 (by first | omega | decide) (by first | omega | decide)
                  refine xi_iastore (pc' := 72) (x' := y543) kc_23_71 rfl A542 rfl (xi_in (by omega) (by rw [hy506]; omega)) s543 (fun hh543 eh543 => ?_)
                  have K544 := xk_pa K541 (xk_wa (by decide +kernel)) xD_125 hy543 ry543 eh543
                  refine xi_aload_n (pc' := 73) (x := 115) kc_23_72 rfl rfl ?_
                  have A545 := ((eh543.2.1 115 (by decide)).trans eh539.1)
                  refine xi_getfield (pc' := 76) (v := .ref 126) kc_23_73 rfl rfl rfl A545 rfl ?_
                  refine xi_iload_n (pc' := 77) (x := a2) kc_23_76 rfl rfl ?_
                  refine xi_iload_n (pc' := 78) (x := a6) kc_23_77 rfl rfl ?_
                  obtain ⟨y546, A546, hy546, ry546⟩ := xk_arr K.1 xD_126
                  have A547 := ((eh543.2.1 126 (by decide)).trans ((eh539.2.1 126 (by decide)).trans ((eh520.2.1 126 (xk_nc mpt498 rfl)).trans ((eh516.2.1 126 (xk_nc mpt498 rfl)).trans ((eh512.2.1 126 (xk_nc mpt498 rfl)).trans ((eh488.2.1 126 (by decide)).trans A546))))))
                  obtain ⟨y548, s548, hy548, ry548⟩ := xj_set (v := a6) hy546 ry546 a2 (by first | omega | decide) (by first | omega | decide)
                  refine xi_iastore (pc' := 79) (x' := y548) kc_23_78 rfl A547 rfl (xi_in (by omega) (by rw [hy546]; omega)) s548 (fun hh548 eh548 => ?_)
                  have K549 := xk_pa K544 (xk_wa (by decide +kernel)) xD_126 hy548 ry548 eh548
                  refine xi_aload_n (pc' := 80) (x := 115) kc_23_79 rfl rfl ?_
                  have A550 := ((eh548.2.1 115 (by decide)).trans A545)
                  refine xi_getfield (pc' := 83) (v := .ref 127) kc_23_80 rfl rfl rfl A550 rfl ?_
                  refine xi_iload_n (pc' := 84) (x := a2) kc_23_83 rfl rfl ?_
                  refine xi_iload (pc' := 86) (x := 1) kc_23_84 rfl rfl ?_
                  have A551 := ((eh548.2.1 127 (by decide)).trans ((eh543.2.1 127 (by decide)).trans ((eh539.2.1 127 (by decide)).trans ((eh520.2.1 127 (xk_nc mpt498 rfl)).trans ((eh516.2.1 127 (xk_nc mpt498 rfl)).trans ((eh512.2.1 127 (xk_nc mpt498 rfl)).trans ((eh488.2.1 127 (by decide)).trans A508)))))))
                  obtain ⟨y552, s552, hy552, ry552⟩ := xj_set (v := 1) hy508 ry508 a2 (by first | omega | decide) (by first | omega | decide)
                  refine xi_bastore (pc' := 87) (x' := y552) kc_23_86 rfl A551 rfl (xi_in (by omega) (by rw [hy508]; omega)) s552 (fun hh552 eh552 => ?_)
                  have K553 := xk_pa K549 (xk_wa (by decide +kernel)) xD_127 hy552 ry552 eh552
                  refine xi_aload_n (pc' := 88) (x := 115) kc_23_87 rfl rfl ?_
                  refine xi_iconst (pc' := 89) (v := 0) kc_23_88 rfl rfl ?_
                  have A554 := ((eh552.2.1 115 (by decide)).trans A550)
                  refine xi_putfield (pc' := 92) (fs' := [.int 0, .int u525, .ref 116, .ref 117, .ref 118, .ref 119, .ref 120, .ref 121, .ref 122, .ref 123, .ref 124, .ref 125, .ref 126, .ref 127, .ref 128, .ref 129, .int u526, .ref 130, .int u527, .ref 131, .ref 132, .ref 133, .ref 134, .int u528, .ref 135, .ref 136, .ref 137, .ref 138, .ref 139, .ref 140, .ref 141, .ref 142, .int u529, .int u530, .int u531, .ref 143, .ref 144, .ref 145, .ref 146, .ref 147, .ref 148, .int 0, .ref 149, .ref 150, .ref 151, .int u533, .ref 152, .ref 153, .ref 154, .ref 155, .ref 156, .ref 157, .ref 158, .ref 159, .int u534, .ref 160, .int u535, .ref 161, .ref 162, .ref 163, .ref 164, .int u536, .ref 165, .ref 166]) kc_23_89 rfl rfl rfl A554 rfl rfl rfl (Nat.le_of_ble_eq_true rfl) rfl (fun hh556 eh555 => ?_)
                  have K557 := xk_pf (k := 41) (v := 0) K553 (xk_wf (by decide +kernel)) xD_115 A554 rfl (by first | omega | decide) (by first | omega | decide) eh555 rfl
                  refine xi_iload (pc' := 94) (x := 0) kc_23_92 rfl rfl ?_
                  refine xi_ift (pc' := 101) kc_23_94 rfl rfl ?_
                  refine xi_iconst (pc' := 102) (v := 1) kc_23_101 rfl rfl ?_
                  refine xi_ireturn kc_23_102 mr_23 rfl ?_
                  show xw J ov 100 195 (474, [(4, .int x4), (3, .ref 167), (2, .ref 115), (1, .ref 0), (0, .ref 1000000)], [.int 1], hh556) _
                  refine xi_pop (pc' := 475) kc_195_474 rfl rfl ?_
                  refine xi_goto (pc' := 1501) kc_195_475 rfl ?_
                  obtain ⟨v558, ev558⟩ : ∃ q : Int32, x4 + 6 = q := ⟨_, rfl⟩
                  have zv558 : v558.toInt = (x4.toInt + 6) := by rw [← ev558]; exact (xz_add (X := x4.toInt) (Y := 6) rfl (by decide) (by omega) (by omega)).trans (by omega)
                  refine xi_iinc (pc' := 1504) (x := x4) (v := v558) (lv' := [(4, .int v558), (3, .ref 167), (2, .ref 115), (1, .ref 0), (0, .ref 1000000)]) kc_195_1501 rfl rfl ev558 rfl (xm_lt ml_195 rfl) ?_
                  refine xi_goto (pc' := 23) kc_195_1504 rfl ?_
                  have A559 := ((eh555.2.1 pt498 (Ne.symm (xk_nc mpt498 rfl))).trans ((eh552.2.1 pt498 (Ne.symm (xk_nc mpt498 rfl))).trans ((eh548.2.1 pt498 (Ne.symm (xk_nc mpt498 rfl))).trans ((eh543.2.1 pt498 (Ne.symm (xk_nc mpt498 rfl))).trans ((eh539.2.1 pt498 (Ne.symm (xk_nc mpt498 rfl))).trans eh520.1)))))
                  have A560 := ((eh555.2.1 125 (by decide)).trans ((eh552.2.1 125 (by decide)).trans ((eh548.2.1 125 (by decide)).trans eh543.1)))
                  have A561 := ((eh555.2.1 127 (by decide)).trans eh552.1)
                  exact kk v558 hh556 (by omega) K557 ⟨((K557.2.1 (0, 9) (by decide +kernel)).trans (I.1.trans (K557.2.1 (115, 1) (by decide +kernel)).symm)), (xWW_fr I.2.1 (K557.2.1 (64, 0) (by decide +kernel)) (K557.2.1 (121, 0) (by decide +kernel))), (xSG_fr I.2.2.1 (fun l hl => K557.2.1 l (xk_el (by decide +kernel) hl))), (by rw [(K557.2.1 (13, 0) (by decide +kernel)), (K557.2.1 (122, 0) (by decide +kernel))]; exact I.2.2.2.1), (by rw [(K557.2.1 (16, 0) (by decide +kernel)), (K557.2.1 (122, 0) (by decide +kernel))]; exact I.2.2.2.2.1), (by rw [(K557.2.1 (19, 0) (by decide +kernel)), (K557.2.1 (122, 0) (by decide +kernel))]; exact I.2.2.2.2.2.1), (by rw [(K557.2.1 (22, 0) (by decide +kernel)), (K557.2.1 (122, 0) (by decide +kernel))]; exact I.2.2.2.2.2.2.1), (by rw [(K557.2.1 (25, 0) (by decide +kernel)), (K557.2.1 (122, 0) (by decide +kernel))]; exact I.2.2.2.2.2.2.2.1), (by rw [(K557.2.1 (28, 0) (by decide +kernel)), (K557.2.1 (122, 0) (by decide +kernel))]; exact I.2.2.2.2.2.2.2.2.1), (by rw [(K557.2.1 (6, 0) (by decide +kernel)), (K557.2.1 (123, 0) (by decide +kernel))]; exact I.2.2.2.2.2.2.2.2.2.1), (by rw [(K557.2.1 (9, 0) (by decide +kernel)), (K557.2.1 (124, 0) (by decide +kernel))]; exact I.2.2.2.2.2.2.2.2.2.2.1), (by rw [(K557.2.1 (7, 0) (by decide +kernel)), (K557.2.1 (6, 0) (by decide +kernel))]; exact I.2.2.2.2.2.2.2.2.2.2.2.1), (by rw [(K557.2.1 (10, 0) (by decide +kernel)), (K557.2.1 (9, 0) (by decide +kernel))]; exact I.2.2.2.2.2.2.2.2.2.2.2.2.1), ((K557.2.1 (5, 0) (by decide +kernel)).trans I.2.2.2.2.2.2.2.2.2.2.2.2.2.1), ((K557.2.1 (8, 0) (by decide +kernel)).trans I.2.2.2.2.2.2.2.2.2.2.2.2.2.2.1), (xGR_set (Lo := [some 29, some 31, some 33, some 35, some 37, some 39, some 41, some 43, some 45, some 47, some 49, some 51]) I.2.2.2.2.2.2.2.2.2.2.2.2.2.2.2.1 (by decide) rfl ept498 (by omega) (by show _ < ((12 : Nat) : Int); omega) A506 (by rw [hy506]; decide) A559 rfl A560 s543 (fun c hc hne => ((eh555.2.1 c (Ne.symm (xk_nc hc rfl))).trans ((eh552.2.1 c (Ne.symm (xk_nc hc rfl))).trans ((eh548.2.1 c (Ne.symm (xk_nc hc rfl))).trans ((eh543.2.1 c (Ne.symm (xk_nc hc rfl))).trans ((eh539.2.1 c (Ne.symm (xk_nc hc rfl))).trans ((eh520.2.1 c hne).trans ((eh516.2.1 c hne).trans ((eh512.2.1 c hne).trans (eh488.2.1 c (Ne.symm (xk_nc hc rfl))))))))))))), (xGR_set (Lo := [some 29, some 31, some 33, some 35, some 37, some 39, some 41, some 43, some 45, some 47, some 49, some 51]) I.2.2.2.2.2.2.2.2.2.2.2.2.2.2.2.2.1 (by decide) rfl ept498 (by omega) (by show _ < ((12 : Nat) : Int); omega) A508 (by rw [hy508]; decide) A559 rfl A561 s552 (fun c hc hne => ((eh555.2.1 c (Ne.symm (xk_nc hc rfl))).trans ((eh552.2.1 c (Ne.symm (xk_nc hc rfl))).trans ((eh548.2.1 c (Ne.symm (xk_nc hc rfl))).trans ((eh543.2.1 c (Ne.symm (xk_nc hc rfl))).trans ((eh539.2.1 c (Ne.symm (xk_nc hc rfl))).trans ((eh520.2.1 c hne).trans ((eh516.2.1 c hne).trans ((eh512.2.1 c hne).trans (eh488.2.1 c (Ne.symm (xk_nc hc rfl))))))))))))), ((K557.2.1 (1, 5) (by decide +kernel)).trans (I.2.2.2.2.2.2.2.2.2.2.2.2.2.2.2.2.2.1.trans (K557.2.1 (115, 23) (by decide +kernel)).symm)), (xGR_fr I.2.2.2.2.2.2.2.2.2.2.2.2.2.2.2.2.2.2.1 K557.2.1 (by decide +kernel) (by decide +kernel)), (xGR_fr I.2.2.2.2.2.2.2.2.2.2.2.2.2.2.2.2.2.2.2.1 K557.2.1 (by decide +kernel) (by decide +kernel)), (xGR_fr I.2.2.2.2.2.2.2.2.2.2.2.2.2.2.2.2.2.2.2.2.1 K557.2.1 (by decide +kernel) (by decide +kernel)), (xGR_fr I.2.2.2.2.2.2.2.2.2.2.2.2.2.2.2.2.2.2.2.2.2.1 K557.2.1 (by decide +kernel) (by decide +kernel)), (by rw [(K557.2.1 (63, 2) (by decide +kernel)), (K557.2.1 (139, 0) (by decide +kernel)), (K557.2.1 (1, 5) (by decide +kernel))]; exact I.2.2.2.2.2.2.2.2.2.2.2.2.2.2.2.2.2.2.2.2.2.2.1), ((K557.2.1 (0, 8) (by decide +kernel)).trans (I.2.2.2.2.2.2.2.2.2.2.2.2.2.2.2.2.2.2.2.2.2.2.2.1.trans (K557.2.1 (115, 34) (by decide +kernel)).symm)), (xGR_fr I.2.2.2.2.2.2.2.2.2.2.2.2.2.2.2.2.2.2.2.2.2.2.2.2.1 K557.2.1 (by decide +kernel) (by decide +kernel)), (xGR_fr I.2.2.2.2.2.2.2.2.2.2.2.2.2.2.2.2.2.2.2.2.2.2.2.2.2.1 K557.2.1 (by decide +kernel) (by decide +kernel)), (xGR_fr I.2.2.2.2.2.2.2.2.2.2.2.2.2.2.2.2.2.2.2.2.2.2.2.2.2.2.1 K557.2.1 (by decide +kernel) (by decide +kernel)), (xGR_fr I.2.2.2.2.2.2.2.2.2.2.2.2.2.2.2.2.2.2.2.2.2.2.2.2.2.2.2.1 K557.2.1 (by decide +kernel) (by decide +kernel)), (xts_fr I.2.2.2.2.2.2.2.2.2.2.2.2.2.2.2.2.2.2.2.2.2.2.2.2.2.2.2.2.1 (fun l hl => K557.2.1 l (xk_el (by decide +kernel) hl))), ((K557.2.1 (63, 3) (by decide +kernel)).trans I.2.2.2.2.2.2.2.2.2.2.2.2.2.2.2.2.2.2.2.2.2.2.2.2.2.2.2.2.2)⟩
                · refine xi_iff (pc' := 4) kc_89_1 rfl (xc_lt_f (X := u500.toInt) (Y := 0) rfl (by decide) (by omega)) ?_
                  refine xi_iload_n (pc' := 5) (x := u500) kc_89_4 rfl rfl ?_
                  refine xi_bipush (pc' := 7) (v := 6) kc_89_5 rfl rfl ?_
                  refine xi_cmf (pc' := 10) kc_89_7 rfl (xc_ge_f (X := u500.toInt) (Y := 6) rfl (by decide) (by omega)) ?_
                  refine xi_iconst (pc' := 11) (v := 1) kc_89_10 rfl rfl ?_
                  refine xi_goto (pc' := 15) kc_89_11 rfl ?_
                  refine xi_ireturn kc_89_15 mr_89 rfl ?_
                  show xw J ov 98 105 (7, [(0, .ref pt498)], [.int 1], hh489) _
                  refine xi_ireturn kc_105_7 mr_105 rfl ?_
                  show xw J ov 99 103 (67, [(5, .ref pt498), (0, .ref 0), (1, .int a2), (2, .int a4), (3, .int a6), (4, .int 1)], [.int 1], hh489) _
                  refine xi_iff (pc' := 70) kc_103_67 rfl rfl ?_
                  refine xi_iconst (pc' := 71) (v := 0) kc_103_70 rfl rfl ?_
                  refine xi_goto (pc' := 75) kc_103_71 rfl ?_
                  refine xi_istore (pc' := 77) (lv' := [(6, .int 0), (5, .ref pt498), (0, .ref 0), (1, .int a2), (2, .int a4), (3, .int a6), (4, .int 1)]) kc_103_75 rfl rfl (xm_lt ml_103 rfl) ?_
                  refine xi_aload (pc' := 79) (x := pt498) kc_103_77 rfl rfl ?_
                  refine xi_iload_n (pc' := 80) (x := a4) kc_103_79 rfl rfl ?_
                  refine xi_putfield (pc' := 83) (fs' := [.int a4, .int u501, .int u502, .int u503, .ref pt504]) kc_103_80 rfl rfl rfl A510 rfl rfl rfl (Nat.le_of_ble_eq_true rfl) rfl (fun hh563 eh562 => ?_)
                  obtain ⟨ds564, Dds564, dds564_0, dds564_1, dds564_2, dds564_3⟩ := xGo_wall mpt498
                  have K565 := xk_pf (k := 0) (v := a4) K490 (xk_gf mpt498 (by decide +kernel)) Dds564 A510 dds564_0 (by first | omega | decide) (by first | omega | decide) eh562 rfl
                  refine xi_aload (pc' := 85) (x := pt498) kc_103_83 rfl rfl ?_
                  refine xi_iload_n (pc' := 86) (x := a6) kc_103_85 rfl rfl ?_
                  refine xi_putfield (pc' := 89) (fs' := [.int a4, .int a6, .int u502, .int u503, .ref pt504]) kc_103_86 rfl rfl rfl eh562.1 rfl rfl rfl (Nat.le_of_ble_eq_true rfl) rfl (fun hh567 eh566 => ?_)
                  obtain ⟨ds568, Dds568, dds568_0, dds568_1, dds568_2, dds568_3⟩ := xGo_wall mpt498
                  have K569 := xk_pf (k := 1) (v := a6) K565 (xk_gf mpt498 (by decide +kernel)) Dds568 eh562.1 dds568_1 (by first | omega | decide) (by first | omega | decide) eh566 rfl
                  refine xi_aload (pc' := 91) (x := pt498) kc_103_89 rfl rfl ?_
                  refine xi_iload (pc' := 93) (x := 1) kc_103_91 rfl rfl ?_
                  refine xi_putfield (pc' := 96) (fs' := [.int a4, .int a6, .int 1, .int u503, .ref pt504]) kc_103_93 rfl rfl rfl eh566.1 rfl rfl rfl (Nat.le_of_ble_eq_true rfl) rfl (fun hh571 eh570 => ?_)
                  obtain ⟨ds572, Dds572, dds572_0, dds572_1, dds572_2, dds572_3⟩ := xGo_wall mpt498
                  have K573 := xk_pf (k := 2) (v := 1) K569 (xk_gf mpt498 (by decide +kernel)) Dds572 eh566.1 dds572_2 (by first | omega | decide) (by first | omega | decide) eh570 rfl
                  refine xi_iload (pc' := 98) (x := 0) kc_103_96 rfl rfl ?_
                  refine xi_ireturn kc_103_98 mr_103 rfl ?_
                  show xw J ov 100 195 (437, [(4, .int x4), (3, .ref 167), (2, .ref 115), (1, .ref 0), (0, .ref 1000000)], [.int 0], hh571) _
                  refine xi_pop (pc' := 438) kc_195_437 rfl rfl ?_
                  refine xi_aload_n (pc' := 439) (x := 115) kc_195_438 rfl rfl ?_
                  refine xi_aload_n (pc' := 440) (x := 1000000) kc_195_439 rfl rfl ?_
                  refine xi_iload (pc' := 442) (x := x4) kc_195_440 rfl rfl ?_
                  refine xi_iconst (pc' := 443) (v := 1) kc_195_442 rfl rfl ?_
                  refine xi_iadd (pc' := 444) (v := v1) kc_195_443 rfl ev1 ?_
                  refine xi_ialoadO (pc' := 445) (v := a2) kc_195_444 rfl (by decide) hov0 (xi_in (by omega) (by omega)) ea2 ?_
                  refine xi_aload_n (pc' := 446) (x := 1000000) kc_195_445 rfl rfl ?_
                  refine xi_iload (pc' := 448) (x := x4) kc_195_446 rfl rfl ?_
                  refine xi_iconst (pc' := 449) (v := 2) kc_195_448 rfl rfl ?_
                  refine xi_iadd (pc' := 450) (v := v3) kc_195_449 rfl ev3 ?_
                  refine xi_ialoadO (pc' := 451) (v := a4) kc_195_450 rfl (by decide) hov0 (xi_in (by omega) (by omega)) ea4 ?_
                  refine xi_aload_n (pc' := 452) (x := 1000000) kc_195_451 rfl rfl ?_
                  refine xi_iload (pc' := 454) (x := x4) kc_195_452 rfl rfl ?_
                  refine xi_iconst (pc' := 455) (v := 3) kc_195_454 rfl rfl ?_
                  refine xi_iadd (pc' := 456) (v := v5) kc_195_455 rfl ev5 ?_
                  refine xi_ialoadO (pc' := 457) (v := a6) kc_195_456 rfl (by decide) hov0 (xi_in (by omega) (by omega)) ea6 ?_
                  refine xi_aload_n (pc' := 458) (x := 1000000) kc_195_457 rfl rfl ?_
                  refine xi_iload (pc' := 460) (x := x4) kc_195_458 rfl rfl ?_
                  refine xi_iconst (pc' := 461) (v := 4) kc_195_460 rfl rfl ?_
                  refine xi_iadd (pc' := 462) (v := v7) kc_195_461 rfl ev7 ?_
                  refine xi_ialoadO (pc' := 463) (v := a8) kc_195_462 rfl (by decide) hov0 (xi_in (by omega) (by omega)) ea8 ?_
                  refine xi_iff (pc' := 466) kc_195_463 rfl (xc_eq_f (X := a8.toInt) (Y := 0) rfl (by decide) (by omega)) ?_
                  refine xi_iconst (pc' := 467) (v := 1) kc_195_466 rfl rfl ?_
                  refine xi_goto (pc' := 471) kc_195_467 rfl ?_
                  obtain ⟨u574, u575, u576, u577, u578, u579, u580, u581, u582, u583, u584, u585, u586, bu574, bu575, bu576, bu577, bu578, bu579, bu580, bu581, bu582, bu583, bu584, bu585, bu586, A587⟩ := xq_115 K.1
                  have A588 := ((eh570.2.1 115 (xk_nc mpt498 rfl)).trans ((eh566.2.1 115 (xk_nc mpt498 rfl)).trans ((eh562.2.1 115 (xk_nc mpt498 rfl)).trans ((eh488.2.1 115 (by decide)).trans A587))))
                  refine xi_virtual (mj := 23) (as := [.int a2, .int a4, .int a6, .int 1]) (st1 := []) (lv0 := [(0, .ref 115), (1, .int a2), (2, .int a4), (3, .int a6), (4, .int 1)]) kc_195_471 rfl rfl rfl rfl rfl A588 (Nat.le_of_ble_eq_true rfl) (hJ _ _ _ _ (by decide)) (xm_le ml_23 rfl) rfl ?_
                  refine xi_aload_n (pc' := 1) (x := 115) kc_23_0 rfl rfl ?_
                  refine xi_iconst (pc' := 2) (v := 0) kc_23_1 rfl rfl ?_
                  refine xi_putfield (pc' := 5) (fs' := [.int 0, .int u575, .ref 116, .ref 117, .ref 118, .ref 119, .ref 120, .ref 121, .ref 122, .ref 123, .ref 124, .ref 125, .ref 126, .ref 127, .ref 128, .ref 129, .int u576, .ref 130, .int u577, .ref 131, .ref 132, .ref 133, .ref 134, .int u578, .ref 135, .ref 136, .ref 137, .ref 138, .ref 139, .ref 140, .ref 141, .ref 142, .int u579, .int u580, .int u581, .ref 143, .ref 144, .ref 145, .ref 146, .ref 147, .ref 148, .int u582, .ref 149, .ref 150, .ref 151, .int u583, .ref 152, .ref 153, .ref 154, .ref 155, .ref 156, .ref 157, .ref 158, .ref 159, .int u584, .ref 160, .int u585, .ref 161, .ref 162, .ref 163, .ref 164, .int u586, .ref 165, .ref 166]) kc_23_2 rfl rfl rfl A588 rfl rfl rfl (Nat.le_of_ble_eq_true rfl) rfl (fun hh590 eh589 => ?_)
                  have K591 := xk_pf (k := 0) (v := 0) K573 (xk_wf (by decide +kernel)) xD_115 A588 rfl (by first | omega | decide) (by first | omega | decide) eh589 rfl
                  refine xi_iload_n (pc' := 6) (x := a2) kc_23_5 rfl rfl ?_
                  refine xi_static (mj := 24) (as := [.int a2]) (st1 := []) (lv0 := [(0, .int a2)]) kc_23_6 rfl rfl (Nat.le_of_ble_eq_true rfl) rfl rfl (Nat.le_of_ble_eq_true rfl) (hJ _ _ _ _ (by decide)) (xm_le ml_24 rfl) rfl ?_
                  refine xi_iload_n (pc' := 1) (x := a2) kc_24_0 rfl rfl ?_
                  refine xi_iconst (pc' := 2) (v := 0) kc_24_1 rfl rfl ?_
                  refine xi_bipush (pc' := 4) (v := 11) kc_24_2 rfl rfl ?_
                  refine xi_static (mj := 11) (as := [.int a2, .int 0, .int 11]) (st1 := []) (lv0 := [(0, .int a2), (1, .int 0), (2, .int 11)]) kc_24_4 rfl rfl (Nat.le_of_ble_eq_true rfl) rfl rfl (Nat.le_of_ble_eq_true rfl) (hJ _ _ _ _ (by decide)) (xm_le ml_11 rfl) rfl ?_
                  refine xi_iload_n (pc' := 1) (x := a2) kc_11_0 rfl rfl ?_
                  refine xi_iload_n (pc' := 2) (x := 0) kc_11_1 rfl rfl ?_
                  refine xi_cmf (pc' := 5) kc_11_2 rfl (xc_lt_f (X := a2.toInt) (Y := 0) rfl (by decide) (by omega)) ?_
                  refine xi_iload_n (pc' := 6) (x := a2) kc_11_5 rfl rfl ?_
                  refine xi_iload_n (pc' := 7) (x := 11) kc_11_6 rfl rfl ?_
                  refine xi_cmf (pc' := 10) kc_11_7 rfl (xc_gt_f (X := a2.toInt) (Y := 11) rfl (by decide) (by omega)) ?_
                  refine xi_iconst (pc' := 11) (v := 1) kc_11_10 rfl rfl ?_
                  refine xi_goto (pc' := 15) kc_11_11 rfl ?_
                  refine xi_ireturn kc_11_15 mr_11 rfl ?_
                  show xw J ov 98 24 (7, [(0, .int a2)], [.int 1], hh590) _
                  refine xi_ireturn kc_24_7 mr_24 rfl ?_
                  show xw J ov 99 23 (9, [(0, .ref 115), (1, .int a2), (2, .int a4), (3, .int a6), (4, .int 1)], [.int 1], hh590) _
                  refine xi_iff (pc' := 12) kc_23_9 rfl rfl ?_
                  refine xi_iload_n (pc' := 13) (x := a4) kc_23_12 rfl rfl ?_
                  refine xi_static (mj := 10) (as := [.int a4]) (st1 := []) (lv0 := [(0, .int a4)]) kc_23_13 rfl rfl (Nat.le_of_ble_eq_true rfl) rfl rfl (Nat.le_of_ble_eq_true rfl) (hJ _ _ _ _ (by decide)) (xm_le ml_10 rfl) rfl ?_
                  refine xi_iload_n (pc' := 1) (x := a4) kc_10_0 rfl rfl ?_
                  refine xi_iconst (pc' := 2) (v := 0) kc_10_1 rfl rfl ?_
                  refine xi_iconst (pc' := 3) (v := 5) kc_10_2 rfl rfl ?_
                  refine xi_static (mj := 11) (as := [.int a4, .int 0, .int 5]) (st1 := []) (lv0 := [(0, .int a4), (1, .int 0), (2, .int 5)]) kc_10_3 rfl rfl (Nat.le_of_ble_eq_true rfl) rfl rfl (Nat.le_of_ble_eq_true rfl) (hJ _ _ _ _ (by decide)) (xm_le ml_11 rfl) rfl ?_
                  refine xi_iload_n (pc' := 1) (x := a4) kc_11_0 rfl rfl ?_
                  refine xi_iload_n (pc' := 2) (x := 0) kc_11_1 rfl rfl ?_
                  refine xi_cmf (pc' := 5) kc_11_2 rfl (xc_lt_f (X := a4.toInt) (Y := 0) rfl (by decide) (by omega)) ?_
                  refine xi_iload_n (pc' := 6) (x := a4) kc_11_5 rfl rfl ?_
                  refine xi_iload_n (pc' := 7) (x := 5) kc_11_6 rfl rfl ?_
                  refine xi_cmf (pc' := 10) kc_11_7 rfl (xc_gt_f (X := a4.toInt) (Y := 5) rfl (by decide) (by omega)) ?_
                  refine xi_iconst (pc' := 11) (v := 1) kc_11_10 rfl rfl ?_
                  refine xi_goto (pc' := 15) kc_11_11 rfl ?_
                  refine xi_ireturn kc_11_15 mr_11 rfl ?_
                  show xw J ov 98 10 (6, [(0, .int a4)], [.int 1], hh590) _
                  refine xi_ireturn kc_10_6 mr_10 rfl ?_
                  show xw J ov 99 23 (16, [(0, .ref 115), (1, .int a2), (2, .int a4), (3, .int a6), (4, .int 1)], [.int 1], hh590) _
                  refine xi_ift (pc' := 25) kc_23_16 rfl rfl ?_
                  refine xi_iload_n (pc' := 26) (x := a6) kc_23_25 rfl rfl ?_
                  refine xi_ift (pc' := 36) kc_23_26 rfl (xc_ge_t (X := a6.toInt) (Y := 0) rfl (by decide) (by omega)) ?_
                  refine xi_iload_n (pc' := 37) (x := a6) kc_23_36 rfl rfl ?_
                  refine xi_bipush (pc' := 39) (v := 100) kc_23_37 rfl rfl ?_
                  refine xi_cmt (pc' := 49) kc_23_39 rfl (xc_le_t (X := a6.toInt) (Y := 100) rfl (by decide) (by omega)) ?_
                  refine xi_aload_n (pc' := 50) (x := 115) kc_23_49 rfl rfl ?_
                  refine xi_getfield (pc' := 53) (v := .ref 125) kc_23_50 rfl rfl rfl eh589.1 rfl ?_
                  refine xi_iload_n (pc' := 54) (x := a2) kc_23_53 rfl rfl ?_
                  have A592 := ((eh589.2.1 125 (by decide)).trans ((eh570.2.1 125 (xk_nc mpt498 rfl)).trans ((eh566.2.1 125 (xk_nc mpt498 rfl)).trans ((eh562.2.1 125 (xk_nc mpt498 rfl)).trans ((eh488.2.1 125 (by decide)).trans A506)))))
                  refine xi_iaload (pc' := 55) (v := u500) kc_23_54 rfl A592 (by decide) rfl (xi_in (by omega) (by rw [hy506]; omega)) HG507 ?_
                  refine xi_iff (pc' := 58) kc_23_55 rfl (xc_lt_f (X := u500.toInt) (Y := 0) rfl (by decide) (by omega)) ?_
                  refine xi_iconst (pc' := 59) (v := 1) kc_23_58 rfl rfl ?_
                  refine xi_goto (pc' := 63) kc_23_59 rfl ?_
                  refine xi_istore (pc' := 65) (lv' := [(5, .int 1), (0, .ref 115), (1, .int a2), (2, .int a4), (3, .int a6), (4, .int 1)]) kc_23_63 rfl rfl (xm_lt ml_23 rfl) ?_
                  refine xi_aload_n (pc' := 66) (x := 115) kc_23_65 rfl rfl ?_
                  refine xi_getfield (pc' := 69) (v := .ref 125) kc_23_66 rfl rfl rfl eh589.1 rfl ?_
                  refine xi_iload_n (pc' := 70) (x := a2) kc_23_69 rfl rfl ?_
                  refine xi_iload_n (pc' := 71) (x := a4) kc_23_70 rfl rfl ?_
                  obtain ⟨y593, s593, hy593, ry593⟩ := xj_set (v := a4) hy506 ry506 a2 (by first | omega | decide) (by first | omega | decide)
                  refine xi_iastore (pc' := 72) (x' := y593) kc_23_71 rfl A592 rfl (xi_in (by omega) (by rw [hy506]; omega)) s593 (fun hh593 eh593 => ?_)
                  have K594 := xk_pa K591 (xk_wa (by decide +kernel)) xD_125 hy593 ry593 eh593
                  refine xi_aload_n (pc' := 73) (x := 115) kc_23_72 rfl rfl ?_
                  have A595 := ((eh593.2.1 115 (by decide)).trans eh589.1)
                  refine xi_getfield (pc' := 76) (v := .ref 126) kc_23_73 rfl rfl rfl A595 rfl ?_
                  refine xi_iload_n (pc' := 77) (x := a2) kc_23_76 rfl rfl ?_
                  refine xi_iload_n (pc' := 78) (x := a6) kc_23_77 rfl rfl ?_
                  obtain ⟨y596, A596, hy596, ry596⟩ := xk_arr K.1 xD_126
                  have A597 := ((eh593.2.1 126 (by decide)).trans ((eh589.2.1 126 (by decide)).trans ((eh570.2.1 126 (xk_nc mpt498 rfl)).trans ((eh566.2.1 126 (xk_nc mpt498 rfl)).trans ((eh562.2.1 126 (xk_nc mpt498 rfl)).trans ((eh488.2.1 126 (by decide)).trans A596))))))
                  obtain ⟨y598, s598, hy598, ry598⟩ := xj_set (v := a6) hy596 ry596 a2 (by first | omega | decide) (by first | omega | decide)
                  refine xi_iastore (pc' := 79) (x' := y598) kc_23_78 rfl A597 rfl (xi_in (by omega) (by rw [hy596]; omega)) s598 (fun hh598 eh598 => ?_)
                  have K599 := xk_pa K594 (xk_wa (by decide +kernel)) xD_126 hy598 ry598 eh598
                  refine xi_aload_n (pc' := 80) (x := 115) kc_23_79 rfl rfl ?_
                  have A600 := ((eh598.2.1 115 (by decide)).trans A595)
                  refine xi_getfield (pc' := 83) (v := .ref 127) kc_23_80 rfl rfl rfl A600 rfl ?_
                  refine xi_iload_n (pc' := 84) (x := a2) kc_23_83 rfl rfl ?_
                  refine xi_iload (pc' := 86) (x := 1) kc_23_84 rfl rfl ?_
                  have A601 := ((eh598.2.1 127 (by decide)).trans ((eh593.2.1 127 (by decide)).trans ((eh589.2.1 127 (by decide)).trans ((eh570.2.1 127 (xk_nc mpt498 rfl)).trans ((eh566.2.1 127 (xk_nc mpt498 rfl)).trans ((eh562.2.1 127 (xk_nc mpt498 rfl)).trans ((eh488.2.1 127 (by decide)).trans A508)))))))
                  obtain ⟨y602, s602, hy602, ry602⟩ := xj_set (v := 1) hy508 ry508 a2 (by first | omega | decide) (by first | omega | decide)
                  refine xi_bastore (pc' := 87) (x' := y602) kc_23_86 rfl A601 rfl (xi_in (by omega) (by rw [hy508]; omega)) s602 (fun hh602 eh602 => ?_)
                  have K603 := xk_pa K599 (xk_wa (by decide +kernel)) xD_127 hy602 ry602 eh602
                  refine xi_aload_n (pc' := 88) (x := 115) kc_23_87 rfl rfl ?_
                  refine xi_iconst (pc' := 89) (v := 0) kc_23_88 rfl rfl ?_
                  have A604 := ((eh602.2.1 115 (by decide)).trans A600)
                  refine xi_putfield (pc' := 92) (fs' := [.int 0, .int u575, .ref 116, .ref 117, .ref 118, .ref 119, .ref 120, .ref 121, .ref 122, .ref 123, .ref 124, .ref 125, .ref 126, .ref 127, .ref 128, .ref 129, .int u576, .ref 130, .int u577, .ref 131, .ref 132, .ref 133, .ref 134, .int u578, .ref 135, .ref 136, .ref 137, .ref 138, .ref 139, .ref 140, .ref 141, .ref 142, .int u579, .int u580, .int u581, .ref 143, .ref 144, .ref 145, .ref 146, .ref 147, .ref 148, .int 0, .ref 149, .ref 150, .ref 151, .int u583, .ref 152, .ref 153, .ref 154, .ref 155, .ref 156, .ref 157, .ref 158, .ref 159, .int u584, .ref 160, .int u585, .ref 161, .ref 162, .ref 163, .ref 164, .int u586, .ref 165, .ref 166]) kc_23_89 rfl rfl rfl A604 rfl rfl rfl (Nat.le_of_ble_eq_true rfl) rfl (fun hh606 eh605 => ?_)
                  have K607 := xk_pf (k := 41) (v := 0) K603 (xk_wf (by decide +kernel)) xD_115 A604 rfl (by first | omega | decide) (by first | omega | decide) eh605 rfl
                  refine xi_iload (pc' := 94) (x := 1) kc_23_92 rfl rfl ?_
                  refine xi_iff (pc' := 97) kc_23_94 rfl rfl ?_
                  refine xi_iconst (pc' := 98) (v := 0) kc_23_97 rfl rfl ?_
                  refine xi_goto (pc' := 102) kc_23_98 rfl ?_
                  refine xi_ireturn kc_23_102 mr_23 rfl ?_
                  show xw J ov 100 195 (474, [(4, .int x4), (3, .ref 167), (2, .ref 115), (1, .ref 0), (0, .ref 1000000)], [.int 0], hh606) _
                  refine xi_pop (pc' := 475) kc_195_474 rfl rfl ?_
                  refine xi_goto (pc' := 1501) kc_195_475 rfl ?_
                  obtain ⟨v608, ev608⟩ : ∃ q : Int32, x4 + 6 = q := ⟨_, rfl⟩
                  have zv608 : v608.toInt = (x4.toInt + 6) := by rw [← ev608]; exact (xz_add (X := x4.toInt) (Y := 6) rfl (by decide) (by omega) (by omega)).trans (by omega)
                  refine xi_iinc (pc' := 1504) (x := x4) (v := v608) (lv' := [(4, .int v608), (3, .ref 167), (2, .ref 115), (1, .ref 0), (0, .ref 1000000)]) kc_195_1501 rfl rfl ev608 rfl (xm_lt ml_195 rfl) ?_
                  refine xi_goto (pc' := 23) kc_195_1504 rfl ?_
                  have A609 := ((eh605.2.1 pt498 (Ne.symm (xk_nc mpt498 rfl))).trans ((eh602.2.1 pt498 (Ne.symm (xk_nc mpt498 rfl))).trans ((eh598.2.1 pt498 (Ne.symm (xk_nc mpt498 rfl))).trans ((eh593.2.1 pt498 (Ne.symm (xk_nc mpt498 rfl))).trans ((eh589.2.1 pt498 (Ne.symm (xk_nc mpt498 rfl))).trans eh570.1)))))
                  have A610 := ((eh605.2.1 125 (by decide)).trans ((eh602.2.1 125 (by decide)).trans ((eh598.2.1 125 (by decide)).trans eh593.1)))
                  have A611 := ((eh605.2.1 127 (by decide)).trans eh602.1)
                  exact kk v608 hh606 (by omega) K607 ⟨((K607.2.1 (0, 9) (by decide +kernel)).trans (I.1.trans (K607.2.1 (115, 1) (by decide +kernel)).symm)), (xWW_fr I.2.1 (K607.2.1 (64, 0) (by decide +kernel)) (K607.2.1 (121, 0) (by decide +kernel))), (xSG_fr I.2.2.1 (fun l hl => K607.2.1 l (xk_el (by decide +kernel) hl))), (by rw [(K607.2.1 (13, 0) (by decide +kernel)), (K607.2.1 (122, 0) (by decide +kernel))]; exact I.2.2.2.1), (by rw [(K607.2.1 (16, 0) (by decide +kernel)), (K607.2.1 (122, 0) (by decide +kernel))]; exact I.2.2.2.2.1), (by rw [(K607.2.1 (19, 0) (by decide +kernel)), (K607.2.1 (122, 0) (by decide +kernel))]; exact I.2.2.2.2.2.1), (by rw [(K607.2.1 (22, 0) (by decide +kernel)), (K607.2.1 (122, 0) (by decide +kernel))]; exact I.2.2.2.2.2.2.1), (by rw [(K607.2.1 (25, 0) (by decide +kernel)), (K607.2.1 (122, 0) (by decide +kernel))]; exact I.2.2.2.2.2.2.2.1), (by rw [(K607.2.1 (28, 0) (by decide +kernel)), (K607.2.1 (122, 0) (by decide +kernel))]; exact I.2.2.2.2.2.2.2.2.1), (by rw [(K607.2.1 (6, 0) (by decide +kernel)), (K607.2.1 (123, 0) (by decide +kernel))]; exact I.2.2.2.2.2.2.2.2.2.1), (by rw [(K607.2.1 (9, 0) (by decide +kernel)), (K607.2.1 (124, 0) (by decide +kernel))]; exact I.2.2.2.2.2.2.2.2.2.2.1), (by rw [(K607.2.1 (7, 0) (by decide +kernel)), (K607.2.1 (6, 0) (by decide +kernel))]; exact I.2.2.2.2.2.2.2.2.2.2.2.1), (by rw [(K607.2.1 (10, 0) (by decide +kernel)), (K607.2.1 (9, 0) (by decide +kernel))]; exact I.2.2.2.2.2.2.2.2.2.2.2.2.1), ((K607.2.1 (5, 0) (by decide +kernel)).trans I.2.2.2.2.2.2.2.2.2.2.2.2.2.1), ((K607.2.1 (8, 0) (by decide +kernel)).trans I.2.2.2.2.2.2.2.2.2.2.2.2.2.2.1), (xGR_set (Lo := [some 29, some 31, some 33, some 35, some 37, some 39, some 41, some 43, some 45, some 47, some 49, some 51]) I.2.2.2.2.2.2.2.2.2.2.2.2.2.2.2.1 (by decide) rfl ept498 (by omega) (by show _ < ((12 : Nat) : Int); omega) A506 (by rw [hy506]; decide) A609 rfl A610 s593 (fun c hc hne => ((eh605.2.1 c (Ne.symm (xk_nc hc rfl))).trans ((eh602.2.1 c (Ne.symm (xk_nc hc rfl))).trans ((eh598.2.1 c (Ne.symm (xk_nc hc rfl))).trans ((eh593.2.1 c (Ne.symm (xk_nc hc rfl))).trans ((eh589.2.1 c (Ne.symm (xk_nc hc rfl))).trans ((eh570.2.1 c hne).trans ((eh566.2.1 c hne).trans ((eh562.2.1 c hne).trans (eh488.2.1 c (Ne.symm (xk_nc hc rfl))))))))))))), (xGR_set (Lo := [some 29, some 31, some 33, some 35, some 37, some 39, some 41, some 43, some 45, some 47, some 49, some 51]) I.2.2.2.2.2.2.2.2.2.2.2.2.2.2.2.2.1 (by decide) rfl ept498 (by omega) (by show _ < ((12 : Nat) : Int); omega) A508 (by rw [hy508]; decide) A609 rfl A611 s602 (fun c hc hne => ((eh605.2.1 c (Ne.symm (xk_nc hc rfl))).trans ((eh602.2.1 c (Ne.symm (xk_nc hc rfl))).trans ((eh598.2.1 c (Ne.symm (xk_nc hc rfl))).trans ((eh593.2.1 c (Ne.symm (xk_nc hc rfl))).trans ((eh589.2.1 c (Ne.symm (xk_nc hc rfl))).trans ((eh570.2.1 c hne).trans ((eh566.2.1 c hne).trans ((eh562.2.1 c hne).trans (eh488.2.1 c (Ne.symm (xk_nc hc rfl))))))))))))), ((K607.2.1 (1, 5) (by decide +kernel)).trans (I.2.2.2.2.2.2.2.2.2.2.2.2.2.2.2.2.2.1.trans (K607.2.1 (115, 23) (by decide +kernel)).symm)), (xGR_fr I.2.2.2.2.2.2.2.2.2.2.2.2.2.2.2.2.2.2.1 K607.2.1 (by decide +kernel) (by decide +kernel)), (xGR_fr I.2.2.2.2.2.2.2.2.2.2.2.2.2.2.2.2.2.2.2.1 K607.2.1 (by decide +kernel) (by decide +kernel)), (xGR_fr I.2.2.2.2.2.2.2.2.2.2.2.2.2.2.2.2.2.2.2.2.1 K607.2.1 (by decide +kernel) (by decide +kernel)), (xGR_fr I.2.2.2.2.2.2.2.2.2.2.2.2.2.2.2.2.2.2.2.2.2.1 K607.2.1 (by decide +kernel) (by decide +kernel)), (by rw [(K607.2.1 (63, 2) (by decide +kernel)), (K607.2.1 (139, 0) (by decide +kernel)), (K607.2.1 (1, 5) (by decide +kernel))]; exact I.2.2.2.2.2.2.2.2.2.2.2.2.2.2.2.2.2.2.2.2.2.2.1), ((K607.2.1 (0, 8) (by decide +kernel)).trans (I.2.2.2.2.2.2.2.2.2.2.2.2.2.2.2.2.2.2.2.2.2.2.2.1.trans (K607.2.1 (115, 34) (by decide +kernel)).symm)), (xGR_fr I.2.2.2.2.2.2.2.2.2.2.2.2.2.2.2.2.2.2.2.2.2.2.2.2.1 K607.2.1 (by decide +kernel) (by decide +kernel)), (xGR_fr I.2.2.2.2.2.2.2.2.2.2.2.2.2.2.2.2.2.2.2.2.2.2.2.2.2.1 K607.2.1 (by decide +kernel) (by decide +kernel)), (xGR_fr I.2.2.2.2.2.2.2.2.2.2.2.2.2.2.2.2.2.2.2.2.2.2.2.2.2.2.1 K607.2.1 (by decide +kernel) (by decide +kernel)), (xGR_fr I.2.2.2.2.2.2.2.2.2.2.2.2.2.2.2.2.2.2.2.2.2.2.2.2.2.2.2.1 K607.2.1 (by decide +kernel) (by decide +kernel)), (xts_fr I.2.2.2.2.2.2.2.2.2.2.2.2.2.2.2.2.2.2.2.2.2.2.2.2.2.2.2.2.1 (fun l hl => K607.2.1 l (xk_el (by decide +kernel) hl))), ((K607.2.1 (63, 3) (by decide +kernel)).trans I.2.2.2.2.2.2.2.2.2.2.2.2.2.2.2.2.2.2.2.2.2.2.2.2.2.2.2.2.2)⟩
              · refine xi_cmf (pc' := 37) kc_103_34 rfl (xc_le_f (X := a6.toInt) (Y := 100) rfl (by decide) (by omega)) ?_
                refine xi_aload_n (pc' := 38) (x := 0) kc_103_37 rfl rfl ?_
                refine xi_bipush (pc' := 40) (v := (-6)) kc_103_38 rfl rfl ?_
                refine xi_virtual (mj := 90) (as := [.int (-6)]) (st1 := []) (lv0 := [(0, .ref 0), (1, .int (-6))]) kc_103_40 rfl rfl rfl rfl rfl A346 (Nat.le_of_ble_eq_true rfl) (hJ _ _ _ _ (by decide)) (xm_le ml_90 rfl) rfl ?_
                refine xi_iload_n (pc' := 1) (x := (-6)) kc_90_0 rfl rfl ?_
                refine xi_ineg (pc' := 2) (v := 6) kc_90_1 rfl rfl ?_
                refine xi_istore_n (pc' := 3) (lv' := [(2, .int 6), (0, .ref 0), (1, .int (-6))]) kc_90_2 rfl rfl (xm_lt ml_90 rfl) ?_
                refine xi_iload_n (pc' := 4) (x := 6) kc_90_3 rfl rfl ?_
                refine xi_iff (pc' := 7) kc_90_4 rfl rfl ?_
                refine xi_iload_n (pc' := 8) (x := 6) kc_90_7 rfl rfl ?_
                refine xi_aload_n (pc' := 9) (x := 0) kc_90_8 rfl rfl ?_
                refine xi_getfield (pc' := 12) (v := .ref 94) kc_90_9 rfl rfl rfl A346 rfl ?_
                obtain ⟨y612, A612, hy612, ry612⟩ := xk_arr K.1 xD_94
                refine xi_arraylength (pc' := 13) (n := 7) (v := 7) kc_90_12 rfl (xl_lenI (by decide) (by decide) A612 hy612) rfl ?_
                refine xi_cmf (pc' := 16) kc_90_13 rfl rfl ?_
                refine xi_aload_n (pc' := 17) (x := 0) kc_90_16 rfl rfl ?_
                refine xi_getfield (pc' := 20) (v := .ref 94) kc_90_17 rfl rfl rfl A346 rfl ?_
                refine xi_iload_n (pc' := 21) (x := 6) kc_90_20 rfl rfl ?_
                refine xi_dup2 (pc' := 22) kc_90_21 rfl ⟨rfl, rfl⟩ ?_
                obtain ⟨v613, ev613, bv613, dv613⟩ := xj_get hy612 ry612 (i := 6) (by decide) (by decide)
                refine xi_iaload (pc' := 23) (v := v613) kc_90_22 rfl A612 (by decide) rfl (xi_in (by decide) (by rw [hy612]; decide)) ev613 ?_
                refine xi_iconst (pc' := 24) (v := 1) kc_90_23 rfl rfl ?_
                obtain ⟨v614, ev614⟩ : ∃ q : Int32, (v613 : Int32) + 1 = q := ⟨_, rfl⟩
                have rv614 := xc_rng v614
                refine xi_iadd (pc' := 25) (v := v614) kc_90_24 rfl ev614 ?_
                obtain ⟨y615, s615, hy615, ry615⟩ := xj_set (v := v614) hy612 ry612 6 (by first | omega | decide) (by first | omega | decide)
                refine xi_iastore (pc' := 26) (x' := y615) kc_90_25 rfl A612 rfl (xi_in (by decide) (by rw [hy612]; decide)) s615 (fun hh615 eh615 => ?_)
                have K616 := xk_pa K (xk_wa (by decide +kernel)) xD_94 hy615 ry615 eh615
                have KR617 := xk_pa KR (xk_wa (by decide +kernel)) xD_94 hy615 ry615 eh615
                refine xi_iload_n (pc' := 27) (x := (-6)) kc_90_26 rfl rfl ?_
                refine xi_ireturn kc_90_27 mr_90 rfl ?_
                show xw J ov 99 103 (43, [(0, .ref 0), (1, .int a2), (2, .int a4), (3, .int a6), (4, .int 1)], [.int (-6)], hh615) _
                refine xi_ireturn kc_103_43 mr_103 rfl ?_
                show xw J ov 100 195 (437, [(4, .int x4), (3, .ref 167), (2, .ref 115), (1, .ref 0), (0, .ref 1000000)], [.int (-6)], hh615) _
                refine xi_pop (pc' := 438) kc_195_437 rfl rfl ?_
                refine xi_aload_n (pc' := 439) (x := 115) kc_195_438 rfl rfl ?_
                refine xi_aload_n (pc' := 440) (x := 1000000) kc_195_439 rfl rfl ?_
                refine xi_iload (pc' := 442) (x := x4) kc_195_440 rfl rfl ?_
                refine xi_iconst (pc' := 443) (v := 1) kc_195_442 rfl rfl ?_
                refine xi_iadd (pc' := 444) (v := v1) kc_195_443 rfl ev1 ?_
                refine xi_ialoadO (pc' := 445) (v := a2) kc_195_444 rfl (by decide) hov0 (xi_in (by omega) (by omega)) ea2 ?_
                refine xi_aload_n (pc' := 446) (x := 1000000) kc_195_445 rfl rfl ?_
                refine xi_iload (pc' := 448) (x := x4) kc_195_446 rfl rfl ?_
                refine xi_iconst (pc' := 449) (v := 2) kc_195_448 rfl rfl ?_
                refine xi_iadd (pc' := 450) (v := v3) kc_195_449 rfl ev3 ?_
                refine xi_ialoadO (pc' := 451) (v := a4) kc_195_450 rfl (by decide) hov0 (xi_in (by omega) (by omega)) ea4 ?_
                refine xi_aload_n (pc' := 452) (x := 1000000) kc_195_451 rfl rfl ?_
                refine xi_iload (pc' := 454) (x := x4) kc_195_452 rfl rfl ?_
                refine xi_iconst (pc' := 455) (v := 3) kc_195_454 rfl rfl ?_
                refine xi_iadd (pc' := 456) (v := v5) kc_195_455 rfl ev5 ?_
                refine xi_ialoadO (pc' := 457) (v := a6) kc_195_456 rfl (by decide) hov0 (xi_in (by omega) (by omega)) ea6 ?_
                refine xi_aload_n (pc' := 458) (x := 1000000) kc_195_457 rfl rfl ?_
                refine xi_iload (pc' := 460) (x := x4) kc_195_458 rfl rfl ?_
                refine xi_iconst (pc' := 461) (v := 4) kc_195_460 rfl rfl ?_
                refine xi_iadd (pc' := 462) (v := v7) kc_195_461 rfl ev7 ?_
                refine xi_ialoadO (pc' := 463) (v := a8) kc_195_462 rfl (by decide) hov0 (xi_in (by omega) (by omega)) ea8 ?_
                refine xi_iff (pc' := 466) kc_195_463 rfl (xc_eq_f (X := a8.toInt) (Y := 0) rfl (by decide) (by omega)) ?_
                refine xi_iconst (pc' := 467) (v := 1) kc_195_466 rfl rfl ?_
                refine xi_goto (pc' := 471) kc_195_467 rfl ?_
                obtain ⟨u618, u619, u620, u621, u622, u623, u624, u625, u626, u627, u628, u629, u630, bu618, bu619, bu620, bu621, bu622, bu623, bu624, bu625, bu626, bu627, bu628, bu629, bu630, A631⟩ := xq_115 K.1
                have A632 := ((eh615.2.1 115 (by decide)).trans A631)
                refine xi_virtual (mj := 23) (as := [.int a2, .int a4, .int a6, .int 1]) (st1 := []) (lv0 := [(0, .ref 115), (1, .int a2), (2, .int a4), (3, .int a6), (4, .int 1)]) kc_195_471 rfl rfl rfl rfl rfl A632 (Nat.le_of_ble_eq_true rfl) (hJ _ _ _ _ (by decide)) (xm_le ml_23 rfl) rfl ?_
                refine xi_aload_n (pc' := 1) (x := 115) kc_23_0 rfl rfl ?_
                refine xi_iconst (pc' := 2) (v := 0) kc_23_1 rfl rfl ?_
                refine xi_putfield (pc' := 5) (fs' := [.int 0, .int u619, .ref 116, .ref 117, .ref 118, .ref 119, .ref 120, .ref 121, .ref 122, .ref 123, .ref 124, .ref 125, .ref 126, .ref 127, .ref 128, .ref 129, .int u620, .ref 130, .int u621, .ref 131, .ref 132, .ref 133, .ref 134, .int u622, .ref 135, .ref 136, .ref 137, .ref 138, .ref 139, .ref 140, .ref 141, .ref 142, .int u623, .int u624, .int u625, .ref 143, .ref 144, .ref 145, .ref 146, .ref 147, .ref 148, .int u626, .ref 149, .ref 150, .ref 151, .int u627, .ref 152, .ref 153, .ref 154, .ref 155, .ref 156, .ref 157, .ref 158, .ref 159, .int u628, .ref 160, .int u629, .ref 161, .ref 162, .ref 163, .ref 164, .int u630, .ref 165, .ref 166]) kc_23_2 rfl rfl rfl A632 rfl rfl rfl (Nat.le_of_ble_eq_true rfl) rfl (fun hh634 eh633 => ?_)
                have K635 := xk_pf (k := 0) (v := 0) K616 (xk_wf (by decide +kernel)) xD_115 A632 rfl (by first | omega | decide) (by first | omega | decide) eh633 rfl
                have KR636 := xk_pf (k := 0) (v := 0) KR617 (xk_wf (by decide +kernel)) xD_115 A632 rfl (by first | omega | decide) (by first | omega | decide) eh633 rfl
                refine xi_iload_n (pc' := 6) (x := a2) kc_23_5 rfl rfl ?_
                refine xi_static (mj := 24) (as := [.int a2]) (st1 := []) (lv0 := [(0, .int a2)]) kc_23_6 rfl rfl (Nat.le_of_ble_eq_true rfl) rfl rfl (Nat.le_of_ble_eq_true rfl) (hJ _ _ _ _ (by decide)) (xm_le ml_24 rfl) rfl ?_
                refine xi_iload_n (pc' := 1) (x := a2) kc_24_0 rfl rfl ?_
                refine xi_iconst (pc' := 2) (v := 0) kc_24_1 rfl rfl ?_
                refine xi_bipush (pc' := 4) (v := 11) kc_24_2 rfl rfl ?_
                refine xi_static (mj := 11) (as := [.int a2, .int 0, .int 11]) (st1 := []) (lv0 := [(0, .int a2), (1, .int 0), (2, .int 11)]) kc_24_4 rfl rfl (Nat.le_of_ble_eq_true rfl) rfl rfl (Nat.le_of_ble_eq_true rfl) (hJ _ _ _ _ (by decide)) (xm_le ml_11 rfl) rfl ?_
                refine xi_iload_n (pc' := 1) (x := a2) kc_11_0 rfl rfl ?_
                refine xi_iload_n (pc' := 2) (x := 0) kc_11_1 rfl rfl ?_
                refine xi_cmf (pc' := 5) kc_11_2 rfl (xc_lt_f (X := a2.toInt) (Y := 0) rfl (by decide) (by omega)) ?_
                refine xi_iload_n (pc' := 6) (x := a2) kc_11_5 rfl rfl ?_
                refine xi_iload_n (pc' := 7) (x := 11) kc_11_6 rfl rfl ?_
                refine xi_cmf (pc' := 10) kc_11_7 rfl (xc_gt_f (X := a2.toInt) (Y := 11) rfl (by decide) (by omega)) ?_
                refine xi_iconst (pc' := 11) (v := 1) kc_11_10 rfl rfl ?_
                refine xi_goto (pc' := 15) kc_11_11 rfl ?_
                refine xi_ireturn kc_11_15 mr_11 rfl ?_
                show xw J ov 98 24 (7, [(0, .int a2)], [.int 1], hh634) _
                refine xi_ireturn kc_24_7 mr_24 rfl ?_
                show xw J ov 99 23 (9, [(0, .ref 115), (1, .int a2), (2, .int a4), (3, .int a6), (4, .int 1)], [.int 1], hh634) _
                refine xi_iff (pc' := 12) kc_23_9 rfl rfl ?_
                refine xi_iload_n (pc' := 13) (x := a4) kc_23_12 rfl rfl ?_
                refine xi_static (mj := 10) (as := [.int a4]) (st1 := []) (lv0 := [(0, .int a4)]) kc_23_13 rfl rfl (Nat.le_of_ble_eq_true rfl) rfl rfl (Nat.le_of_ble_eq_true rfl) (hJ _ _ _ _ (by decide)) (xm_le ml_10 rfl) rfl ?_
                refine xi_iload_n (pc' := 1) (x := a4) kc_10_0 rfl rfl ?_
                refine xi_iconst (pc' := 2) (v := 0) kc_10_1 rfl rfl ?_
                refine xi_iconst (pc' := 3) (v := 5) kc_10_2 rfl rfl ?_
                refine xi_static (mj := 11) (as := [.int a4, .int 0, .int 5]) (st1 := []) (lv0 := [(0, .int a4), (1, .int 0), (2, .int 5)]) kc_10_3 rfl rfl (Nat.le_of_ble_eq_true rfl) rfl rfl (Nat.le_of_ble_eq_true rfl) (hJ _ _ _ _ (by decide)) (xm_le ml_11 rfl) rfl ?_
                refine xi_iload_n (pc' := 1) (x := a4) kc_11_0 rfl rfl ?_
                refine xi_iload_n (pc' := 2) (x := 0) kc_11_1 rfl rfl ?_
                refine xi_cmf (pc' := 5) kc_11_2 rfl (xc_lt_f (X := a4.toInt) (Y := 0) rfl (by decide) (by omega)) ?_
                refine xi_iload_n (pc' := 6) (x := a4) kc_11_5 rfl rfl ?_
                refine xi_iload_n (pc' := 7) (x := 5) kc_11_6 rfl rfl ?_
                refine xi_cmf (pc' := 10) kc_11_7 rfl (xc_gt_f (X := a4.toInt) (Y := 5) rfl (by decide) (by omega)) ?_
                refine xi_iconst (pc' := 11) (v := 1) kc_11_10 rfl rfl ?_
                refine xi_goto (pc' := 15) kc_11_11 rfl ?_
                refine xi_ireturn kc_11_15 mr_11 rfl ?_
                show xw J ov 98 10 (6, [(0, .int a4)], [.int 1], hh634) _
                refine xi_ireturn kc_10_6 mr_10 rfl ?_
                show xw J ov 99 23 (16, [(0, .ref 115), (1, .int a2), (2, .int a4), (3, .int a6), (4, .int 1)], [.int 1], hh634) _
                refine xi_ift (pc' := 25) kc_23_16 rfl rfl ?_
                refine xi_iload_n (pc' := 26) (x := a6) kc_23_25 rfl rfl ?_
                refine xi_ift (pc' := 36) kc_23_26 rfl (xc_ge_t (X := a6.toInt) (Y := 0) rfl (by decide) (by omega)) ?_
                refine xi_iload_n (pc' := 37) (x := a6) kc_23_36 rfl rfl ?_
                refine xi_bipush (pc' := 39) (v := 100) kc_23_37 rfl rfl ?_
                refine xi_cmf (pc' := 42) kc_23_39 rfl (xc_le_f (X := a6.toInt) (Y := 100) rfl (by decide) (by omega)) ?_
                refine xi_aload_n (pc' := 43) (x := 115) kc_23_42 rfl rfl ?_
                refine xi_bipush (pc' := 45) (v := (-6)) kc_23_43 rfl rfl ?_
                refine xi_virtual (mj := 12) (as := [.int (-6)]) (st1 := []) (lv0 := [(0, .ref 115), (1, .int (-6))]) kc_23_45 rfl rfl rfl rfl rfl eh633.1 (Nat.le_of_ble_eq_true rfl) (hJ _ _ _ _ (by decide)) (xm_le ml_12 rfl) rfl ?_
                refine xi_aload_n (pc' := 1) (x := 115) kc_12_0 rfl rfl ?_
                refine xi_getfield (pc' := 4) (v := .ref 140) kc_12_1 rfl rfl rfl eh633.1 rfl ?_
                refine xi_iload_n (pc' := 5) (x := (-6)) kc_12_4 rfl rfl ?_
                refine xi_ineg (pc' := 6) (v := 6) kc_12_5 rfl rfl ?_
                refine xi_dup2 (pc' := 7) kc_12_6 rfl ⟨rfl, rfl⟩ ?_
                obtain ⟨y637, A637, hy637, ry637⟩ := xk_arr K.1 xD_140
                obtain ⟨v638, ev638, bv638, dv638⟩ := xj_get hy637 ry637 (i := 6) (by decide) (by decide)
                have A639 := ((eh633.2.1 140 (by decide)).trans ((eh615.2.1 140 (by decide)).trans A637))
                refine xi_iaload (pc' := 8) (v := v638) kc_12_7 rfl A639 (by decide) rfl (xi_in (by decide) (by rw [hy637]; decide)) ev638 ?_
                refine xi_iconst (pc' := 9) (v := 1) kc_12_8 rfl rfl ?_
                obtain ⟨v640, ev640⟩ : ∃ q : Int32, (v638 : Int32) + 1 = q := ⟨_, rfl⟩
                have rv640 := xc_rng v640
                refine xi_iadd (pc' := 10) (v := v640) kc_12_9 rfl ev640 ?_
                obtain ⟨y641, s641, hy641, ry641⟩ := xj_set (v := v640) hy637 ry637 6 (by first | omega | decide) (by first | omega | decide)
                refine xi_iastore (pc' := 11) (x' := y641) kc_12_10 rfl A639 rfl (xi_in (by decide) (by rw [hy637]; decide)) s641 (fun hh641 eh641 => ?_)
                have K642 := xk_pa K635 (xk_wa (by decide +kernel)) xD_140 hy641 ry641 eh641
                have KR643 := xk_pa KR636 (xk_wa (by decide +kernel)) xD_140 hy641 ry641 eh641
                refine xi_iload_n (pc' := 12) (x := (-6)) kc_12_11 rfl rfl ?_
                refine xi_ireturn kc_12_12 mr_12 rfl ?_
                show xw J ov 99 23 (48, [(0, .ref 115), (1, .int a2), (2, .int a4), (3, .int a6), (4, .int 1)], [.int (-6)], hh641) _
                refine xi_ireturn kc_23_48 mr_23 rfl ?_
                show xw J ov 100 195 (474, [(4, .int x4), (3, .ref 167), (2, .ref 115), (1, .ref 0), (0, .ref 1000000)], [.int (-6)], hh641) _
                refine xi_pop (pc' := 475) kc_195_474 rfl rfl ?_
                refine xi_goto (pc' := 1501) kc_195_475 rfl ?_
                obtain ⟨v644, ev644⟩ : ∃ q : Int32, x4 + 6 = q := ⟨_, rfl⟩
                have zv644 : v644.toInt = (x4.toInt + 6) := by rw [← ev644]; exact (xz_add (X := x4.toInt) (Y := 6) rfl (by decide) (by omega) (by omega)).trans (by omega)
                refine xi_iinc (pc' := 1504) (x := x4) (v := v644) (lv' := [(4, .int v644), (3, .ref 167), (2, .ref 115), (1, .ref 0), (0, .ref 1000000)]) kc_195_1501 rfl rfl ev644 rfl (xm_lt ml_195 rfl) ?_
                refine xi_goto (pc' := 23) kc_195_1504 rfl ?_
                exact kk v644 hh641 (by omega) K642 (xI_kept I KR643.2.1)
            · refine xi_iff (pc' := 24) kc_103_21 rfl (xc_ge_f (X := a6.toInt) (Y := 0) rfl (by decide) (by omega)) ?_
              refine xi_aload_n (pc' := 25) (x := 0) kc_103_24 rfl rfl ?_
              refine xi_bipush (pc' := 27) (v := (-4)) kc_103_25 rfl rfl ?_
              refine xi_virtual (mj := 90) (as := [.int (-4)]) (st1 := []) (lv0 := [(0, .ref 0), (1, .int (-4))]) kc_103_27 rfl rfl rfl rfl rfl A346 (Nat.le_of_ble_eq_true rfl) (hJ _ _ _ _ (by decide)) (xm_le ml_90 rfl) rfl ?_
              refine xi_iload_n (pc' := 1) (x := (-4)) kc_90_0 rfl rfl ?_
              refine xi_ineg (pc' := 2) (v := 4) kc_90_1 rfl rfl ?_
              refine xi_istore_n (pc' := 3) (lv' := [(2, .int 4), (0, .ref 0), (1, .int (-4))]) kc_90_2 rfl rfl (xm_lt ml_90 rfl) ?_
              refine xi_iload_n (pc' := 4) (x := 4) kc_90_3 rfl rfl ?_
              refine xi_iff (pc' := 7) kc_90_4 rfl rfl ?_
              refine xi_iload_n (pc' := 8) (x := 4) kc_90_7 rfl rfl ?_
              refine xi_aload_n (pc' := 9) (x := 0) kc_90_8 rfl rfl ?_
              refine xi_getfield (pc' := 12) (v := .ref 94) kc_90_9 rfl rfl rfl A346 rfl ?_
              obtain ⟨y645, A645, hy645, ry645⟩ := xk_arr K.1 xD_94
              refine xi_arraylength (pc' := 13) (n := 7) (v := 7) kc_90_12 rfl (xl_lenI (by decide) (by decide) A645 hy645) rfl ?_
              refine xi_cmf (pc' := 16) kc_90_13 rfl rfl ?_
              refine xi_aload_n (pc' := 17) (x := 0) kc_90_16 rfl rfl ?_
              refine xi_getfield (pc' := 20) (v := .ref 94) kc_90_17 rfl rfl rfl A346 rfl ?_
              refine xi_iload_n (pc' := 21) (x := 4) kc_90_20 rfl rfl ?_
              refine xi_dup2 (pc' := 22) kc_90_21 rfl ⟨rfl, rfl⟩ ?_
              obtain ⟨v646, ev646, bv646, dv646⟩ := xj_get hy645 ry645 (i := 4) (by decide) (by decide)
              refine xi_iaload (pc' := 23) (v := v646) kc_90_22 rfl A645 (by decide) rfl (xi_in (by decide) (by rw [hy645]; decide)) ev646 ?_
              refine xi_iconst (pc' := 24) (v := 1) kc_90_23 rfl rfl ?_
              obtain ⟨v647, ev647⟩ : ∃ q : Int32, (v646 : Int32) + 1 = q := ⟨_, rfl⟩
              have rv647 := xc_rng v647
              refine xi_iadd (pc' := 25) (v := v647) kc_90_24 rfl ev647 ?_
              obtain ⟨y648, s648, hy648, ry648⟩ := xj_set (v := v647) hy645 ry645 4 (by first | omega | decide) (by first | omega | decide)
              refine xi_iastore (pc' := 26) (x' := y648) kc_90_25 rfl A645 rfl (xi_in (by decide) (by rw [hy645]; decide)) s648 (fun hh648 eh648 => ?_)
              have K649 := xk_pa K (xk_wa (by decide +kernel)) xD_94 hy648 ry648 eh648
              have KR650 := xk_pa KR (xk_wa (by decide +kernel)) xD_94 hy648 ry648 eh648
              refine xi_iload_n (pc' := 27) (x := (-4)) kc_90_26 rfl rfl ?_
              refine xi_ireturn kc_90_27 mr_90 rfl ?_
              show xw J ov 99 103 (30, [(0, .ref 0), (1, .int a2), (2, .int a4), (3, .int a6), (4, .int 1)], [.int (-4)], hh648) _
              refine xi_ireturn kc_103_30 mr_103 rfl ?_
              show xw J ov 100 195 (437, [(4, .int x4), (3, .ref 167), (2, .ref 115), (1, .ref 0), (0, .ref 1000000)], [.int (-4)], hh648) _
              refine xi_pop (pc' := 438) kc_195_437 rfl rfl ?_
              refine xi_aload_n (pc' := 439) (x := 115) kc_195_438 rfl rfl ?_
              refine xi_aload_n (pc' := 440) (x := 1000000) kc_195_439 rfl rfl ?_
              refine xi_iload (pc' := 442) (x := x4) kc_195_440 rfl rfl ?_
              refine xi_iconst (pc' := 443) (v := 1) kc_195_442 rfl rfl ?_
              refine xi_iadd (pc' := 444) (v := v1) kc_195_443 rfl ev1 ?_
              refine xi_ialoadO (pc' := 445) (v := a2) kc_195_444 rfl (by decide) hov0 (xi_in (by omega) (by omega)) ea2 ?_
              refine xi_aload_n (pc' := 446) (x := 1000000) kc_195_445 rfl rfl ?_
              refine xi_iload (pc' := 448) (x := x4) kc_195_446 rfl rfl ?_
              refine xi_iconst (pc' := 449) (v := 2) kc_195_448 rfl rfl ?_
              refine xi_iadd (pc' := 450) (v := v3) kc_195_449 rfl ev3 ?_
              refine xi_ialoadO (pc' := 451) (v := a4) kc_195_450 rfl (by decide) hov0 (xi_in (by omega) (by omega)) ea4 ?_
              refine xi_aload_n (pc' := 452) (x := 1000000) kc_195_451 rfl rfl ?_
              refine xi_iload (pc' := 454) (x := x4) kc_195_452 rfl rfl ?_
              refine xi_iconst (pc' := 455) (v := 3) kc_195_454 rfl rfl ?_
              refine xi_iadd (pc' := 456) (v := v5) kc_195_455 rfl ev5 ?_
              refine xi_ialoadO (pc' := 457) (v := a6) kc_195_456 rfl (by decide) hov0 (xi_in (by omega) (by omega)) ea6 ?_
              refine xi_aload_n (pc' := 458) (x := 1000000) kc_195_457 rfl rfl ?_
              refine xi_iload (pc' := 460) (x := x4) kc_195_458 rfl rfl ?_
              refine xi_iconst (pc' := 461) (v := 4) kc_195_460 rfl rfl ?_
              refine xi_iadd (pc' := 462) (v := v7) kc_195_461 rfl ev7 ?_
              refine xi_ialoadO (pc' := 463) (v := a8) kc_195_462 rfl (by decide) hov0 (xi_in (by omega) (by omega)) ea8 ?_
              refine xi_iff (pc' := 466) kc_195_463 rfl (xc_eq_f (X := a8.toInt) (Y := 0) rfl (by decide) (by omega)) ?_
              refine xi_iconst (pc' := 467) (v := 1) kc_195_466 rfl rfl ?_
              refine xi_goto (pc' := 471) kc_195_467 rfl ?_
              obtain ⟨u651, u652, u653, u654, u655, u656, u657, u658, u659, u660, u661, u662, u663, bu651, bu652, bu653, bu654, bu655, bu656, bu657, bu658, bu659, bu660, bu661, bu662, bu663, A664⟩ := xq_115 K.1
              have A665 := ((eh648.2.1 115 (by decide)).trans A664)
              refine xi_virtual (mj := 23) (as := [.int a2, .int a4, .int a6, .int 1]) (st1 := []) (lv0 := [(0, .ref 115), (1, .int a2), (2, .int a4), (3, .int a6), (4, .int 1)]) kc_195_471 rfl rfl rfl rfl rfl A665 (Nat.le_of_ble_eq_true rfl) (hJ _ _ _ _ (by decide)) (xm_le ml_23 rfl) rfl ?_
              refine xi_aload_n (pc' := 1) (x := 115) kc_23_0 rfl rfl ?_
              refine xi_iconst (pc' := 2) (v := 0) kc_23_1 rfl rfl ?_
              refine xi_putfield (pc' := 5) (fs' := [.int 0, .int u652, .ref 116, .ref 117, .ref 118, .ref 119, .ref 120, .ref 121, .ref 122, .ref 123, .ref 124, .ref 125, .ref 126, .ref 127, .ref 128, .ref 129, .int u653, .ref 130, .int u654, .ref 131, .ref 132, .ref 133, .ref 134, .int u655, .ref 135, .ref 136, .ref 137, .ref 138, .ref 139, .ref 140, .ref 141, .ref 142, .int u656, .int u657, .int u658, .ref 143, .ref 144, .ref 145, .ref 146, .ref 147, .ref 148, .int u659, .ref 149, .ref 150, .ref 151, .int u660, .ref 152, .ref 153, .ref 154, .ref 155, .ref 156, .ref 157, .ref 158, .ref 159, .int u661, .ref 160, .int u662, .ref 161, .ref 162, .ref 163, .ref 164, .int u663, .ref 165, .ref 166]) kc_23_2 rfl rfl rfl A665 rfl rfl rfl (Nat.le_of_ble_eq_true rfl) rfl (fun hh667 eh666 => ?_)
              have K668 := xk_pf (k := 0) (v := 0) K649 (xk_wf (by decide +kernel)) xD_115 A665 rfl (by first | omega | decide) (by first | omega | decide) eh666 rfl
              have KR669 := xk_pf (k := 0) (v := 0) KR650 (xk_wf (by decide +kernel)) xD_115 A665 rfl (by first | omega | decide) (by first | omega | decide) eh666 rfl
              refine xi_iload_n (pc' := 6) (x := a2) kc_23_5 rfl rfl ?_
              refine xi_static (mj := 24) (as := [.int a2]) (st1 := []) (lv0 := [(0, .int a2)]) kc_23_6 rfl rfl (Nat.le_of_ble_eq_true rfl) rfl rfl (Nat.le_of_ble_eq_true rfl) (hJ _ _ _ _ (by decide)) (xm_le ml_24 rfl) rfl ?_
              refine xi_iload_n (pc' := 1) (x := a2) kc_24_0 rfl rfl ?_
              refine xi_iconst (pc' := 2) (v := 0) kc_24_1 rfl rfl ?_
              refine xi_bipush (pc' := 4) (v := 11) kc_24_2 rfl rfl ?_
              refine xi_static (mj := 11) (as := [.int a2, .int 0, .int 11]) (st1 := []) (lv0 := [(0, .int a2), (1, .int 0), (2, .int 11)]) kc_24_4 rfl rfl (Nat.le_of_ble_eq_true rfl) rfl rfl (Nat.le_of_ble_eq_true rfl) (hJ _ _ _ _ (by decide)) (xm_le ml_11 rfl) rfl ?_
              refine xi_iload_n (pc' := 1) (x := a2) kc_11_0 rfl rfl ?_
              refine xi_iload_n (pc' := 2) (x := 0) kc_11_1 rfl rfl ?_
              refine xi_cmf (pc' := 5) kc_11_2 rfl (xc_lt_f (X := a2.toInt) (Y := 0) rfl (by decide) (by omega)) ?_
              refine xi_iload_n (pc' := 6) (x := a2) kc_11_5 rfl rfl ?_
              refine xi_iload_n (pc' := 7) (x := 11) kc_11_6 rfl rfl ?_
              refine xi_cmf (pc' := 10) kc_11_7 rfl (xc_gt_f (X := a2.toInt) (Y := 11) rfl (by decide) (by omega)) ?_
              refine xi_iconst (pc' := 11) (v := 1) kc_11_10 rfl rfl ?_
              refine xi_goto (pc' := 15) kc_11_11 rfl ?_
              refine xi_ireturn kc_11_15 mr_11 rfl ?_
              show xw J ov 98 24 (7, [(0, .int a2)], [.int 1], hh667) _
              refine xi_ireturn kc_24_7 mr_24 rfl ?_
              show xw J ov 99 23 (9, [(0, .ref 115), (1, .int a2), (2, .int a4), (3, .int a6), (4, .int 1)], [.int 1], hh667) _
              refine xi_iff (pc' := 12) kc_23_9 rfl rfl ?_
              refine xi_iload_n (pc' := 13) (x := a4) kc_23_12 rfl rfl ?_
              refine xi_static (mj := 10) (as := [.int a4]) (st1 := []) (lv0 := [(0, .int a4)]) kc_23_13 rfl rfl (Nat.le_of_ble_eq_true rfl) rfl rfl (Nat.le_of_ble_eq_true rfl) (hJ _ _ _ _ (by decide)) (xm_le ml_10 rfl) rfl ?_
              refine xi_iload_n (pc' := 1) (x := a4) kc_10_0 rfl rfl ?_
              refine xi_iconst (pc' := 2) (v := 0) kc_10_1 rfl rfl ?_
              refine xi_iconst (pc' := 3) (v := 5) kc_10_2 rfl rfl ?_
              refine xi_static (mj := 11) (as := [.int a4, .int 0, .int 5]) (st1 := []) (lv0 := [(0, .int a4), (1, .int 0), (2, .int 5)]) kc_10_3 rfl rfl (Nat.le_of_ble_eq_true rfl) rfl rfl (Nat.le_of_ble_eq_true rfl) (hJ _ _ _ _ (by decide)) (xm_le ml_11 rfl) rfl ?_
              refine xi_iload_n (pc' := 1) (x := a4) kc_11_0 rfl rfl ?_
              refine xi_iload_n (pc' := 2) (x := 0) kc_11_1 rfl rfl ?_
              refine xi_cmf (pc' := 5) kc_11_2 rfl (xc_lt_f (X := a4.toInt) (Y := 0) rfl (by decide) (by omega)) ?_
              refine xi_iload_n (pc' := 6) (x := a4) kc_11_5 rfl rfl ?_
              refine xi_iload_n (pc' := 7) (x := 5) kc_11_6 rfl rfl ?_
              refine xi_cmf (pc' := 10) kc_11_7 rfl (xc_gt_f (X := a4.toInt) (Y := 5) rfl (by decide) (by omega)) ?_
              refine xi_iconst (pc' := 11) (v := 1) kc_11_10 rfl rfl ?_
              refine xi_goto (pc' := 15) kc_11_11 rfl ?_
              refine xi_ireturn kc_11_15 mr_11 rfl ?_
              show xw J ov 98 10 (6, [(0, .int a4)], [.int 1], hh667) _
              refine xi_ireturn kc_10_6 mr_10 rfl ?_
              show xw J ov 99 23 (16, [(0, .ref 115), (1, .int a2), (2, .int a4), (3, .int a6), (4, .int 1)], [.int 1], hh667) _
              refine xi_ift (pc' := 25) kc_23_16 rfl rfl ?_
              refine xi_iload_n (pc' := 26) (x := a6) kc_23_25 rfl rfl ?_
              refine xi_iff (pc' := 29) kc_23_26 rfl (xc_ge_f (X := a6.toInt) (Y := 0) rfl (by decide) (by omega)) ?_
              refine xi_aload_n (pc' := 30) (x := 115) kc_23_29 rfl rfl ?_
              refine xi_bipush (pc' := 32) (v := (-4)) kc_23_30 rfl rfl ?_
              refine xi_virtual (mj := 12) (as := [.int (-4)]) (st1 := []) (lv0 := [(0, .ref 115), (1, .int (-4))]) kc_23_32 rfl rfl rfl rfl rfl eh666.1 (Nat.le_of_ble_eq_true rfl) (hJ _ _ _ _ (by decide)) (xm_le ml_12 rfl) rfl ?_
              refine xi_aload_n (pc' := 1) (x := 115) kc_12_0 rfl rfl ?_
              refine xi_getfield (pc' := 4) (v := .ref 140) kc_12_1 rfl rfl rfl eh666.1 rfl ?_
              refine xi_iload_n (pc' := 5) (x := (-4)) kc_12_4 rfl rfl ?_
              refine xi_ineg (pc' := 6) (v := 4) kc_12_5 rfl rfl ?_
              refine xi_dup2 (pc' := 7) kc_12_6 rfl ⟨rfl, rfl⟩ ?_
              obtain ⟨y670, A670, hy670, ry670⟩ := xk_arr K.1 xD_140
              obtain ⟨v671, ev671, bv671, dv671⟩ := xj_get hy670 ry670 (i := 4) (by decide) (by decide)
              have A672 := ((eh666.2.1 140 (by decide)).trans ((eh648.2.1 140 (by decide)).trans A670))
              refine xi_iaload (pc' := 8) (v := v671) kc_12_7 rfl A672 (by decide) rfl (xi_in (by decide) (by rw [hy670]; decide)) ev671 ?_
              refine xi_iconst (pc' := 9) (v := 1) kc_12_8 rfl rfl ?_
              obtain ⟨v673, ev673⟩ : ∃ q : Int32, (v671 : Int32) + 1 = q := ⟨_, rfl⟩
              have rv673 := xc_rng v673
              refine xi_iadd (pc' := 10) (v := v673) kc_12_9 rfl ev673 ?_
              obtain ⟨y674, s674, hy674, ry674⟩ := xj_set (v := v673) hy670 ry670 4 (by first | omega | decide) (by first | omega | decide)
              refine xi_iastore (pc' := 11) (x' := y674) kc_12_10 rfl A672 rfl (xi_in (by decide) (by rw [hy670]; decide)) s674 (fun hh674 eh674 => ?_)
              have K675 := xk_pa K668 (xk_wa (by decide +kernel)) xD_140 hy674 ry674 eh674
              have KR676 := xk_pa KR669 (xk_wa (by decide +kernel)) xD_140 hy674 ry674 eh674
              refine xi_iload_n (pc' := 12) (x := (-4)) kc_12_11 rfl rfl ?_
              refine xi_ireturn kc_12_12 mr_12 rfl ?_
              show xw J ov 99 23 (35, [(0, .ref 115), (1, .int a2), (2, .int a4), (3, .int a6), (4, .int 1)], [.int (-4)], hh674) _
              refine xi_ireturn kc_23_35 mr_23 rfl ?_
              show xw J ov 100 195 (474, [(4, .int x4), (3, .ref 167), (2, .ref 115), (1, .ref 0), (0, .ref 1000000)], [.int (-4)], hh674) _
              refine xi_pop (pc' := 475) kc_195_474 rfl rfl ?_
              refine xi_goto (pc' := 1501) kc_195_475 rfl ?_
              obtain ⟨v677, ev677⟩ : ∃ q : Int32, x4 + 6 = q := ⟨_, rfl⟩
              have zv677 : v677.toInt = (x4.toInt + 6) := by rw [← ev677]; exact (xz_add (X := x4.toInt) (Y := 6) rfl (by decide) (by omega) (by omega)).trans (by omega)
              refine xi_iinc (pc' := 1504) (x := x4) (v := v677) (lv' := [(4, .int v677), (3, .ref 167), (2, .ref 115), (1, .ref 0), (0, .ref 1000000)]) kc_195_1501 rfl rfl ev677 rfl (xm_lt ml_195 rfl) ?_
              refine xi_goto (pc' := 23) kc_195_1504 rfl ?_
              exact kk v677 hh674 (by omega) K675 (xI_kept I KR676.2.1)
