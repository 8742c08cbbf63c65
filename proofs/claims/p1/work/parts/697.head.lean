theorem lh_0 {J : xe_J} {ov : List (List Int32)} {xl : List Int32} (hov0 : ov[0]? = some xl) (hk : xl.length = 0) {h0 : xe_H} (hn0 : h0.length ≤ 600002) (hz0 : xe_sz h0 ≤ 7302232) : xw J ov 100 196 (23, [(4, .int 0), (3, .ref 167), (2, .ref 115), (1, .ref 0), (0, .ref 1000000)], [], h0) xf_Q := by
  refine xi_iload (pc' := 25) (x := 0) kc_196_23 rfl rfl ?_
  refine xi_aload_n (pc' := 26) (x := 1000000) kc_196_25 rfl rfl ?_
  refine xi_arraylength (pc' := 27) (n := 0) (v := 0) kc_196_26 rfl (xl_lenO (by decide) hov0 hk) rfl ?_
  refine xi_bipush (pc' := 29) (v := 6) kc_196_27 rfl rfl ?_
  refine xi_isub (pc' := 30) (v := (-6)) kc_196_29 rfl rfl ?_
  refine xi_cmt (pc' := 1534) kc_196_30 rfl rfl ?_
  refine xi_iconst (pc' := 1535) (v := 1) kc_196_1534 rfl rfl ?_
  refine xi_ireturn kc_196_1535 mr_196 rfl ?_
  refine ⟨rfl, ?_, ?_⟩
  · exact hn0
  · exact hz0
theorem lh_1 {J : xe_J} {ov : List (List Int32)} {xl : List Int32} (hov0 : ov[0]? = some xl) (hk : xl.length = 1) {h0 : xe_H} (hn0 : h0.length ≤ 600002) (hz0 : xe_sz h0 ≤ 7302232) : xw J ov 100 196 (23, [(4, .int 0), (3, .ref 167), (2, .ref 115), (1, .ref 0), (0, .ref 1000000)], [], h0) xf_Q := by
  refine xi_iload (pc' := 25) (x := 0) kc_196_23 rfl rfl ?_
  refine xi_aload_n (pc' := 26) (x := 1000000) kc_196_25 rfl rfl ?_
  refine xi_arraylength (pc' := 27) (n := 1) (v := 1) kc_196_26 rfl (xl_lenO (by decide) hov0 hk) rfl ?_
  refine xi_bipush (pc' := 29) (v := 6) kc_196_27 rfl rfl ?_
  refine xi_isub (pc' := 30) (v := (-5)) kc_196_29 rfl rfl ?_
  refine xi_cmt (pc' := 1534) kc_196_30 rfl rfl ?_
  refine xi_iconst (pc' := 1535) (v := 1) kc_196_1534 rfl rfl ?_
  refine xi_ireturn kc_196_1535 mr_196 rfl ?_
  refine ⟨rfl, ?_, ?_⟩
  · exact hn0
  · exact hz0
theorem lh_2 {J : xe_J} {ov : List (List Int32)} {xl : List Int32} (hov0 : ov[0]? = some xl) (hk : xl.length = 2) {h0 : xe_H} (hn0 : h0.length ≤ 600002) (hz0 : xe_sz h0 ≤ 7302232) : xw J ov 100 196 (23, [(4, .int 0), (3, .ref 167), (2, .ref 115), (1, .ref 0), (0, .ref 1000000)], [], h0) xf_Q := by
  refine xi_iload (pc' := 25) (x := 0) kc_196_23 rfl rfl ?_
  refine xi_aload_n (pc' := 26) (x := 1000000) kc_196_25 rfl rfl ?_
  refine xi_arraylength (pc' := 27) (n := 2) (v := 2) kc_196_26 rfl (xl_lenO (by decide) hov0 hk) rfl ?_
  refine xi_bipush (pc' := 29) (v := 6) kc_196_27 rfl rfl ?_
  refine xi_isub (pc' := 30) (v := (-4)) kc_196_29 rfl rfl ?_
  refine xi_cmt (pc' := 1534) kc_196_30 rfl rfl ?_
  refine xi_iconst (pc' := 1535) (v := 1) kc_196_1534 rfl rfl ?_
  refine xi_ireturn kc_196_1535 mr_196 rfl ?_
  refine ⟨rfl, ?_, ?_⟩
  · exact hn0
  · exact hz0
theorem lh_3 {J : xe_J} {ov : List (List Int32)} {xl : List Int32} (hov0 : ov[0]? = some xl) (hk : xl.length = 3) {h0 : xe_H} (hn0 : h0.length ≤ 600002) (hz0 : xe_sz h0 ≤ 7302232) : xw J ov 100 196 (23, [(4, .int 0), (3, .ref 167), (2, .ref 115), (1, .ref 0), (0, .ref 1000000)], [], h0) xf_Q := by
  refine xi_iload (pc' := 25) (x := 0) kc_196_23 rfl rfl ?_
  refine xi_aload_n (pc' := 26) (x := 1000000) kc_196_25 rfl rfl ?_
  refine xi_arraylength (pc' := 27) (n := 3) (v := 3) kc_196_26 rfl (xl_lenO (by decide) hov0 hk) rfl ?_
  refine xi_bipush (pc' := 29) (v := 6) kc_196_27 rfl rfl ?_
  refine xi_isub (pc' := 30) (v := (-3)) kc_196_29 rfl rfl ?_
  refine xi_cmt (pc' := 1534) kc_196_30 rfl rfl ?_
  refine xi_iconst (pc' := 1535) (v := 1) kc_196_1534 rfl rfl ?_
  refine xi_ireturn kc_196_1535 mr_196 rfl ?_
  refine ⟨rfl, ?_, ?_⟩
  · exact hn0
  · exact hz0
theorem lh_4 {J : xe_J} {ov : List (List Int32)} {xl : List Int32} (hov0 : ov[0]? = some xl) (hk : xl.length = 4) {h0 : xe_H} (hn0 : h0.length ≤ 600002) (hz0 : xe_sz h0 ≤ 7302232) : xw J ov 100 196 (23, [(4, .int 0), (3, .ref 167), (2, .ref 115), (1, .ref 0), (0, .ref 1000000)], [], h0) xf_Q := by
  refine xi_iload (pc' := 25) (x := 0) kc_196_23 rfl rfl ?_
  refine xi_aload_n (pc' := 26) (x := 1000000) kc_196_25 rfl rfl ?_
  refine xi_arraylength (pc' := 27) (n := 4) (v := 4) kc_196_26 rfl (xl_lenO (by decide) hov0 hk) rfl ?_
  refine xi_bipush (pc' := 29) (v := 6) kc_196_27 rfl rfl ?_
  refine xi_isub (pc' := 30) (v := (-2)) kc_196_29 rfl rfl ?_
  refine xi_cmt (pc' := 1534) kc_196_30 rfl rfl ?_
  refine xi_iconst (pc' := 1535) (v := 1) kc_196_1534 rfl rfl ?_
  refine xi_ireturn kc_196_1535 mr_196 rfl ?_
  refine ⟨rfl, ?_, ?_⟩
  · exact hn0
  · exact hz0
theorem lh_5 {J : xe_J} {ov : List (List Int32)} {xl : List Int32} (hov0 : ov[0]? = some xl) (hk : xl.length = 5) {h0 : xe_H} (hn0 : h0.length ≤ 600002) (hz0 : xe_sz h0 ≤ 7302232) : xw J ov 100 196 (23, [(4, .int 0), (3, .ref 167), (2, .ref 115), (1, .ref 0), (0, .ref 1000000)], [], h0) xf_Q := by
  refine xi_iload (pc' := 25) (x := 0) kc_196_23 rfl rfl ?_
  refine xi_aload_n (pc' := 26) (x := 1000000) kc_196_25 rfl rfl ?_
  refine xi_arraylength (pc' := 27) (n := 5) (v := 5) kc_196_26 rfl (xl_lenO (by decide) hov0 hk) rfl ?_
  refine xi_bipush (pc' := 29) (v := 6) kc_196_27 rfl rfl ?_
  refine xi_isub (pc' := 30) (v := (-1)) kc_196_29 rfl rfl ?_
  refine xi_cmt (pc' := 1534) kc_196_30 rfl rfl ?_
  refine xi_iconst (pc' := 1535) (v := 1) kc_196_1534 rfl rfl ?_
  refine xi_ireturn kc_196_1535 mr_196 rfl ?_
  refine ⟨rfl, ?_, ?_⟩
  · exact hn0
  · exact hz0
set_option maxHeartbeats 8000000 in
set_option maxRecDepth 20000 in
theorem lh_6 {J : xe_J} {ov : List (List Int32)} (hJ : ∀ d mj as h, mj ≠ xe_loff → J d mj as h = none) {a0 a1 a2 a3 a4 a5 : Int32} (hov0 : ov[0]? = some [a0, a1, a2, a3, a4, a5]) (hov1 : ov[1]? = some [10, 0, 0, 0, 0, 0]) (hov2 : ov[2]? = some [99, 30, 50, 50, 1, 99999]) {h0 : xe_H} (F : xf_fr h0) (hn0 : h0.length + 1 ≤ 600002) (hz0 : xe_sz h0 + 6 ≤ 7302232) (j0 : ∃ h' : xe_H, J 99 195 [.ref 0, .int 0, .ref 167] h0 = some (some (.int 0), h') ∧ (∀ (k : Nat) (x : xe_E), 115 ≤ k → k ≠ 167 → hL[k]? = some x → h'[k]? = some x) ∧ h'[167]? = some (.inl (1, .inr (.inl [0]))) ∧ h'.length = h0.length ∧ xe_sz h' = xe_sz h0) (j1 : ∀ v : Int32, v.toInt ≠ 0 → ∃ h' : xe_H, J 99 195 [.ref 0, .int v, .ref 167] h0 = some (some (.int 1), h') ∧ (∀ (k : Nat) (x : xe_E), 115 ≤ k → k ≠ 167 → hL[k]? = some x → h'[k]? = some x) ∧ h'.length = h0.length + 1 ∧ xe_sz h' = xe_sz h0 + 6) : xw J ov 100 196 (23, [(4, .int 0), (3, .ref 167), (2, .ref 115), (1, .ref 0), (0, .ref 1000000)], [], h0) xf_Q := by
  refine xi_iload (pc' := 25) (x := 0) kc_196_23 rfl rfl ?_
  refine xi_aload_n (pc' := 26) (x := 1000000) kc_196_25 rfl rfl ?_
  refine xi_arraylength (pc' := 27) (n := 6) (v := 6) kc_196_26 rfl (xl_lenO (by decide) hov0 rfl) rfl ?_
  refine xi_bipush (pc' := 29) (v := 6) kc_196_27 rfl rfl ?_
  refine xi_isub (pc' := 30) (v := 0) kc_196_29 rfl rfl ?_
  refine xi_cmf (pc' := 33) kc_196_30 rfl rfl ?_
  refine xi_aload_n (pc' := 34) (x := 1000000) kc_196_33 rfl rfl ?_
  refine xi_iload (pc' := 36) (x := 0) kc_196_34 rfl rfl ?_
  refine xi_ialoadO (pc' := 37) (v := a0) kc_196_36 rfl (by decide) hov0 (xi_in (n := 6) (by decide) (by decide)) rfl ?_
  refine xi_bipush (pc' := 39) (v := 63) kc_196_37 rfl rfl ?_
  obtain ⟨v1, ev1⟩ : ∃ q : Int32, a0 &&& 63 = q := ⟨_, rfl⟩
  have rv1 := xc_rng v1
  refine xi_iand (pc' := 40) (v := v1) kc_196_39 rfl ev1 ?_
  by_cases c2 : v1.toInt = 0
  · refine xi_tsi (pc' := 192) (z := 0) kc_196_40 (by omega) rfl (by decide) ?_
    exact lc_0 hJ hov0 hov1 hov2 F (by omega) (by omega)
  by_cases c3 : v1.toInt = 1
  · refine xi_tsi (pc' := 241) (z := 1) kc_196_40 (by omega) rfl (by decide) ?_
    exact lc_1 hJ hov0 hov1 hov2 F (by omega) (by omega)
  by_cases c4 : v1.toInt = 2
  · refine xi_tsi (pc' := 290) (z := 2) kc_196_40 (by omega) rfl (by decide) ?_
    exact lc_2 hJ hov0 hov1 hov2 F (by omega) (by omega)
  by_cases c5 : v1.toInt = 3
  · refine xi_tsi (pc' := 339) (z := 3) kc_196_40 (by omega) rfl (by decide) ?_
    exact lc_3 hJ hov0 hov1 hov2 F (by omega) (by omega)
  by_cases c6 : v1.toInt = 4
  · refine xi_tsi (pc' := 376) (z := 4) kc_196_40 (by omega) rfl (by decide) ?_
    exact lc_4 hJ hov0 hov1 hov2 F (by omega) (by omega)
  by_cases c7 : v1.toInt = 5
  · refine xi_tsi (pc' := 401) (z := 5) kc_196_40 (by omega) rfl (by decide) ?_
    exact lc_5 hJ hov0 hov1 hov2 F (by omega) (by omega)
  by_cases c8 : v1.toInt = 6
  · refine xi_tsi (pc' := 478) (z := 6) kc_196_40 (by omega) rfl (by decide) ?_
    exact lc_6 hJ hov0 hov1 hov2 F (by omega) (by omega)
  by_cases c9 : v1.toInt = 7
  · refine xi_tsi (pc' := 515) (z := 7) kc_196_40 (by omega) rfl (by decide) ?_
    exact lc_7 hJ hov0 hov1 hov2 F (by omega) (by omega)
  by_cases c10 : v1.toInt = 8
  · refine xi_tsi (pc' := 540) (z := 8) kc_196_40 (by omega) rfl (by decide) ?_
    exact lc_8 hJ hov0 hov1 hov2 F (by omega) (by omega)
  by_cases c11 : v1.toInt = 9
  · refine xi_tsi (pc' := 565) (z := 9) kc_196_40 (by omega) rfl (by decide) ?_
    exact lc_9 hJ hov0 hov1 hov2 F (by omega) (by omega)
  by_cases c12 : v1.toInt = 10
  · refine xi_tsi (pc' := 590) (z := 10) kc_196_40 (by omega) rfl (by decide) ?_
    exact lc_10 hJ hov0 hov1 hov2 F (by omega) (by omega)
  by_cases c13 : v1.toInt = 11
  · refine xi_tsi (pc' := 651) (z := 11) kc_196_40 (by omega) rfl (by decide) ?_
    exact lc_11 hJ hov0 hov1 hov2 F (by omega) (by omega)
  by_cases c14 : v1.toInt = 12
  · refine xi_tsi (pc' := 712) (z := 12) kc_196_40 (by omega) rfl (by decide) ?_
    exact lc_12 hJ hov0 hov1 hov2 F (by omega) (by omega)
  by_cases c15 : v1.toInt = 13
  · refine xi_tsi (pc' := 765) (z := 13) kc_196_40 (by omega) rfl (by decide) ?_
    exact lc_13 hJ hov0 hov1 hov2 F (by omega) (by omega)
  by_cases c16 : v1.toInt = 14
  · refine xi_tsi (pc' := 790) (z := 14) kc_196_40 (by omega) rfl (by decide) ?_
    exact lc_14 hJ hov0 hov1 hov2 F (by omega) (by omega) j0 j1
  by_cases c17 : v1.toInt = 15
  · refine xi_tsi (pc' := 845) (z := 15) kc_196_40 (by omega) rfl (by decide) ?_
    exact lc_15 hJ hov0 hov1 hov2 F (by omega) (by omega)
  by_cases c18 : v1.toInt = 16
  · refine xi_tsi (pc' := 882) (z := 16) kc_196_40 (by omega) rfl (by decide) ?_
    exact lc_16 hJ hov0 hov1 hov2 F (by omega) (by omega)
  by_cases c19 : v1.toInt = 17
  · refine xi_tsi (pc' := 895) (z := 17) kc_196_40 (by omega) rfl (by decide) ?_
    exact lc_17 hJ hov0 hov1 hov2 F (by omega) (by omega)
  by_cases c20 : v1.toInt = 18
  · refine xi_tsi (pc' := 920) (z := 18) kc_196_40 (by omega) rfl (by decide) ?_
    exact lc_18 hJ hov0 hov1 hov2 F (by omega) (by omega)
  by_cases c21 : v1.toInt = 19
  · refine xi_tsi (pc' := 933) (z := 19) kc_196_40 (by omega) rfl (by decide) ?_
    exact lc_19 hJ hov0 hov1 hov2 F (by omega) (by omega)
  by_cases c22 : v1.toInt = 20
  · refine xi_tsi (pc' := 970) (z := 20) kc_196_40 (by omega) rfl (by decide) ?_
    exact lc_20 hJ hov0 hov1 hov2 F (by omega) (by omega)
  by_cases c23 : v1.toInt = 21
  · refine xi_tsi (pc' := 1023) (z := 21) kc_196_40 (by omega) rfl (by decide) ?_
    exact lc_21 hJ hov0 hov1 hov2 F (by omega) (by omega)
  by_cases c24 : v1.toInt = 22
  · refine xi_tsi (pc' := 1036) (z := 22) kc_196_40 (by omega) rfl (by decide) ?_
    exact lc_22 hJ hov0 hov1 hov2 F (by omega) (by omega)
  by_cases c25 : v1.toInt = 23
  · refine xi_tsi (pc' := 1049) (z := 23) kc_196_40 (by omega) rfl (by decide) ?_
    exact lc_23 hJ hov0 hov1 hov2 F (by omega) (by omega)
  by_cases c26 : v1.toInt = 24
  · refine xi_tsi (pc' := 1122) (z := 24) kc_196_40 (by omega) rfl (by decide) ?_
    exact lc_24 hJ hov0 hov1 hov2 F (by omega) (by omega)
  by_cases c27 : v1.toInt = 25
  · refine xi_tsi (pc' := 1159) (z := 25) kc_196_40 (by omega) rfl (by decide) ?_
    exact lc_25 hJ hov0 hov1 hov2 F (by omega) (by omega)
  by_cases c28 : v1.toInt = 26
  · refine xi_tsi (pc' := 1220) (z := 26) kc_196_40 (by omega) rfl (by decide) ?_
    exact lc_26 hJ hov0 hov1 hov2 F (by omega) (by omega)
  by_cases c29 : v1.toInt = 27
  · refine xi_tsi (pc' := 1233) (z := 27) kc_196_40 (by omega) rfl (by decide) ?_
    exact lc_27 hJ hov0 hov1 hov2 F (by omega) (by omega)
  by_cases c30 : v1.toInt = 28
  · refine xi_tsi (pc' := 1258) (z := 28) kc_196_40 (by omega) rfl (by decide) ?_
    exact lc_28 hJ hov0 hov1 hov2 F (by omega) (by omega)
  by_cases c31 : v1.toInt = 29
  · refine xi_tsi (pc' := 1319) (z := 29) kc_196_40 (by omega) rfl (by decide) ?_
    exact lc_29 hJ hov0 hov1 hov2 F (by omega) (by omega)
  by_cases c32 : v1.toInt = 30
  · refine xi_tsi (pc' := 1360) (z := 30) kc_196_40 (by omega) rfl (by decide) ?_
    exact lc_30 hJ hov0 hov1 hov2 F (by omega) (by omega)
  by_cases c33 : v1.toInt = 31
  · refine xi_tsi (pc' := 1441) (z := 31) kc_196_40 (by omega) rfl (by decide) ?_
    exact lc_31 hJ hov0 hov1 hov2 F (by omega) (by omega)
  by_cases c34 : v1.toInt = 32
  · refine xi_tsi (pc' := 1478) (z := 32) kc_196_40 (by omega) rfl (by decide) ?_
    exact lc_32 hJ hov0 hov1 hov2 F (by omega) (by omega)
  by_cases c35 : v1.toInt = 33
  · refine xi_tsi (pc' := 1503) (z := 33) kc_196_40 (by omega) rfl (by decide) ?_
    exact lc_33 hJ hov0 hov1 hov2 F (by omega) (by omega)
  refine xi_tsd (pc' := 1528) kc_196_40 rfl (by omega) ?_
  refine xi_iinc (pc' := 1531) (x := 0) (v := 6) (lv' := [(4, .int 6), (3, .ref 167), (2, .ref 115), (1, .ref 0), (0, .ref 1000000)]) kc_196_1528 rfl rfl rfl rfl (xm_lt ml_196 rfl) ?_
  refine xi_goto (pc' := 23) kc_196_1531 rfl ?_
  refine xi_iload (pc' := 25) (x := 6) kc_196_23 rfl rfl ?_
  refine xi_aload_n (pc' := 26) (x := 1000000) kc_196_25 rfl rfl ?_
  refine xi_arraylength (pc' := 27) (n := 6) (v := 6) kc_196_26 rfl (xl_lenO (by decide) hov0 rfl) rfl ?_
  refine xi_bipush (pc' := 29) (v := 6) kc_196_27 rfl rfl ?_
  refine xi_isub (pc' := 30) (v := 0) kc_196_29 rfl rfl ?_
  refine xi_cmt (pc' := 1534) kc_196_30 rfl rfl ?_
  refine xi_iconst (pc' := 1535) (v := 1) kc_196_1534 rfl rfl ?_
  refine xi_ireturn kc_196_1535 mr_196 rfl ?_
  refine ⟨rfl, ?_, ?_⟩
  · omega
  · omega
theorem lh_all (xl : List Int32) (hlen : xl.length ≤ 6) (ov : List (List Int32)) (hov0 : ov[0]? = some xl) (hov1 : ov[1]? = some [10, 0, 0, 0, 0, 0]) (hov2 : ov[2]? = some [99, 30, 50, 50, 1, 99999]) : ∃ (n : Nat) (h' : xe_H), xe_ex (xo_J ov) ov n 100 196 (0, [(0, .ref 1000000)], [], []) = some (some (.int 1), h') ∧ h'.length ≤ 600002 ∧ xe_sz h' ≤ 7302232 := by
  have hJ : ∀ d mj as h, mj ≠ xe_loff → xo_J ov d mj as h = none := fun d mj as h hne => xo_J_none (Or.inr hne)
  have hw : xw (xo_J ov) ov 100 196 (0, [(0, .ref 1000000)], [], []) xf_Q := by
    refine lw_first hJ (fun h0 F hl hz => ?_)
    have hn0 : h0.length ≤ 600002 := by rw [hl]; decide
    have hz0 : xe_sz h0 ≤ 7302232 := by rw [hz]; decide
    have hlt : h0.length < xe_o := by rw [hl]; decide
    match xl, hlen with
    | [], _ => exact lh_0 hov0 rfl hn0 hz0
    | [_], _ => exact lh_1 hov0 rfl hn0 hz0
    | [_, _], _ => exact lh_2 hov0 rfl hn0 hz0
    | [_, _, _], _ => exact lh_3 hov0 rfl hn0 hz0
    | [_, _, _, _], _ => exact lh_4 hov0 rfl hn0 hz0
    | [_, _, _, _, _], _ => exact lh_5 hov0 rfl hn0 hz0
    | [a0, a1, a2, a3, a4, a5], _ => exact lh_6 hJ hov0 hov1 hov2 F (by rw [hl]; decide) (by rw [hz]; decide) (xo_j0 F hlt) (xo_j1 F hlt)
    | _ :: _ :: _ :: _ :: _ :: _ :: _ :: r, h => exact absurd h (by simp only [List.length_cons]; omega)
  obtain ⟨n, r, h', hex, hr, h1, h2⟩ := hw
  subst hr
  exact ⟨n, h', hex, h1, h2⟩
