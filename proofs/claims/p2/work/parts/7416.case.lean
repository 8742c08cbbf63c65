set_option maxHeartbeats 8000000 in
theorem lc_0 {J : xe_J} {ov : List (List Int32)} (hJ : ∀ d mj as h, mj ≠ xe_loff → J d mj as h = none) (hov1 : ov[1]? = some [10, 0, 0, 0, 0, 0]) (hov2 : ov[2]? = some [99, 30, 50, 50, 1, 99999]) {xs : List Int32} (hov0 : ov[0]? = some xs) {Q : Option Value → xe_H → Prop} {h : xe_H} {x4 : Int32} (hi0 : 0 ≤ x4.toInt) (hi1 : x4.toInt + 6 ≤ xs.length) (hi2 : x4.toInt ≤ 3066) (T : xt h) (I : xI h) (kk : ∀ (i : Int32) (h' : xe_H), i.toInt = x4.toInt + 6 → xk xP_29 h h' → xI h' → xw J ov 100 195 (23, [(4, .int i), (3, .ref 167), (2, .ref 115), (1, .ref 0), (0, .ref 1000000)], [], h') Q) : xw J ov 100 195 (192, [(4, .int x4), (3, .ref 167), (2, .ref 115), (1, .ref 0), (0, .ref 1000000)], [], h) Q := by
  have K : xk xP_29 h h := xk_re T
  have KR : xk xP_27 h h := xk_re T
  obtain ⟨w, WWa, WWb, WWr⟩ := I.2.1
  obtain ⟨y1, A1, hy1, ry1⟩ := xk_arr K.1 xD_64
  have R2 : xrp y1 6 w := xra_ld WWa A1
  obtain ⟨st, I6, I5⟩ := I.2.2.1
  refine xi_aload_n (pc' := 193) (x := 0) kc_195_192 rfl rfl ?_
  refine xi_aload_n (pc' := 194) (x := 1000000) kc_195_193 rfl rfl ?_
  refine xi_iload (pc' := 196) (x := x4) kc_195_194 rfl rfl ?_
  refine xi_iconst (pc' := 197) (v := 1) kc_195_196 rfl rfl ?_
  obtain ⟨v3, ev3⟩ : ∃ q : Int32, x4 + 1 = q := ⟨_, rfl⟩
  have zv3 : v3.toInt = (x4.toInt + 1) := by rw [← ev3]; exact (xz_add (X := x4.toInt) (Y := 1) rfl (by decide) (by omega) (by omega)).trans (by omega)
  refine xi_iadd (pc' := 198) (v := v3) kc_195_197 rfl ev3 ?_
  obtain ⟨a4, ea4⟩ : ∃ q : Int32, xs.getD (Int32.toNatClampNeg v3) 0 = q := ⟨_, rfl⟩
  have ra4 := xc_rng a4
  refine xi_ialoadO (pc' := 199) (v := a4) kc_195_198 rfl (by decide) hov0 (xi_in (by omega) (by omega)) ea4 ?_
  refine xi_aload_n (pc' := 200) (x := 1000000) kc_195_199 rfl rfl ?_
  refine xi_iload (pc' := 202) (x := x4) kc_195_200 rfl rfl ?_
  refine xi_iconst (pc' := 203) (v := 2) kc_195_202 rfl rfl ?_
  obtain ⟨v5, ev5⟩ : ∃ q : Int32, x4 + 2 = q := ⟨_, rfl⟩
  have zv5 : v5.toInt = (x4.toInt + 2) := by rw [← ev5]; exact (xz_add (X := x4.toInt) (Y := 2) rfl (by decide) (by omega) (by omega)).trans (by omega)
  refine xi_iadd (pc' := 204) (v := v5) kc_195_203 rfl ev5 ?_
  obtain ⟨a6, ea6⟩ : ∃ q : Int32, xs.getD (Int32.toNatClampNeg v5) 0 = q := ⟨_, rfl⟩
  have ra6 := xc_rng a6
  refine xi_ialoadO (pc' := 205) (v := a6) kc_195_204 rfl (by decide) hov0 (xi_in (by omega) (by omega)) ea6 ?_
  refine xi_aload_n (pc' := 206) (x := 1000000) kc_195_205 rfl rfl ?_
  refine xi_iload (pc' := 208) (x := x4) kc_195_206 rfl rfl ?_
  refine xi_iconst (pc' := 209) (v := 3) kc_195_208 rfl rfl ?_
  obtain ⟨v7, ev7⟩ : ∃ q : Int32, x4 + 3 = q := ⟨_, rfl⟩
  have zv7 : v7.toInt = (x4.toInt + 3) := by rw [← ev7]; exact (xz_add (X := x4.toInt) (Y := 3) rfl (by decide) (by omega) (by omega)).trans (by omega)
  refine xi_iadd (pc' := 210) (v := v7) kc_195_209 rfl ev7 ?_
  obtain ⟨a8, ea8⟩ : ∃ q : Int32, xs.getD (Int32.toNatClampNeg v7) 0 = q := ⟨_, rfl⟩
  have ra8 := xc_rng a8
  refine xi_ialoadO (pc' := 211) (v := a8) kc_195_210 rfl (by decide) hov0 (xi_in (by omega) (by omega)) ea8 ?_
  obtain ⟨u9, u10, bu9, bu10, A11⟩ := xq_0 K.1
  refine xi_virtual (mj := 88) (as := [.int a4, .int a6, .int a8]) (st1 := []) (lv0 := [(0, .ref 0), (1, .int a4), (2, .int a6), (3, .int a8)]) kc_195_211 rfl rfl rfl rfl rfl A11 (Nat.le_of_ble_eq_true rfl) (hJ _ _ _ _ (by decide)) (xm_le ml_88 rfl) rfl ?_
  refine xi_iload_n (pc' := 1) (x := a4) kc_88_0 rfl rfl ?_
  refine xi_static (mj := 89) (as := [.int a4]) (st1 := []) (lv0 := [(0, .int a4)]) kc_88_1 rfl rfl (Nat.le_of_ble_eq_true rfl) rfl rfl (Nat.le_of_ble_eq_true rfl) (hJ _ _ _ _ (by decide)) (xm_le ml_89 rfl) rfl ?_
  refine xi_iload_n (pc' := 1) (x := a4) kc_89_0 rfl rfl ?_
  by_cases c12 : a4.toInt < 0
  · refine xi_ift (pc' := 14) kc_89_1 rfl (xc_lt_t (X := a4.toInt) (Y := 0) rfl (by decide) (by omega)) ?_
    refine xi_iconst (pc' := 15) (v := 0) kc_89_14 rfl rfl ?_
    refine xi_ireturn kc_89_15 mr_89 rfl ?_
    show xw J ov 99 88 (4, [(0, .ref 0), (1, .int a4), (2, .int a6), (3, .int a8)], [.int 0], h) _
    refine xi_iff (pc' := 7) kc_88_4 rfl rfl ?_
    refine xi_aload_n (pc' := 8) (x := 0) kc_88_7 rfl rfl ?_
    refine xi_iconst (pc' := 9) (v := (-1)) kc_88_8 rfl rfl ?_
    refine xi_virtual (mj := 90) (as := [.int (-1)]) (st1 := []) (lv0 := [(0, .ref 0), (1, .int (-1))]) kc_88_9 rfl rfl rfl rfl rfl A11 (Nat.le_of_ble_eq_true rfl) (hJ _ _ _ _ (by decide)) (xm_le ml_90 rfl) rfl ?_
    refine xi_iload_n (pc' := 1) (x := (-1)) kc_90_0 rfl rfl ?_
    refine xi_ineg (pc' := 2) (v := 1) kc_90_1 rfl rfl ?_
    refine xi_istore_n (pc' := 3) (lv' := [(2, .int 1), (0, .ref 0), (1, .int (-1))]) kc_90_2 rfl rfl (xm_lt ml_90 rfl) ?_
    refine xi_iload_n (pc' := 4) (x := 1) kc_90_3 rfl rfl ?_
    refine xi_iff (pc' := 7) kc_90_4 rfl rfl ?_
    refine xi_iload_n (pc' := 8) (x := 1) kc_90_7 rfl rfl ?_
    refine xi_aload_n (pc' := 9) (x := 0) kc_90_8 rfl rfl ?_
    refine xi_getfield (pc' := 12) (v := .ref 94) kc_90_9 rfl rfl rfl A11 rfl ?_
    obtain ⟨y13, A13, hy13, ry13⟩ := xk_arr K.1 xD_94
    refine xi_arraylength (pc' := 13) (n := 7) (v := 7) kc_90_12 rfl (xl_lenI (by decide) (by decide) A13 hy13) rfl ?_
    refine xi_cmf (pc' := 16) kc_90_13 rfl rfl ?_
    refine xi_aload_n (pc' := 17) (x := 0) kc_90_16 rfl rfl ?_
    refine xi_getfield (pc' := 20) (v := .ref 94) kc_90_17 rfl rfl rfl A11 rfl ?_
    refine xi_iload_n (pc' := 21) (x := 1) kc_90_20 rfl rfl ?_
    refine xi_dup2 (pc' := 22) kc_90_21 rfl ⟨rfl, rfl⟩ ?_
    obtain ⟨v14, ev14, bv14, dv14⟩ := xj_get hy13 ry13 (i := 1) (by decide) (by decide)
    refine xi_iaload (pc' := 23) (v := v14) kc_90_22 rfl A13 (by decide) rfl (xi_in (by decide) (by rw [hy13]; decide)) ev14 ?_
    refine xi_iconst (pc' := 24) (v := 1) kc_90_23 rfl rfl ?_
    obtain ⟨v15, ev15⟩ : ∃ q : Int32, (v14 : Int32) + 1 = q := ⟨_, rfl⟩
    have rv15 := xc_rng v15
    refine xi_iadd (pc' := 25) (v := v15) kc_90_24 rfl ev15 ?_
    obtain ⟨y16, s16, hy16, ry16⟩ := xj_set (v := v15) hy13 ry13 1 (by first | omega | decide) (by first | omega | decide)
    refine xi_iastore (pc' := 26) (x' := y16) kc_90_25 rfl A13 rfl (xi_in (by decide) (by rw [hy13]; decide)) s16 (fun hh16 eh16 => ?_)
    have K17 := xk_pa K (xk_wa (by decide +kernel)) xD_94 hy16 ry16 eh16
    have KR18 := xk_pa KR (xk_wa (by decide +kernel)) xD_94 hy16 ry16 eh16
    refine xi_iload_n (pc' := 27) (x := (-1)) kc_90_26 rfl rfl ?_
    refine xi_ireturn kc_90_27 mr_90 rfl ?_
    show xw J ov 99 88 (12, [(0, .ref 0), (1, .int a4), (2, .int a6), (3, .int a8)], [.int (-1)], hh16) _
    refine xi_ireturn kc_88_12 mr_88 rfl ?_
    show xw J ov 100 195 (214, [(4, .int x4), (3, .ref 167), (2, .ref 115), (1, .ref 0), (0, .ref 1000000)], [.int (-1)], hh16) _
    refine xi_aload_n (pc' := 215) (x := 115) kc_195_214 rfl rfl ?_
    refine xi_aload_n (pc' := 216) (x := 1000000) kc_195_215 rfl rfl ?_
    refine xi_iload (pc' := 218) (x := x4) kc_195_216 rfl rfl ?_
    refine xi_iconst (pc' := 219) (v := 1) kc_195_218 rfl rfl ?_
    refine xi_iadd (pc' := 220) (v := v3) kc_195_219 rfl ev3 ?_
    refine xi_ialoadO (pc' := 221) (v := a4) kc_195_220 rfl (by decide) hov0 (xi_in (by omega) (by omega)) ea4 ?_
    refine xi_aload_n (pc' := 222) (x := 1000000) kc_195_221 rfl rfl ?_
    refine xi_iload (pc' := 224) (x := x4) kc_195_222 rfl rfl ?_
    refine xi_iconst (pc' := 225) (v := 2) kc_195_224 rfl rfl ?_
    refine xi_iadd (pc' := 226) (v := v5) kc_195_225 rfl ev5 ?_
    refine xi_ialoadO (pc' := 227) (v := a6) kc_195_226 rfl (by decide) hov0 (xi_in (by omega) (by omega)) ea6 ?_
    refine xi_aload_n (pc' := 228) (x := 1000000) kc_195_227 rfl rfl ?_
    refine xi_iload (pc' := 230) (x := x4) kc_195_228 rfl rfl ?_
    refine xi_iconst (pc' := 231) (v := 3) kc_195_230 rfl rfl ?_
    refine xi_iadd (pc' := 232) (v := v7) kc_195_231 rfl ev7 ?_
    refine xi_ialoadO (pc' := 233) (v := a8) kc_195_232 rfl (by decide) hov0 (xi_in (by omega) (by omega)) ea8 ?_
    obtain ⟨u19, u20, u21, u22, u23, u24, u25, u26, u27, u28, u29, u30, u31, bu19, bu20, bu21, bu22, bu23, bu24, bu25, bu26, bu27, bu28, bu29, bu30, bu31, A32⟩ := xq_115 K.1
    have A33 := ((eh16.2.1 115 (by decide)).trans A32)
    refine xi_virtual (mj := 9) (as := [.int a4, .int a6, .int a8]) (st1 := [.int (-1)]) (lv0 := [(0, .ref 115), (1, .int a4), (2, .int a6), (3, .int a8)]) kc_195_233 rfl rfl rfl rfl rfl A33 (Nat.le_of_ble_eq_true rfl) (hJ _ _ _ _ (by decide)) (xm_le ml_9 rfl) rfl ?_
    refine xi_aload_n (pc' := 1) (x := 115) kc_9_0 rfl rfl ?_
    refine xi_iconst (pc' := 2) (v := 0) kc_9_1 rfl rfl ?_
    refine xi_putfield (pc' := 5) (fs' := [.int 0, .int u20, .ref 116, .ref 117, .ref 118, .ref 119, .ref 120, .ref 121, .ref 122, .ref 123, .ref 124, .ref 125, .ref 126, .ref 127, .ref 128, .ref 129, .int u21, .ref 130, .int u22, .ref 131, .ref 132, .ref 133, .ref 134, .int u23, .ref 135, .ref 136, .ref 137, .ref 138, .ref 139, .ref 140, .ref 141, .ref 142, .int u24, .int u25, .int u26, .ref 143, .ref 144, .ref 145, .ref 146, .ref 147, .ref 148, .int u27, .ref 149, .ref 150, .ref 151, .int u28, .ref 152, .ref 153, .ref 154, .ref 155, .ref 156, .ref 157, .ref 158, .ref 159, .int u29, .ref 160, .int u30, .ref 161, .ref 162, .ref 163, .ref 164, .int u31, .ref 165, .ref 166]) kc_9_2 rfl rfl rfl A33 rfl rfl rfl (Nat.le_of_ble_eq_true rfl) rfl (fun hh35 eh34 => ?_)
    have K36 := xk_pf (k := 0) (v := 0) K17 (xk_wf (by decide +kernel)) xD_115 A33 rfl (by first | omega | decide) (by first | omega | decide) eh34 rfl
    have KR37 := xk_pf (k := 0) (v := 0) KR18 (xk_wf (by decide +kernel)) xD_115 A33 rfl (by first | omega | decide) (by first | omega | decide) eh34 rfl
    refine xi_iload_n (pc' := 6) (x := a4) kc_9_5 rfl rfl ?_
    refine xi_static (mj := 10) (as := [.int a4]) (st1 := []) (lv0 := [(0, .int a4)]) kc_9_6 rfl rfl (Nat.le_of_ble_eq_true rfl) rfl rfl (Nat.le_of_ble_eq_true rfl) (hJ _ _ _ _ (by decide)) (xm_le ml_10 rfl) rfl ?_
    refine xi_iload_n (pc' := 1) (x := a4) kc_10_0 rfl rfl ?_
    refine xi_iconst (pc' := 2) (v := 0) kc_10_1 rfl rfl ?_
    refine xi_iconst (pc' := 3) (v := 5) kc_10_2 rfl rfl ?_
    refine xi_static (mj := 11) (as := [.int a4, .int 0, .int 5]) (st1 := []) (lv0 := [(0, .int a4), (1, .int 0), (2, .int 5)]) kc_10_3 rfl rfl (Nat.le_of_ble_eq_true rfl) rfl rfl (Nat.le_of_ble_eq_true rfl) (hJ _ _ _ _ (by decide)) (xm_le ml_11 rfl) rfl ?_
    refine xi_iload_n (pc' := 1) (x := a4) kc_11_0 rfl rfl ?_
    refine xi_iload_n (pc' := 2) (x := 0) kc_11_1 rfl rfl ?_
    refine xi_cmt (pc' := 14) kc_11_2 rfl (xc_lt_t (X := a4.toInt) (Y := 0) rfl (by decide) (by omega)) ?_
    refine xi_iconst (pc' := 15) (v := 0) kc_11_14 rfl rfl ?_
    refine xi_ireturn kc_11_15 mr_11 rfl ?_
    show xw J ov 98 10 (6, [(0, .int a4)], [.int 0], hh35) _
    refine xi_ireturn kc_10_6 mr_10 rfl ?_
    show xw J ov 99 9 (9, [(0, .ref 115), (1, .int a4), (2, .int a6), (3, .int a8)], [.int 0], hh35) _
    refine xi_iff (pc' := 12) kc_9_9 rfl rfl ?_
    refine xi_aload_n (pc' := 13) (x := 115) kc_9_12 rfl rfl ?_
    refine xi_iconst (pc' := 14) (v := (-1)) kc_9_13 rfl rfl ?_
    refine xi_virtual (mj := 12) (as := [.int (-1)]) (st1 := []) (lv0 := [(0, .ref 115), (1, .int (-1))]) kc_9_14 rfl rfl rfl rfl rfl eh34.1 (Nat.le_of_ble_eq_true rfl) (hJ _ _ _ _ (by decide)) (xm_le ml_12 rfl) rfl ?_
    refine xi_aload_n (pc' := 1) (x := 115) kc_12_0 rfl rfl ?_
    refine xi_getfield (pc' := 4) (v := .ref 140) kc_12_1 rfl rfl rfl eh34.1 rfl ?_
    refine xi_iload_n (pc' := 5) (x := (-1)) kc_12_4 rfl rfl ?_
    refine xi_ineg (pc' := 6) (v := 1) kc_12_5 rfl rfl ?_
    refine xi_dup2 (pc' := 7) kc_12_6 rfl ⟨rfl, rfl⟩ ?_
    obtain ⟨y38, A38, hy38, ry38⟩ := xk_arr K.1 xD_140
    obtain ⟨v39, ev39, bv39, dv39⟩ := xj_get hy38 ry38 (i := 1) (by decide) (by decide)
    have A40 := ((eh34.2.1 140 (by decide)).trans ((eh16.2.1 140 (by decide)).trans A38))
    refine xi_iaload (pc' := 8) (v := v39) kc_12_7 rfl A40 (by decide) rfl (xi_in (by decide) (by rw [hy38]; decide)) ev39 ?_
    refine xi_iconst (pc' := 9) (v := 1) kc_12_8 rfl rfl ?_
    obtain ⟨v41, ev41⟩ : ∃ q : Int32, (v39 : Int32) + 1 = q := ⟨_, rfl⟩
    have rv41 := xc_rng v41
    refine xi_iadd (pc' := 10) (v := v41) kc_12_9 rfl ev41 ?_
    obtain ⟨y42, s42, hy42, ry42⟩ := xj_set (v := v41) hy38 ry38 1 (by first | omega | decide) (by first | omega | decide)
    refine xi_iastore (pc' := 11) (x' := y42) kc_12_10 rfl A40 rfl (xi_in (by decide) (by rw [hy38]; decide)) s42 (fun hh42 eh42 => ?_)
    have K43 := xk_pa K36 (xk_wa (by decide +kernel)) xD_140 hy42 ry42 eh42
    have KR44 := xk_pa KR37 (xk_wa (by decide +kernel)) xD_140 hy42 ry42 eh42
    refine xi_iload_n (pc' := 12) (x := (-1)) kc_12_11 rfl rfl ?_
    refine xi_ireturn kc_12_12 mr_12 rfl ?_
    show xw J ov 99 9 (17, [(0, .ref 115), (1, .int a4), (2, .int a6), (3, .int a8)], [.int (-1)], hh42) _
    refine xi_ireturn kc_9_17 mr_9 rfl ?_
    show xw J ov 100 195 (236, [(4, .int x4), (3, .ref 167), (2, .ref 115), (1, .ref 0), (0, .ref 1000000)], [.int (-1), .int (-1)], hh42) _
    refine xi_cmt (pc' := 1501) kc_195_236 rfl rfl ?_
    obtain ⟨v45, ev45⟩ : ∃ q : Int32, x4 + 6 = q := ⟨_, rfl⟩
    have zv45 : v45.toInt = (x4.toInt + 6) := by rw [← ev45]; exact (xz_add (X := x4.toInt) (Y := 6) rfl (by decide) (by omega) (by omega)).trans (by omega)
    refine xi_iinc (pc' := 1504) (x := x4) (v := v45) (lv' := [(4, .int v45), (3, .ref 167), (2, .ref 115), (1, .ref 0), (0, .ref 1000000)]) kc_195_1501 rfl rfl ev45 rfl (xm_lt ml_195 rfl) ?_
    refine xi_goto (pc' := 23) kc_195_1504 rfl ?_
    exact kk v45 hh42 (by omega) K43 (xI_kept I KR44.2.1)
  · refine xi_iff (pc' := 4) kc_89_1 rfl (xc_lt_f (X := a4.toInt) (Y := 0) rfl (by decide) (by omega)) ?_
    refine xi_iload_n (pc' := 5) (x := a4) kc_89_4 rfl rfl ?_
    refine xi_bipush (pc' := 7) (v := 6) kc_89_5 rfl rfl ?_
    by_cases c46 : 6 ≤ a4.toInt
    · refine xi_cmt (pc' := 14) kc_89_7 rfl (xc_ge_t (X := a4.toInt) (Y := 6) rfl (by decide) (by omega)) ?_
      refine xi_iconst (pc' := 15) (v := 0) kc_89_14 rfl rfl ?_
      refine xi_ireturn kc_89_15 mr_89 rfl ?_
      show xw J ov 99 88 (4, [(0, .ref 0), (1, .int a4), (2, .int a6), (3, .int a8)], [.int 0], h) _
      refine xi_iff (pc' := 7) kc_88_4 rfl rfl ?_
      refine xi_aload_n (pc' := 8) (x := 0) kc_88_7 rfl rfl ?_
      refine xi_iconst (pc' := 9) (v := (-1)) kc_88_8 rfl rfl ?_
      refine xi_virtual (mj := 90) (as := [.int (-1)]) (st1 := []) (lv0 := [(0, .ref 0), (1, .int (-1))]) kc_88_9 rfl rfl rfl rfl rfl A11 (Nat.le_of_ble_eq_true rfl) (hJ _ _ _ _ (by decide)) (xm_le ml_90 rfl) rfl ?_
      refine xi_iload_n (pc' := 1) (x := (-1)) kc_90_0 rfl rfl ?_
      refine xi_ineg (pc' := 2) (v := 1) kc_90_1 rfl rfl ?_
      refine xi_istore_n (pc' := 3) (lv' := [(2, .int 1), (0, .ref 0), (1, .int (-1))]) kc_90_2 rfl rfl (xm_lt ml_90 rfl) ?_
      refine xi_iload_n (pc' := 4) (x := 1) kc_90_3 rfl rfl ?_
      refine xi_iff (pc' := 7) kc_90_4 rfl rfl ?_
      refine xi_iload_n (pc' := 8) (x := 1) kc_90_7 rfl rfl ?_
      refine xi_aload_n (pc' := 9) (x := 0) kc_90_8 rfl rfl ?_
      refine xi_getfield (pc' := 12) (v := .ref 94) kc_90_9 rfl rfl rfl A11 rfl ?_
      obtain ⟨y47, A47, hy47, ry47⟩ := xk_arr K.1 xD_94
      refine xi_arraylength (pc' := 13) (n := 7) (v := 7) kc_90_12 rfl (xl_lenI (by decide) (by decide) A47 hy47) rfl ?_
      refine xi_cmf (pc' := 16) kc_90_13 rfl rfl ?_
      refine xi_aload_n (pc' := 17) (x := 0) kc_90_16 rfl rfl ?_
      refine xi_getfield (pc' := 20) (v := .ref 94) kc_90_17 rfl rfl rfl A11 rfl ?_
      refine xi_iload_n (pc' := 21) (x := 1) kc_90_20 rfl rfl ?_
      refine xi_dup2 (pc' := 22) kc_90_21 rfl ⟨rfl, rfl⟩ ?_
      obtain ⟨v48, ev48, bv48, dv48⟩ := xj_get hy47 ry47 (i := 1) (by decide) (by decide)
      refine xi_iaload (pc' := 23) (v := v48) kc_90_22 rfl A47 (by decide) rfl (xi_in (by decide) (by rw [hy47]; decide)) ev48 ?_
      refine xi_iconst (pc' := 24) (v := 1) kc_90_23 rfl rfl ?_
      obtain ⟨v49, ev49⟩ : ∃ q : Int32, (v48 : Int32) + 1 = q := ⟨_, rfl⟩
      have rv49 := xc_rng v49
      refine xi_iadd (pc' := 25) (v := v49) kc_90_24 rfl ev49 ?_
      obtain ⟨y50, s50, hy50, ry50⟩ := xj_set (v := v49) hy47 ry47 1 (by first | omega | decide) (by first | omega | decide)
      refine xi_iastore (pc' := 26) (x' := y50) kc_90_25 rfl A47 rfl (xi_in (by decide) (by rw [hy47]; decide)) s50 (fun hh50 eh50 => ?_)
      have K51 := xk_pa K (xk_wa (by decide +kernel)) xD_94 hy50 ry50 eh50
      have KR52 := xk_pa KR (xk_wa (by decide +kernel)) xD_94 hy50 ry50 eh50
      refine xi_iload_n (pc' := 27) (x := (-1)) kc_90_26 rfl rfl ?_
      refine xi_ireturn kc_90_27 mr_90 rfl ?_
      show xw J ov 99 88 (12, [(0, .ref 0), (1, .int a4), (2, .int a6), (3, .int a8)], [.int (-1)], hh50) _
      refine xi_ireturn kc_88_12 mr_88 rfl ?_
      show xw J ov 100 195 (214, [(4, .int x4), (3, .ref 167), (2, .ref 115), (1, .ref 0), (0, .ref 1000000)], [.int (-1)], hh50) _
      refine xi_aload_n (pc' := 215) (x := 115) kc_195_214 rfl rfl ?_
      refine xi_aload_n (pc' := 216) (x := 1000000) kc_195_215 rfl rfl ?_
      refine xi_iload (pc' := 218) (x := x4) kc_195_216 rfl rfl ?_
      refine xi_iconst (pc' := 219) (v := 1) kc_195_218 rfl rfl ?_
      refine xi_iadd (pc' := 220) (v := v3) kc_195_219 rfl ev3 ?_
      refine xi_ialoadO (pc' := 221) (v := a4) kc_195_220 rfl (by decide) hov0 (xi_in (by omega) (by omega)) ea4 ?_
      refine xi_aload_n (pc' := 222) (x := 1000000) kc_195_221 rfl rfl ?_
      refine xi_iload (pc' := 224) (x := x4) kc_195_222 rfl rfl ?_
      refine xi_iconst (pc' := 225) (v := 2) kc_195_224 rfl rfl ?_
      refine xi_iadd (pc' := 226) (v := v5) kc_195_225 rfl ev5 ?_
      refine xi_ialoadO (pc' := 227) (v := a6) kc_195_226 rfl (by decide) hov0 (xi_in (by omega) (by omega)) ea6 ?_
      refine xi_aload_n (pc' := 228) (x := 1000000) kc_195_227 rfl rfl ?_
      refine xi_iload (pc' := 230) (x := x4) kc_195_228 rfl rfl ?_
      refine xi_iconst (pc' := 231) (v := 3) kc_195_230 rfl rfl ?_
      refine xi_iadd (pc' := 232) (v := v7) kc_195_231 rfl ev7 ?_
      refine xi_ialoadO (pc' := 233) (v := a8) kc_195_232 rfl (by decide) hov0 (xi_in (by omega) (by omega)) ea8 ?_
      obtain ⟨u53, u54, u55, u56, u57, u58, u59, u60, u61, u62, u63, u64, u65, bu53, bu54, bu55, bu56, bu57, bu58, bu59, bu60, bu61, bu62, bu63, bu64, bu65, A66⟩ := xq_115 K.1
      have A67 := ((eh50.2.1 115 (by decide)).trans A66)
      refine xi_virtual (mj := 9) (as := [.int a4, .int a6, .int a8]) (st1 := [.int (-1)]) (lv0 := [(0, .ref 115), (1, .int a4), (2, .int a6), (3, .int a8)]) kc_195_233 rfl rfl rfl rfl rfl A67 (Nat.le_of_ble_eq_true rfl) (hJ _ _ _ _ (by decide)) (xm_le ml_9 rfl) rfl ?_
      refine xi_aload_n (pc' := 1) (x := 115) kc_9_0 rfl rfl ?_
      refine xi_iconst (pc' := 2) (v := 0) kc_9_1 rfl rfl ?_
      refine xi_putfield (pc' := 5) (fs' := [.int 0, .int u54, .ref 116, .ref 117, .ref 118, .ref 119, .ref 120, .ref 121, .ref 122, .ref 123, .ref 124, .ref 125, .ref 126, .ref 127, .ref 128, .ref 129, .int u55, .ref 130, .int u56, .ref 131, .ref 132, .ref 133, .ref 134, .int u57, .ref 135, .ref 136, .ref 137, .ref 138, .ref 139, .ref 140, .ref 141, .ref 142, .int u58, .int u59, .int u60, .ref 143, .ref 144, .ref 145, .ref 146, .ref 147, .ref 148, .int u61, .ref 149, .ref 150, .ref 151, .int u62, .ref 152, .ref 153, .ref 154, .ref 155, .ref 156, .ref 157, .ref 158, .ref 159, .int u63, .ref 160, .int u64, .ref 161, .ref 162, .ref 163, .ref 164, .int u65, .ref 165, .ref 166]) kc_9_2 rfl rfl rfl A67 rfl rfl rfl (Nat.le_of_ble_eq_true rfl) rfl (fun hh69 eh68 => ?_)
      have K70 := xk_pf (k := 0) (v := 0) K51 (xk_wf (by decide +kernel)) xD_115 A67 rfl (by first | omega | decide) (by first | omega | decide) eh68 rfl
      have KR71 := xk_pf (k := 0) (v := 0) KR52 (xk_wf (by decide +kernel)) xD_115 A67 rfl (by first | omega | decide) (by first | omega | decide) eh68 rfl
      refine xi_iload_n (pc' := 6) (x := a4) kc_9_5 rfl rfl ?_
      refine xi_static (mj := 10) (as := [.int a4]) (st1 := []) (lv0 := [(0, .int a4)]) kc_9_6 rfl rfl (Nat.le_of_ble_eq_true rfl) rfl rfl (Nat.le_of_ble_eq_true rfl) (hJ _ _ _ _ (by decide)) (xm_le ml_10 rfl) rfl ?_
      refine xi_iload_n (pc' := 1) (x := a4) kc_10_0 rfl rfl ?_
      refine xi_iconst (pc' := 2) (v := 0) kc_10_1 rfl rfl ?_
      refine xi_iconst (pc' := 3) (v := 5) kc_10_2 rfl rfl ?_
      refine xi_static (mj := 11) (as := [.int a4, .int 0, .int 5]) (st1 := []) (lv0 := [(0, .int a4), (1, .int 0), (2, .int 5)]) kc_10_3 rfl rfl (Nat.le_of_ble_eq_true rfl) rfl rfl (Nat.le_of_ble_eq_true rfl) (hJ _ _ _ _ (by decide)) (xm_le ml_11 rfl) rfl ?_
      refine xi_iload_n (pc' := 1) (x := a4) kc_11_0 rfl rfl ?_
      refine xi_iload_n (pc' := 2) (x := 0) kc_11_1 rfl rfl ?_
      refine xi_cmf (pc' := 5) kc_11_2 rfl (xc_lt_f (X := a4.toInt) (Y := 0) rfl (by decide) (by omega)) ?_
      refine xi_iload_n (pc' := 6) (x := a4) kc_11_5 rfl rfl ?_
      refine xi_iload_n (pc' := 7) (x := 5) kc_11_6 rfl rfl ?_
      refine xi_cmt (pc' := 14) kc_11_7 rfl (xc_gt_t (X := a4.toInt) (Y := 5) rfl (by decide) (by omega)) ?_
      refine xi_iconst (pc' := 15) (v := 0) kc_11_14 rfl rfl ?_
      refine xi_ireturn kc_11_15 mr_11 rfl ?_
      show xw J ov 98 10 (6, [(0, .int a4)], [.int 0], hh69) _
      refine xi_ireturn kc_10_6 mr_10 rfl ?_
      show xw J ov 99 9 (9, [(0, .ref 115), (1, .int a4), (2, .int a6), (3, .int a8)], [.int 0], hh69) _
      refine xi_iff (pc' := 12) kc_9_9 rfl rfl ?_
      refine xi_aload_n (pc' := 13) (x := 115) kc_9_12 rfl rfl ?_
      refine xi_iconst (pc' := 14) (v := (-1)) kc_9_13 rfl rfl ?_
      refine xi_virtual (mj := 12) (as := [.int (-1)]) (st1 := []) (lv0 := [(0, .ref 115), (1, .int (-1))]) kc_9_14 rfl rfl rfl rfl rfl eh68.1 (Nat.le_of_ble_eq_true rfl) (hJ _ _ _ _ (by decide)) (xm_le ml_12 rfl) rfl ?_
      refine xi_aload_n (pc' := 1) (x := 115) kc_12_0 rfl rfl ?_
      refine xi_getfield (pc' := 4) (v := .ref 140) kc_12_1 rfl rfl rfl eh68.1 rfl ?_
      refine xi_iload_n (pc' := 5) (x := (-1)) kc_12_4 rfl rfl ?_
      refine xi_ineg (pc' := 6) (v := 1) kc_12_5 rfl rfl ?_
      refine xi_dup2 (pc' := 7) kc_12_6 rfl ⟨rfl, rfl⟩ ?_
      obtain ⟨y72, A72, hy72, ry72⟩ := xk_arr K.1 xD_140
      obtain ⟨v73, ev73, bv73, dv73⟩ := xj_get hy72 ry72 (i := 1) (by decide) (by decide)
      have A74 := ((eh68.2.1 140 (by decide)).trans ((eh50.2.1 140 (by decide)).trans A72))
      refine xi_iaload (pc' := 8) (v := v73) kc_12_7 rfl A74 (by decide) rfl (xi_in (by decide) (by rw [hy72]; decide)) ev73 ?_
      refine xi_iconst (pc' := 9) (v := 1) kc_12_8 rfl rfl ?_
      obtain ⟨v75, ev75⟩ : ∃ q : Int32, (v73 : Int32) + 1 = q := ⟨_, rfl⟩
      have rv75 := xc_rng v75
      refine xi_iadd (pc' := 10) (v := v75) kc_12_9 rfl ev75 ?_
      obtain ⟨y76, s76, hy76, ry76⟩ := xj_set (v := v75) hy72 ry72 1 (by first | omega | decide) (by first | omega | decide)
      refine xi_iastore (pc' := 11) (x' := y76) kc_12_10 rfl A74 rfl (xi_in (by decide) (by rw [hy72]; decide)) s76 (fun hh76 eh76 => ?_)
      have K77 := xk_pa K70 (xk_wa (by decide +kernel)) xD_140 hy76 ry76 eh76
      have KR78 := xk_pa KR71 (xk_wa (by decide +kernel)) xD_140 hy76 ry76 eh76
      refine xi_iload_n (pc' := 12) (x := (-1)) kc_12_11 rfl rfl ?_
      refine xi_ireturn kc_12_12 mr_12 rfl ?_
      show xw J ov 99 9 (17, [(0, .ref 115), (1, .int a4), (2, .int a6), (3, .int a8)], [.int (-1)], hh76) _
      refine xi_ireturn kc_9_17 mr_9 rfl ?_
      show xw J ov 100 195 (236, [(4, .int x4), (3, .ref 167), (2, .ref 115), (1, .ref 0), (0, .ref 1000000)], [.int (-1), .int (-1)], hh76) _
      refine xi_cmt (pc' := 1501) kc_195_236 rfl rfl ?_
      obtain ⟨v79, ev79⟩ : ∃ q : Int32, x4 + 6 = q := ⟨_, rfl⟩
      have zv79 : v79.toInt = (x4.toInt + 6) := by rw [← ev79]; exact (xz_add (X := x4.toInt) (Y := 6) rfl (by decide) (by omega) (by omega)).trans (by omega)
      refine xi_iinc (pc' := 1504) (x := x4) (v := v79) (lv' := [(4, .int v79), (3, .ref 167), (2, .ref 115), (1, .ref 0), (0, .ref 1000000)]) kc_195_1501 rfl rfl ev79 rfl (xm_lt ml_195 rfl) ?_
      refine xi_goto (pc' := 23) kc_195_1504 rfl ?_
      exact kk v79 hh76 (by omega) K77 (xI_kept I KR78.2.1)
    · refine xi_cmf (pc' := 10) kc_89_7 rfl (xc_ge_f (X := a4.toInt) (Y := 6) rfl (by decide) (by omega)) ?_
      refine xi_iconst (pc' := 11) (v := 1) kc_89_10 rfl rfl ?_
      refine xi_goto (pc' := 15) kc_89_11 rfl ?_
      refine xi_ireturn kc_89_15 mr_89 rfl ?_
      show xw J ov 99 88 (4, [(0, .ref 0), (1, .int a4), (2, .int a6), (3, .int a8)], [.int 1], h) _
      refine xi_ift (pc' := 13) kc_88_4 rfl rfl ?_
      refine xi_iload_n (pc' := 14) (x := a6) kc_88_13 rfl rfl ?_
      by_cases c80 : a6.toInt < 0
      · refine xi_ift (pc' := 22) kc_88_14 rfl (xc_lt_t (X := a6.toInt) (Y := 0) rfl (by decide) (by omega)) ?_
        refine xi_aload_n (pc' := 23) (x := 0) kc_88_22 rfl rfl ?_
        refine xi_bipush (pc' := 25) (v := (-2)) kc_88_23 rfl rfl ?_
        refine xi_virtual (mj := 90) (as := [.int (-2)]) (st1 := []) (lv0 := [(0, .ref 0), (1, .int (-2))]) kc_88_25 rfl rfl rfl rfl rfl A11 (Nat.le_of_ble_eq_true rfl) (hJ _ _ _ _ (by decide)) (xm_le ml_90 rfl) rfl ?_
        refine xi_iload_n (pc' := 1) (x := (-2)) kc_90_0 rfl rfl ?_
        refine xi_ineg (pc' := 2) (v := 2) kc_90_1 rfl rfl ?_
        refine xi_istore_n (pc' := 3) (lv' := [(2, .int 2), (0, .ref 0), (1, .int (-2))]) kc_90_2 rfl rfl (xm_lt ml_90 rfl) ?_
        refine xi_iload_n (pc' := 4) (x := 2) kc_90_3 rfl rfl ?_
        refine xi_iff (pc' := 7) kc_90_4 rfl rfl ?_
        refine xi_iload_n (pc' := 8) (x := 2) kc_90_7 rfl rfl ?_
        refine xi_aload_n (pc' := 9) (x := 0) kc_90_8 rfl rfl ?_
        refine xi_getfield (pc' := 12) (v := .ref 94) kc_90_9 rfl rfl rfl A11 rfl ?_
        obtain ⟨y81, A81, hy81, ry81⟩ := xk_arr K.1 xD_94
        refine xi_arraylength (pc' := 13) (n := 7) (v := 7) kc_90_12 rfl (xl_lenI (by decide) (by decide) A81 hy81) rfl ?_
        refine xi_cmf (pc' := 16) kc_90_13 rfl rfl ?_
        refine xi_aload_n (pc' := 17) (x := 0) kc_90_16 rfl rfl ?_
        refine xi_getfield (pc' := 20) (v := .ref 94) kc_90_17 rfl rfl rfl A11 rfl ?_
        refine xi_iload_n (pc' := 21) (x := 2) kc_90_20 rfl rfl ?_
        refine xi_dup2 (pc' := 22) kc_90_21 rfl ⟨rfl, rfl⟩ ?_
        obtain ⟨v82, ev82, bv82, dv82⟩ := xj_get hy81 ry81 (i := 2) (by decide) (by decide)
        refine xi_iaload (pc' := 23) (v := v82) kc_90_22 rfl A81 (by decide) rfl (xi_in (by decide) (by rw [hy81]; decide)) ev82 ?_
        refine xi_iconst (pc' := 24) (v := 1) kc_90_23 rfl rfl ?_
        obtain ⟨v83, ev83⟩ : ∃ q : Int32, (v82 : Int32) + 1 = q := ⟨_, rfl⟩
        have rv83 := xc_rng v83
        refine xi_iadd (pc' := 25) (v := v83) kc_90_24 rfl ev83 ?_
        obtain ⟨y84, s84, hy84, ry84⟩ := xj_set (v := v83) hy81 ry81 2 (by first | omega | decide) (by first | omega | decide)
        refine xi_iastore (pc' := 26) (x' := y84) kc_90_25 rfl A81 rfl (xi_in (by decide) (by rw [hy81]; decide)) s84 (fun hh84 eh84 => ?_)
        have K85 := xk_pa K (xk_wa (by decide +kernel)) xD_94 hy84 ry84 eh84
        have KR86 := xk_pa KR (xk_wa (by decide +kernel)) xD_94 hy84 ry84 eh84
        refine xi_iload_n (pc' := 27) (x := (-2)) kc_90_26 rfl rfl ?_
        refine xi_ireturn kc_90_27 mr_90 rfl ?_
        show xw J ov 99 88 (28, [(0, .ref 0), (1, .int a4), (2, .int a6), (3, .int a8)], [.int (-2)], hh84) _
        refine xi_ireturn kc_88_28 mr_88 rfl ?_
        show xw J ov 100 195 (214, [(4, .int x4), (3, .ref 167), (2, .ref 115), (1, .ref 0), (0, .ref 1000000)], [.int (-2)], hh84) _
        refine xi_aload_n (pc' := 215) (x := 115) kc_195_214 rfl rfl ?_
        refine xi_aload_n (pc' := 216) (x := 1000000) kc_195_215 rfl rfl ?_
        refine xi_iload (pc' := 218) (x := x4) kc_195_216 rfl rfl ?_
        refine xi_iconst (pc' := 219) (v := 1) kc_195_218 rfl rfl ?_
        refine xi_iadd (pc' := 220) (v := v3) kc_195_219 rfl ev3 ?_
        refine xi_ialoadO (pc' := 221) (v := a4) kc_195_220 rfl (by decide) hov0 (xi_in (by omega) (by omega)) ea4 ?_
        refine xi_aload_n (pc' := 222) (x := 1000000) kc_195_221 rfl rfl ?_
        refine xi_iload (pc' := 224) (x := x4) kc_195_222 rfl rfl ?_
        refine xi_iconst (pc' := 225) (v := 2) kc_195_224 rfl rfl ?_
        refine xi_iadd (pc' := 226) (v := v5) kc_195_225 rfl ev5 ?_
        refine xi_ialoadO (pc' := 227) (v := a6) kc_195_226 rfl (by decide) hov0 (xi_in (by omega) (by omega)) ea6 ?_
        refine xi_aload_n (pc' := 228) (x := 1000000) kc_195_227 rfl rfl ?_
        refine xi_iload (pc' := 230) (x := x4) kc_195_228 rfl rfl ?_
        refine xi_iconst (pc' := 231) (v := 3) kc_195_230 rfl rfl ?_
        refine xi_iadd (pc' := 232) (v := v7) kc_195_231 rfl ev7 ?_
        refine xi_ialoadO (pc' := 233) (v := a8) kc_195_232 rfl (by decide) hov0 (xi_in (by omega) (by omega)) ea8 ?_
        obtain ⟨u87, u88, u89, u90, u91, u92, u93, u94, u95, u96, u97, u98, u99, bu87, bu88, bu89, bu90, bu91, bu92, bu93, bu94, bu95, bu96, bu97, bu98, bu99, A100⟩ := xq_115 K.1
        have A101 := ((eh84.2.1 115 (by decide)).trans A100)
        refine xi_virtual (mj := 9) (as := [.int a4, .int a6, .int a8]) (st1 := [.int (-2)]) (lv0 := [(0, .ref 115), (1, .int a4), (2, .int a6), (3, .int a8)]) kc_195_233 rfl rfl rfl rfl rfl A101 (Nat.le_of_ble_eq_true rfl) (hJ _ _ _ _ (by decide)) (xm_le ml_9 rfl) rfl ?_
        refine xi_aload_n (pc' := 1) (x := 115) kc_9_0 rfl rfl ?_
        refine xi_iconst (pc' := 2) (v := 0) kc_9_1 rfl rfl ?_
        refine xi_putfield (pc' := 5) (fs' := [.int 0, .int u88, .ref 116, .ref 117, .ref 118, .ref 119, .ref 120, .ref 121, .ref 122, .ref 123, .ref 124, .ref 125, .ref 126, .ref 127, .ref 128, .ref 129, .int u89, .ref 130, .int u90, .ref 131, .ref 132, .ref 133, .ref 134, .int u91, .ref 135, .ref 136, .ref 137, .ref 138, .ref 139, .ref 140, .ref 141, .ref 142, .int u92, .int u93, .int u94, .ref 143, .ref 144, .ref 145, .ref 146, .ref 147, .ref 148, .int u95, .ref 149, .ref 150, .ref 151, .int u96, .ref 152, .ref 153, .ref 154, .ref 155, .ref 156, .ref 157, .ref 158, .ref 159, .int u97, .ref 160, .int u98, .ref 161, .ref 162, .ref 163, .ref 164, .int u99, .ref 165, .ref 166]) kc_9_2 rfl rfl rfl A101 rfl rfl rfl (Nat.le_of_ble_eq_true rfl) rfl (fun hh103 eh102 => ?_)
        have K104 := xk_pf (k := 0) (v := 0) K85 (xk_wf (by decide +kernel)) xD_115 A101 rfl (by first | omega | decide) (by first | omega | decide) eh102 rfl
        have KR105 := xk_pf (k := 0) (v := 0) KR86 (xk_wf (by decide +kernel)) xD_115 A101 rfl (by first | omega | decide) (by first | omega | decide) eh102 rfl
        refine xi_iload_n (pc' := 6) (x := a4) kc_9_5 rfl rfl ?_
        refine xi_static (mj := 10) (as := [.int a4]) (st1 := []) (lv0 := [(0, .int a4)]) kc_9_6 rfl rfl (Nat.le_of_ble_eq_true rfl) rfl rfl (Nat.le_of_ble_eq_true rfl) (hJ _ _ _ _ (by decide)) (xm_le ml_10 rfl) rfl ?_
        refine xi_iload_n (pc' := 1) (x := a4) kc_10_0 rfl rfl ?_
        refine xi_iconst (pc' := 2) (v := 0) kc_10_1 rfl rfl ?_
        refine xi_iconst (pc' := 3) (v := 5) kc_10_2 rfl rfl ?_
        refine xi_static (mj := 11) (as := [.int a4, .int 0, .int 5]) (st1 := []) (lv0 := [(0, .int a4), (1, .int 0), (2, .int 5)]) kc_10_3 rfl rfl (Nat.le_of_ble_eq_true rfl) rfl rfl (Nat.le_of_ble_eq_true rfl) (hJ _ _ _ _ (by decide)) (xm_le ml_11 rfl) rfl ?_
        refine xi_iload_n (pc' := 1) (x := a4) kc_11_0 rfl rfl ?_
        refine xi_iload_n (pc' := 2) (x := 0) kc_11_1 rfl rfl ?_
        refine xi_cmf (pc' := 5) kc_11_2 rfl (xc_lt_f (X := a4.toInt) (Y := 0) rfl (by decide) (by omega)) ?_
        refine xi_iload_n (pc' := 6) (x := a4) kc_11_5 rfl rfl ?_
        refine xi_iload_n (pc' := 7) (x := 5) kc_11_6 rfl rfl ?_
        refine xi_cmf (pc' := 10) kc_11_7 rfl (xc_gt_f (X := a4.toInt) (Y := 5) rfl (by decide) (by omega)) ?_
        refine xi_iconst (pc' := 11) (v := 1) kc_11_10 rfl rfl ?_
        refine xi_goto (pc' := 15) kc_11_11 rfl ?_
        refine xi_ireturn kc_11_15 mr_11 rfl ?_
        show xw J ov 98 10 (6, [(0, .int a4)], [.int 1], hh103) _
        refine xi_ireturn kc_10_6 mr_10 rfl ?_
        show xw J ov 99 9 (9, [(0, .ref 115), (1, .int a4), (2, .int a6), (3, .int a8)], [.int 1], hh103) _
        refine xi_ift (pc' := 18) kc_9_9 rfl rfl ?_
        refine xi_iload_n (pc' := 19) (x := a6) kc_9_18 rfl rfl ?_
        refine xi_iconst (pc' := 20) (v := 0) kc_9_19 rfl rfl ?_
        refine xi_iconst (pc' := 21) (v := 5) kc_9_20 rfl rfl ?_
        refine xi_static (mj := 11) (as := [.int a6, .int 0, .int 5]) (st1 := []) (lv0 := [(0, .int a6), (1, .int 0), (2, .int 5)]) kc_9_21 rfl rfl (Nat.le_of_ble_eq_true rfl) rfl rfl (Nat.le_of_ble_eq_true rfl) (hJ _ _ _ _ (by decide)) (xm_le ml_11 rfl) rfl ?_
        refine xi_iload_n (pc' := 1) (x := a6) kc_11_0 rfl rfl ?_
        refine xi_iload_n (pc' := 2) (x := 0) kc_11_1 rfl rfl ?_
        refine xi_cmt (pc' := 14) kc_11_2 rfl (xc_lt_t (X := a6.toInt) (Y := 0) rfl (by decide) (by omega)) ?_
        refine xi_iconst (pc' := 15) (v := 0) kc_11_14 rfl rfl ?_
        refine xi_ireturn kc_11_15 mr_11 rfl ?_
        show xw J ov 99 9 (24, [(0, .ref 115), (1, .int a4), (2, .int a6), (3, .int a8)], [.int 0], hh103) _
        refine xi_iff (pc' := 27) kc_9_24 rfl rfl ?_
        refine xi_aload_n (pc' := 28) (x := 115) kc_9_27 rfl rfl ?_
        refine xi_bipush (pc' := 30) (v := (-2)) kc_9_28 rfl rfl ?_
        refine xi_virtual (mj := 12) (as := [.int (-2)]) (st1 := []) (lv0 := [(0, .ref 115), (1, .int (-2))]) kc_9_30 rfl rfl rfl rfl rfl eh102.1 (Nat.le_of_ble_eq_true rfl) (hJ _ _ _ _ (by decide)) (xm_le ml_12 rfl) rfl ?_
        refine xi_aload_n (pc' := 1) (x := 115) kc_12_0 rfl rfl ?_
        refine xi_getfield (pc' := 4) (v := .ref 140) kc_12_1 rfl rfl rfl eh102.1 rfl ?_
        refine xi_iload_n (pc' := 5) (x := (-2)) kc_12_4 rfl rfl ?_
        refine xi_ineg (pc' := 6) (v := 2) kc_12_5 rfl rfl ?_
        refine xi_dup2 (pc' := 7) kc_12_6 rfl ⟨rfl, rfl⟩ ?_
        obtain ⟨y106, A106, hy106, ry106⟩ := xk_arr K.1 xD_140
        obtain ⟨v107, ev107, bv107, dv107⟩ := xj_get hy106 ry106 (i := 2) (by decide) (by decide)
        have A108 := ((eh102.2.1 140 (by decide)).trans ((eh84.2.1 140 (by decide)).trans A106))
        refine xi_iaload (pc' := 8) (v := v107) kc_12_7 rfl A108 (by decide) rfl (xi_in (by decide) (by rw [hy106]; decide)) ev107 ?_
        refine xi_iconst (pc' := 9) (v := 1) kc_12_8 rfl rfl ?_
        obtain ⟨v109, ev109⟩ : ∃ q : Int32, (v107 : Int32) + 1 = q := ⟨_, rfl⟩
        have rv109 := xc_rng v109
        refine xi_iadd (pc' := 10) (v := v109) kc_12_9 rfl ev109 ?_
        obtain ⟨y110, s110, hy110, ry110⟩ := xj_set (v := v109) hy106 ry106 2 (by first | omega | decide) (by first | omega | decide)
        refine xi_iastore (pc' := 11) (x' := y110) kc_12_10 rfl A108 rfl (xi_in (by decide) (by rw [hy106]; decide)) s110 (fun hh110 eh110 => ?_)
        have K111 := xk_pa K104 (xk_wa (by decide +kernel)) xD_140 hy110 ry110 eh110
        have KR112 := xk_pa KR105 (xk_wa (by decide +kernel)) xD_140 hy110 ry110 eh110
        refine xi_iload_n (pc' := 12) (x := (-2)) kc_12_11 rfl rfl ?_
        refine xi_ireturn kc_12_12 mr_12 rfl ?_
        show xw J ov 99 9 (33, [(0, .ref 115), (1, .int a4), (2, .int a6), (3, .int a8)], [.int (-2)], hh110) _
        refine xi_ireturn kc_9_33 mr_9 rfl ?_
        show xw J ov 100 195 (236, [(4, .int x4), (3, .ref 167), (2, .ref 115), (1, .ref 0), (0, .ref 1000000)], [.int (-2), .int (-2)], hh110) _
        refine xi_cmt (pc' := 1501) kc_195_236 rfl rfl ?_
        obtain ⟨v113, ev113⟩ : ∃ q : Int32, x4 + 6 = q := ⟨_, rfl⟩
        have zv113 : v113.toInt = (x4.toInt + 6) := by rw [← ev113]; exact (xz_add (X := x4.toInt) (Y := 6) rfl (by decide) (by omega) (by omega)).trans (by omega)
        refine xi_iinc (pc' := 1504) (x := x4) (v := v113) (lv' := [(4, .int v113), (3, .ref 167), (2, .ref 115), (1, .ref 0), (0, .ref 1000000)]) kc_195_1501 rfl rfl ev113 rfl (xm_lt ml_195 rfl) ?_
        refine xi_goto (pc' := 23) kc_195_1504 rfl ?_
        exact kk v113 hh110 (by omega) K111 (xI_kept I KR112.2.1)
      · refine xi_iff (pc' := 17) kc_88_14 rfl (xc_lt_f (X := a6.toInt) (Y := 0) rfl (by decide) (by omega)) ?_
        refine xi_iload_n (pc' := 18) (x := a6) kc_88_17 rfl rfl ?_
        refine xi_iconst (pc' := 19) (v := 5) kc_88_18 rfl rfl ?_
        by_cases c114 : a6.toInt ≤ 5
        · refine xi_cmt (pc' := 29) kc_88_19 rfl (xc_le_t (X := a6.toInt) (Y := 5) rfl (by decide) (by omega)) ?_
          refine xi_iload_n (pc' := 30) (x := a8) kc_88_29 rfl rfl ?_
          refine xi_getstatic (pc' := 33) (j := 1000001) kc_88_30 rfl rfl ?_
          refine xi_iload_n (pc' := 34) (x := a6) kc_88_33 rfl rfl ?_
          by_cases c115 : a6.toInt = 0
          · have qa6 : a6 = 0 := xc_of (Eq.trans (by omega) (show (0 : Int) = (0 : Int32).toInt by decide))
            subst qa6
            refine xi_ialoadO (pc' := 35) (v := 10) kc_88_34 rfl (by decide) hov1 (xi_in (n := 6) (by decide) (by decide)) rfl ?_
            by_cases c116 : 10 ≤ a8.toInt
            · refine xi_cmt (pc' := 45) kc_88_35 rfl (xc_ge_t (X := a8.toInt) (Y := 10) rfl (by decide) (by omega)) ?_
              refine xi_iload_n (pc' := 46) (x := a8) kc_88_45 rfl rfl ?_
              refine xi_getstatic (pc' := 49) (j := 1000002) kc_88_46 rfl rfl ?_
              refine xi_iload_n (pc' := 50) (x := 0) kc_88_49 rfl rfl ?_
              refine xi_ialoadO (pc' := 51) (v := 99) kc_88_50 rfl (by decide) hov2 (xi_in (n := 6) (by decide) (by decide)) rfl ?_
              by_cases c117 : a8.toInt ≤ 99
              · refine xi_cmt (pc' := 61) kc_88_51 rfl (xc_le_t (X := a8.toInt) (Y := 99) rfl (by decide) (by omega)) ?_
                refine xi_iload_n (pc' := 62) (x := 0) kc_88_61 rfl rfl ?_
                refine xi_iconst (pc' := 63) (v := 5) kc_88_62 rfl rfl ?_
                refine xi_cmt (pc' := 90) kc_88_63 rfl rfl ?_
                refine xi_aload_n (pc' := 91) (x := 0) kc_88_90 rfl rfl ?_
                refine xi_getfield (pc' := 94) (v := .ref 66) kc_88_91 rfl rfl rfl A11 rfl ?_
                obtain ⟨u119, wl118, bu119, A120⟩ := xq_66 K.1
                refine xi_virtual (mj := 91) (as := []) (st1 := []) (lv0 := [(0, .ref 66)]) kc_88_94 rfl rfl rfl rfl rfl A120 (Nat.le_of_ble_eq_true rfl) (hJ _ _ _ _ (by decide)) (xm_le ml_91 rfl) rfl ?_
                refine xi_aload_n (pc' := 1) (x := 66) kc_91_0 rfl rfl ?_
                refine xi_lconst (pc' := 2) (v := 0) kc_91_1 rfl rfl ?_
                refine xi_putfield (pc' := 5) (fs' := [.ref 1, .ref 67, .ref 70, .ref 71, .ref 72, .ref 73, .ref 74, .long 0, .int u119]) kc_91_2 rfl rfl rfl A120 rfl rfl rfl (Nat.le_of_ble_eq_true rfl) rfl (fun hh122 eh121 => ?_)
                have K123 := xk_pl (k := 7) (v := 0) K (xk_wf (by decide +kernel)) xD_66 A120 rfl eh121 rfl
                have KR124 := xk_pl (k := 7) (v := 0) KR (xk_wf (by decide +kernel)) xD_66 A120 rfl eh121 rfl
                refine xi_return kc_91_5 mr_91 ?_
                show xw J ov 99 88 (97, [(0, .ref 0), (1, .int a4), (2, .int 0), (3, .int a8)], [], hh122) _
                refine xi_aload_n (pc' := 98) (x := 0) kc_88_97 rfl rfl ?_
                have A125 := ((eh121.2.1 0 (by decide)).trans A11)
                refine xi_getfield (pc' := 101) (v := .ref 1) kc_88_98 rfl rfl rfl A125 rfl ?_
                refine xi_iload_n (pc' := 102) (x := a4) kc_88_101 rfl rfl ?_
                refine xi_iload_n (pc' := 103) (x := 0) kc_88_102 rfl rfl ?_
                refine xi_iload_n (pc' := 104) (x := a8) kc_88_103 rfl rfl ?_
                obtain ⟨u126, u127, bu126, bu127, A128⟩ := xq_1 K.1
                have A129 := ((eh121.2.1 1 (by decide)).trans A128)
                refine xi_virtual (mj := 92) (as := [.int a4, .int 0, .int a8]) (st1 := []) (lv0 := [(0, .ref 1), (1, .int a4), (2, .int 0), (3, .int a8)]) kc_88_104 rfl rfl rfl rfl rfl A129 (Nat.le_of_ble_eq_true rfl) (hJ _ _ _ _ (by decide)) (xm_le ml_92 rfl) rfl ?_
                have F130 := xra_fr WWb (xl_c (eh121.2.1 121 (by decide)))
                have F131 := xg6_c I6 (fun c hc => eh121.2.1 c (Ne.symm (xk_nc hc rfl)))
                have F132 := xr5_c I5 (fun c hc => eh121.2.1 c (Ne.symm (xk_nc hc rfl)))
                have zc0 : (0 : Int32).toInt = 0 := by decide
                refine xw_chg hJ hov1 hov2 (d := 96) (x1 := a4) (x2 := 0) (x3 := a8) K123.1 F131 (by omega) (by omega) (fun r133 hh134 hr133 K135 I136 => ?_)
                have rr133 := xc_rng r133
                have nqr133 : Int32.toNatClampNeg 0 = 0 := by decide
                rw [nqr133] at hr133 I136
                have I1365 := xr5_k F132 K135 (by decide +kernel)
                have I136W := xra_fr F130 (K135.2.1 (121, 0) (by decide +kernel))
                have A137 := ((eh121.2.1 64 (by decide)).trans A1)
                have K138 := xk_tr K123 K135 (xsb_ok _ _ (by decide +kernel))
                have A139 := xk_eqa (q := 0) K135 (by decide +kernel) A137
                obtain ⟨u140, u141, bu140, bu141, A142⟩ := xq_0 K138.1
                have e143 : u10 = u141 := xk_eqi (q := 9) K135 (by decide +kernel) A125 A142 rfl rfl
                subst e143
                have e144 : u9 = u140 := xk_eqi (q := 8) K135 (by decide +kernel) A125 A142 rfl rfl
                subst e144
                obtain ⟨u145, u146, bu145, bu146, A147⟩ := xq_1 K138.1
                have e148 : u126 = u145 := xk_eqi (q := 5) K135 (by decide +kernel) A129 A147 rfl rfl
                subst e148
                show xw J ov 99 88 (107, [(0, .ref 0), (1, .int a4), (2, .int 0), (3, .int a8)], [.int r133], hh134) _
                refine xi_ireturn kc_88_107 mr_88 rfl ?_
                show xw J ov 100 195 (214, [(4, .int x4), (3, .ref 167), (2, .ref 115), (1, .ref 0), (0, .ref 1000000)], [.int r133], hh134) _
                refine xi_aload_n (pc' := 215) (x := 115) kc_195_214 rfl rfl ?_
                refine xi_aload_n (pc' := 216) (x := 1000000) kc_195_215 rfl rfl ?_
                refine xi_iload (pc' := 218) (x := x4) kc_195_216 rfl rfl ?_
                refine xi_iconst (pc' := 219) (v := 1) kc_195_218 rfl rfl ?_
                refine xi_iadd (pc' := 220) (v := v3) kc_195_219 rfl ev3 ?_
                refine xi_ialoadO (pc' := 221) (v := a4) kc_195_220 rfl (by decide) hov0 (xi_in (by omega) (by omega)) ea4 ?_
                refine xi_aload_n (pc' := 222) (x := 1000000) kc_195_221 rfl rfl ?_
                refine xi_iload (pc' := 224) (x := x4) kc_195_222 rfl rfl ?_
                refine xi_iconst (pc' := 225) (v := 2) kc_195_224 rfl rfl ?_
                refine xi_iadd (pc' := 226) (v := v5) kc_195_225 rfl ev5 ?_
                refine xi_ialoadO (pc' := 227) (v := 0) kc_195_226 rfl (by decide) hov0 (xi_in (by omega) (by omega)) ea6 ?_
                refine xi_aload_n (pc' := 228) (x := 1000000) kc_195_227 rfl rfl ?_
                refine xi_iload (pc' := 230) (x := x4) kc_195_228 rfl rfl ?_
                refine xi_iconst (pc' := 231) (v := 3) kc_195_230 rfl rfl ?_
                refine xi_iadd (pc' := 232) (v := v7) kc_195_231 rfl ev7 ?_
                refine xi_ialoadO (pc' := 233) (v := a8) kc_195_232 rfl (by decide) hov0 (xi_in (by omega) (by omega)) ea8 ?_
                obtain ⟨u149, u150, u151, u152, u153, u154, u155, u156, u157, u158, u159, u160, u161, bu149, bu150, bu151, bu152, bu153, bu154, bu155, bu156, bu157, bu158, bu159, bu160, bu161, A162⟩ := xq_115 K138.1
                refine xi_virtual (mj := 9) (as := [.int a4, .int 0, .int a8]) (st1 := [.int r133]) (lv0 := [(0, .ref 115), (1, .int a4), (2, .int 0), (3, .int a8)]) kc_195_233 rfl rfl rfl rfl rfl A162 (Nat.le_of_ble_eq_true rfl) (hJ _ _ _ _ (by decide)) (xm_le ml_9 rfl) rfl ?_
                refine xi_aload_n (pc' := 1) (x := 115) kc_9_0 rfl rfl ?_
                refine xi_iconst (pc' := 2) (v := 0) kc_9_1 rfl rfl ?_
                refine xi_putfield (pc' := 5) (fs' := [.int 0, .int u150, .ref 116, .ref 117, .ref 118, .ref 119, .ref 120, .ref 121, .ref 122, .ref 123, .ref 124, .ref 125, .ref 126, .ref 127, .ref 128, .ref 129, .int u151, .ref 130, .int u152, .ref 131, .ref 132, .ref 133, .ref 134, .int u153, .ref 135, .ref 136, .ref 137, .ref 138, .ref 139, .ref 140, .ref 141, .ref 142, .int u154, .int u155, .int u156, .ref 143, .ref 144, .ref 145, .ref 146, .ref 147, .ref 148, .int u157, .ref 149, .ref 150, .ref 151, .int u158, .ref 152, .ref 153, .ref 154, .ref 155, .ref 156, .ref 157, .ref 158, .ref 159, .int u159, .ref 160, .int u160, .ref 161, .ref 162, .ref 163, .ref 164, .int u161, .ref 165, .ref 166]) kc_9_2 rfl rfl rfl A162 rfl rfl rfl (Nat.le_of_ble_eq_true rfl) rfl (fun hh164 eh163 => ?_)
                have K165 := xk_pf (k := 0) (v := 0) K138 (xk_wf (by decide +kernel)) xD_115 A162 rfl (by first | omega | decide) (by first | omega | decide) eh163 rfl
                refine xi_iload_n (pc' := 6) (x := a4) kc_9_5 rfl rfl ?_
                refine xi_static (mj := 10) (as := [.int a4]) (st1 := []) (lv0 := [(0, .int a4)]) kc_9_6 rfl rfl (Nat.le_of_ble_eq_true rfl) rfl rfl (Nat.le_of_ble_eq_true rfl) (hJ _ _ _ _ (by decide)) (xm_le ml_10 rfl) rfl ?_
                refine xi_iload_n (pc' := 1) (x := a4) kc_10_0 rfl rfl ?_
                refine xi_iconst (pc' := 2) (v := 0) kc_10_1 rfl rfl ?_
                refine xi_iconst (pc' := 3) (v := 5) kc_10_2 rfl rfl ?_
                refine xi_static (mj := 11) (as := [.int a4, .int 0, .int 5]) (st1 := []) (lv0 := [(0, .int a4), (1, .int 0), (2, .int 5)]) kc_10_3 rfl rfl (Nat.le_of_ble_eq_true rfl) rfl rfl (Nat.le_of_ble_eq_true rfl) (hJ _ _ _ _ (by decide)) (xm_le ml_11 rfl) rfl ?_
                refine xi_iload_n (pc' := 1) (x := a4) kc_11_0 rfl rfl ?_
                refine xi_iload_n (pc' := 2) (x := 0) kc_11_1 rfl rfl ?_
                refine xi_cmf (pc' := 5) kc_11_2 rfl (xc_lt_f (X := a4.toInt) (Y := 0) rfl (by decide) (by omega)) ?_
                refine xi_iload_n (pc' := 6) (x := a4) kc_11_5 rfl rfl ?_
                refine xi_iload_n (pc' := 7) (x := 5) kc_11_6 rfl rfl ?_
                refine xi_cmf (pc' := 10) kc_11_7 rfl (xc_gt_f (X := a4.toInt) (Y := 5) rfl (by decide) (by omega)) ?_
                refine xi_iconst (pc' := 11) (v := 1) kc_11_10 rfl rfl ?_
                refine xi_goto (pc' := 15) kc_11_11 rfl ?_
                refine xi_ireturn kc_11_15 mr_11 rfl ?_
                show xw J ov 98 10 (6, [(0, .int a4)], [.int 1], hh164) _
                refine xi_ireturn kc_10_6 mr_10 rfl ?_
                show xw J ov 99 9 (9, [(0, .ref 115), (1, .int a4), (2, .int 0), (3, .int a8)], [.int 1], hh164) _
                refine xi_ift (pc' := 18) kc_9_9 rfl rfl ?_
                refine xi_iload_n (pc' := 19) (x := 0) kc_9_18 rfl rfl ?_
                refine xi_iconst (pc' := 20) (v := 0) kc_9_19 rfl rfl ?_
                refine xi_iconst (pc' := 21) (v := 5) kc_9_20 rfl rfl ?_
                refine xi_static (mj := 11) (as := [.int 0, .int 0, .int 5]) (st1 := []) (lv0 := [(0, .int 0), (1, .int 0), (2, .int 5)]) kc_9_21 rfl rfl (Nat.le_of_ble_eq_true rfl) rfl rfl (Nat.le_of_ble_eq_true rfl) (hJ _ _ _ _ (by decide)) (xm_le ml_11 rfl) rfl ?_
                refine xi_iload_n (pc' := 1) (x := 0) kc_11_0 rfl rfl ?_
                refine xi_iload_n (pc' := 2) (x := 0) kc_11_1 rfl rfl ?_
                refine xi_cmf (pc' := 5) kc_11_2 rfl rfl ?_
                refine xi_iload_n (pc' := 6) (x := 0) kc_11_5 rfl rfl ?_
                refine xi_iload_n (pc' := 7) (x := 5) kc_11_6 rfl rfl ?_
                refine xi_cmf (pc' := 10) kc_11_7 rfl rfl ?_
                refine xi_iconst (pc' := 11) (v := 1) kc_11_10 rfl rfl ?_
                refine xi_goto (pc' := 15) kc_11_11 rfl ?_
                refine xi_ireturn kc_11_15 mr_11 rfl ?_
                show xw J ov 99 9 (24, [(0, .ref 115), (1, .int a4), (2, .int 0), (3, .int a8)], [.int 1], hh164) _
                refine xi_ift (pc' := 34) kc_9_24 rfl rfl ?_
                refine xi_iload_n (pc' := 35) (x := a8) kc_9_34 rfl rfl ?_
                refine xi_iload_n (pc' := 36) (x := 0) kc_9_35 rfl rfl ?_
                refine xi_iff (pc' := 39) kc_9_36 rfl rfl ?_
                refine xi_bipush (pc' := 41) (v := 10) kc_9_39 rfl rfl ?_
                refine xi_goto (pc' := 45) kc_9_41 rfl ?_
                refine xi_cmt (pc' := 55) kc_9_45 rfl (xc_ge_t (X := a8.toInt) (Y := 10) rfl (by decide) (by omega)) ?_
                refine xi_iload_n (pc' := 56) (x := a8) kc_9_55 rfl rfl ?_
                refine xi_iload_n (pc' := 57) (x := 0) kc_9_56 rfl rfl ?_
                refine xi_iff (pc' := 60) kc_9_57 rfl rfl ?_
                refine xi_bipush (pc' := 62) (v := 99) kc_9_60 rfl rfl ?_
                refine xi_goto (pc' := 96) kc_9_62 rfl ?_
                refine xi_cmt (pc' := 106) kc_9_96 rfl (xc_le_t (X := a8.toInt) (Y := 99) rfl (by decide) (by omega)) ?_
                refine xi_aload_n (pc' := 107) (x := 115) kc_9_106 rfl rfl ?_
                refine xi_iload_n (pc' := 108) (x := a4) kc_9_107 rfl rfl ?_
                refine xi_iload_n (pc' := 109) (x := 0) kc_9_108 rfl rfl ?_
                refine xi_virtual (mj := 13) (as := [.int a4, .int 0]) (st1 := []) (lv0 := [(0, .ref 115), (1, .int a4), (2, .int 0)]) kc_9_109 rfl rfl rfl rfl rfl eh163.1 (Nat.le_of_ble_eq_true rfl) (hJ _ _ _ _ (by decide)) (xm_le ml_13 rfl) rfl ?_
                have F166 := xg6_c I136 (fun c hc => eh163.2.1 c (Ne.symm (xk_nc hc rfl)))
                have F167 := xr5_c I1365 (fun c hc => eh163.2.1 c (Ne.symm (xk_nc hc rfl)))
                have F168 := xra_fr I136W (xl_c (eh163.2.1 121 (by decide)))
                have zc0 : (0 : Int32).toInt = 0 := by decide
                refine xw_rn hJ hov1 hov2 (d := 97) (x1 := a4) (x2 := 0) K165.1 F167 (by omega) (by omega) (fun r169 hr169 => ?_)
                have rr169 := xc_rng r169
                have nqr169 : Int32.toNatClampNeg 0 = 0 := by decide
                rw [nqr169] at hr169
                show xw J ov 99 9 (112, [(0, .ref 115), (1, .int a4), (2, .int 0), (3, .int a8)], [.int r169], hh164) _
                refine xi_istore (pc' := 114) (lv' := [(4, .int r169), (0, .ref 115), (1, .int a4), (2, .int 0), (3, .int a8)]) kc_9_112 rfl rfl (xm_lt ml_9 rfl) ?_
                refine xi_aload_n (pc' := 115) (x := 115) kc_9_114 rfl rfl ?_
                refine xi_iload_n (pc' := 116) (x := a4) kc_9_115 rfl rfl ?_
                refine xi_iload_n (pc' := 117) (x := 0) kc_9_116 rfl rfl ?_
                refine xi_iload_n (pc' := 118) (x := a8) kc_9_117 rfl rfl ?_
                refine xi_virtual (mj := 14) (as := [.int a4, .int 0, .int a8]) (st1 := []) (lv0 := [(0, .ref 115), (1, .int a4), (2, .int 0), (3, .int a8)]) kc_9_118 rfl rfl rfl rfl rfl eh163.1 (Nat.le_of_ble_eq_true rfl) (hJ _ _ _ _ (by decide)) (xm_le ml_14 rfl) rfl ?_
                refine xw_te0 hJ hov1 hov2 (d := 97) (x1 := a4) (x3 := a8) K165.1 F167 F168 (by omega) (by omega) (fun hh170 K171 F172 F173 => ?_)
                have F174 := xg6_k F166 K171 (by decide +kernel)
                have A175 := ((eh163.2.1 64 (by decide)).trans A139)
                have A176 := ((eh163.2.1 0 (by decide)).trans A142)
                have A177 := ((eh163.2.1 1 (by decide)).trans A147)
                have K178 := xk_tr K165 K171 (xsb_ok _ _ (by decide +kernel))
                have A179 := xk_eqa (q := 0) K171 (by decide +kernel) A175
                obtain ⟨u180, u181, bu180, bu181, A182⟩ := xq_0 K178.1
                have e183 : u10 = u181 := xk_eqi (q := 9) K171 (by decide +kernel) A176 A182 rfl rfl
                subst e183
                have e184 : u9 = u180 := xk_eqi (q := 8) K171 (by decide +kernel) A176 A182 rfl rfl
                subst e184
                obtain ⟨u185, u186, bu185, bu186, A187⟩ := xq_1 K178.1
                have e188 : u126 = u185 := xk_eqi (q := 5) K171 (by decide +kernel) A177 A187 rfl rfl
                subst e188
                obtain ⟨u189, u190, u191, u192, u193, u194, u195, u196, u197, u198, u199, u200, u201, bu189, bu190, bu191, bu192, bu193, bu194, bu195, bu196, bu197, bu198, bu199, bu200, bu201, A202⟩ := xq_115 K178.1
                have e203 : u150 = u190 := xk_eqi (q := 1) K171 (by decide +kernel) eh163.1 A202 rfl rfl
                subst e203
                have e204 : u153 = u193 := xk_eqi (q := 23) K171 (by decide +kernel) eh163.1 A202 rfl rfl
                subst e204
                have e205 : u156 = u196 := xk_eqi (q := 34) K171 (by decide +kernel) eh163.1 A202 rfl rfl
                subst e205
                have e206 : u154 = u194 := xk_eqi (q := 32) K171 (by decide +kernel) eh163.1 A202 rfl rfl
                subst e206
                show xw J ov 99 9 (121, [(4, .int r169), (0, .ref 115), (1, .int a4), (2, .int 0), (3, .int a8)], [], hh170) _
                refine xi_iload (pc' := 123) (x := r169) kc_9_121 rfl rfl ?_
                refine xi_ireturn kc_9_123 mr_9 rfl ?_
                show xw J ov 100 195 (236, [(4, .int x4), (3, .ref 167), (2, .ref 115), (1, .ref 0), (0, .ref 1000000)], [.int r169, .int r133], hh170) _
                by_cases c207 : r133.toInt = r169.toInt
                · refine xi_cmt (pc' := 1501) kc_195_236 rfl (xc_eq_t (X := r133.toInt) (Y := r169.toInt) rfl rfl (by omega)) ?_
                  obtain ⟨v208, ev208⟩ : ∃ q : Int32, x4 + 6 = q := ⟨_, rfl⟩
                  have zv208 : v208.toInt = (x4.toInt + 6) := by rw [← ev208]; exact (xz_add (X := x4.toInt) (Y := 6) rfl (by decide) (by omega) (by omega)).trans (by omega)
                  refine xi_iinc (pc' := 1504) (x := x4) (v := v208) (lv' := [(4, .int v208), (3, .ref 167), (2, .ref 115), (1, .ref 0), (0, .ref 1000000)]) kc_195_1501 rfl rfl ev208 rfl (xm_lt ml_195 rfl) ?_
                  refine xi_goto (pc' := 23) kc_195_1504 rfl ?_
                  exact kk v208 hh170 (by omega) K178 ⟨((K178.2.1 (0, 9) (by decide +kernel)).trans (I.1.trans (K178.2.1 (115, 1) (by decide +kernel)).symm)), ⟨w, xra_mk A179 R2, F173, WWr⟩, ⟨_, F174, F172⟩, (by rw [(K178.2.1 (13, 0) (by decide +kernel)), (K178.2.1 (122, 0) (by decide +kernel))]; exact I.2.2.2.1), (by rw [(K178.2.1 (16, 0) (by decide +kernel)), (K178.2.1 (122, 0) (by decide +kernel))]; exact I.2.2.2.2.1), (by rw [(K178.2.1 (19, 0) (by decide +kernel)), (K178.2.1 (122, 0) (by decide +kernel))]; exact I.2.2.2.2.2.1), (by rw [(K178.2.1 (22, 0) (by decide +kernel)), (K178.2.1 (122, 0) (by decide +kernel))]; exact I.2.2.2.2.2.2.1), (by rw [(K178.2.1 (25, 0) (by decide +kernel)), (K178.2.1 (122, 0) (by decide +kernel))]; exact I.2.2.2.2.2.2.2.1), (by rw [(K178.2.1 (28, 0) (by decide +kernel)), (K178.2.1 (122, 0) (by decide +kernel))]; exact I.2.2.2.2.2.2.2.2.1), (by rw [(K178.2.1 (6, 0) (by decide +kernel)), (K178.2.1 (123, 0) (by decide +kernel))]; exact I.2.2.2.2.2.2.2.2.2.1), (by rw [(K178.2.1 (9, 0) (by decide +kernel)), (K178.2.1 (124, 0) (by decide +kernel))]; exact I.2.2.2.2.2.2.2.2.2.2.1), (by rw [(K178.2.1 (7, 0) (by decide +kernel)), (K178.2.1 (6, 0) (by decide +kernel))]; exact I.2.2.2.2.2.2.2.2.2.2.2.1), (by rw [(K178.2.1 (10, 0) (by decide +kernel)), (K178.2.1 (9, 0) (by decide +kernel))]; exact I.2.2.2.2.2.2.2.2.2.2.2.2.1), ((K178.2.1 (5, 0) (by decide +kernel)).trans I.2.2.2.2.2.2.2.2.2.2.2.2.2.1), ((K178.2.1 (8, 0) (by decide +kernel)).trans I.2.2.2.2.2.2.2.2.2.2.2.2.2.2.1), (xGR_fr I.2.2.2.2.2.2.2.2.2.2.2.2.2.2.2.1 K178.2.1 (by decide +kernel) (by decide +kernel)), (xGR_fr I.2.2.2.2.2.2.2.2.2.2.2.2.2.2.2.2.1 K178.2.1 (by decide +kernel) (by decide +kernel)), ((K178.2.1 (1, 5) (by decide +kernel)).trans (I.2.2.2.2.2.2.2.2.2.2.2.2.2.2.2.2.2.1.trans (K178.2.1 (115, 23) (by decide +kernel)).symm)), (xGR_fr I.2.2.2.2.2.2.2.2.2.2.2.2.2.2.2.2.2.2.1 K178.2.1 (by decide +kernel) (by decide +kernel)), (xGR_fr I.2.2.2.2.2.2.2.2.2.2.2.2.2.2.2.2.2.2.2.1 K178.2.1 (by decide +kernel) (by decide +kernel)), (xGR_fr I.2.2.2.2.2.2.2.2.2.2.2.2.2.2.2.2.2.2.2.2.1 K178.2.1 (by decide +kernel) (by decide +kernel)), (xGR_fr I.2.2.2.2.2.2.2.2.2.2.2.2.2.2.2.2.2.2.2.2.2.1 K178.2.1 (by decide +kernel) (by decide +kernel)), (by rw [(K178.2.1 (63, 2) (by decide +kernel)), (K178.2.1 (139, 0) (by decide +kernel)), (K178.2.1 (1, 5) (by decide +kernel))]; exact I.2.2.2.2.2.2.2.2.2.2.2.2.2.2.2.2.2.2.2.2.2.2.1), ((K178.2.1 (0, 8) (by decide +kernel)).trans (I.2.2.2.2.2.2.2.2.2.2.2.2.2.2.2.2.2.2.2.2.2.2.2.1.trans (K178.2.1 (115, 34) (by decide +kernel)).symm)), (xGR_fr I.2.2.2.2.2.2.2.2.2.2.2.2.2.2.2.2.2.2.2.2.2.2.2.2.1 K178.2.1 (by decide +kernel) (by decide +kernel)), (xGR_fr I.2.2.2.2.2.2.2.2.2.2.2.2.2.2.2.2.2.2.2.2.2.2.2.2.2.1 K178.2.1 (by decide +kernel) (by decide +kernel)), (xGR_fr I.2.2.2.2.2.2.2.2.2.2.2.2.2.2.2.2.2.2.2.2.2.2.2.2.2.2.1 K178.2.1 (by decide +kernel) (by decide +kernel)), (xGR_fr I.2.2.2.2.2.2.2.2.2.2.2.2.2.2.2.2.2.2.2.2.2.2.2.2.2.2.2.1 K178.2.1 (by decide +kernel) (by decide +kernel)), (xts_fr I.2.2.2.2.2.2.2.2.2.2.2.2.2.2.2.2.2.2.2.2.2.2.2.2.2.2.2.2.1 (fun l hl => K178.2.1 l (xk_el (by decide +kernel) hl))), ((K178.2.1 (63, 3) (by decide +kernel)).trans I.2.2.2.2.2.2.2.2.2.2.2.2.2.2.2.2.2.2.2.2.2.2.2.2.2.2.2.2.2)⟩
                · refine xi_cmf (pc' := 239) kc_195_236 rfl (xc_eq_f (X := r133.toInt) (Y := r169.toInt) rfl rfl (by omega)) ?_
                  refine xi_iconst (pc' := 240) (v := 0) kc_195_239 rfl rfl ?_
                  refine xi_ireturn kc_195_240 mr_195 rfl ?_
                  exfalso; omega
              · refine xi_cmf (pc' := 54) kc_88_51 rfl (xc_le_f (X := a8.toInt) (Y := 99) rfl (by decide) (by omega)) ?_
                refine xi_aload_n (pc' := 55) (x := 0) kc_88_54 rfl rfl ?_
                refine xi_bipush (pc' := 57) (v := (-6)) kc_88_55 rfl rfl ?_
                refine xi_virtual (mj := 90) (as := [.int (-6)]) (st1 := []) (lv0 := [(0, .ref 0), (1, .int (-6))]) kc_88_57 rfl rfl rfl rfl rfl A11 (Nat.le_of_ble_eq_true rfl) (hJ _ _ _ _ (by decide)) (xm_le ml_90 rfl) rfl ?_
                refine xi_iload_n (pc' := 1) (x := (-6)) kc_90_0 rfl rfl ?_
                refine xi_ineg (pc' := 2) (v := 6) kc_90_1 rfl rfl ?_
                refine xi_istore_n (pc' := 3) (lv' := [(2, .int 6), (0, .ref 0), (1, .int (-6))]) kc_90_2 rfl rfl (xm_lt ml_90 rfl) ?_
                refine xi_iload_n (pc' := 4) (x := 6) kc_90_3 rfl rfl ?_
                refine xi_iff (pc' := 7) kc_90_4 rfl rfl ?_
                refine xi_iload_n (pc' := 8) (x := 6) kc_90_7 rfl rfl ?_
                refine xi_aload_n (pc' := 9) (x := 0) kc_90_8 rfl rfl ?_
                refine xi_getfield (pc' := 12) (v := .ref 94) kc_90_9 rfl rfl rfl A11 rfl ?_
                obtain ⟨y209, A209, hy209, ry209⟩ := xk_arr K.1 xD_94
                refine xi_arraylength (pc' := 13) (n := 7) (v := 7) kc_90_12 rfl (xl_lenI (by decide) (by decide) A209 hy209) rfl ?_
                refine xi_cmf (pc' := 16) kc_90_13 rfl rfl ?_
                refine xi_aload_n (pc' := 17) (x := 0) kc_90_16 rfl rfl ?_
                refine xi_getfield (pc' := 20) (v := .ref 94) kc_90_17 rfl rfl rfl A11 rfl ?_
                refine xi_iload_n (pc' := 21) (x := 6) kc_90_20 rfl rfl ?_
                refine xi_dup2 (pc' := 22) kc_90_21 rfl ⟨rfl, rfl⟩ ?_
                obtain ⟨v210, ev210, bv210, dv210⟩ := xj_get hy209 ry209 (i := 6) (by decide) (by decide)
                refine xi_iaload (pc' := 23) (v := v210) kc_90_22 rfl A209 (by decide) rfl (xi_in (by decide) (by rw [hy209]; decide)) ev210 ?_
                refine xi_iconst (pc' := 24) (v := 1) kc_90_23 rfl rfl ?_
                obtain ⟨v211, ev211⟩ : ∃ q : Int32, (v210 : Int32) + 1 = q := ⟨_, rfl⟩
                have rv211 := xc_rng v211
                refine xi_iadd (pc' := 25) (v := v211) kc_90_24 rfl ev211 ?_
                obtain ⟨y212, s212, hy212, ry212⟩ := xj_set (v := v211) hy209 ry209 6 (by first | omega | decide) (by first | omega | decide)
                refine xi_iastore (pc' := 26) (x' := y212) kc_90_25 rfl A209 rfl (xi_in (by decide) (by rw [hy209]; decide)) s212 (fun hh212 eh212 => ?_)
                have K213 := xk_pa K (xk_wa (by decide +kernel)) xD_94 hy212 ry212 eh212
                have KR214 := xk_pa KR (xk_wa (by decide +kernel)) xD_94 hy212 ry212 eh212
                refine xi_iload_n (pc' := 27) (x := (-6)) kc_90_26 rfl rfl ?_
                refine xi_ireturn kc_90_27 mr_90 rfl ?_
                show xw J ov 99 88 (60, [(0, .ref 0), (1, .int a4), (2, .int 0), (3, .int a8)], [.int (-6)], hh212) _
                refine xi_ireturn kc_88_60 mr_88 rfl ?_
                show xw J ov 100 195 (214, [(4, .int x4), (3, .ref 167), (2, .ref 115), (1, .ref 0), (0, .ref 1000000)], [.int (-6)], hh212) _
                refine xi_aload_n (pc' := 215) (x := 115) kc_195_214 rfl rfl ?_
                refine xi_aload_n (pc' := 216) (x := 1000000) kc_195_215 rfl rfl ?_
                refine xi_iload (pc' := 218) (x := x4) kc_195_216 rfl rfl ?_
                refine xi_iconst (pc' := 219) (v := 1) kc_195_218 rfl rfl ?_
                refine xi_iadd (pc' := 220) (v := v3) kc_195_219 rfl ev3 ?_
                refine xi_ialoadO (pc' := 221) (v := a4) kc_195_220 rfl (by decide) hov0 (xi_in (by omega) (by omega)) ea4 ?_
                refine xi_aload_n (pc' := 222) (x := 1000000) kc_195_221 rfl rfl ?_
                refine xi_iload (pc' := 224) (x := x4) kc_195_222 rfl rfl ?_
                refine xi_iconst (pc' := 225) (v := 2) kc_195_224 rfl rfl ?_
                refine xi_iadd (pc' := 226) (v := v5) kc_195_225 rfl ev5 ?_
                refine xi_ialoadO (pc' := 227) (v := 0) kc_195_226 rfl (by decide) hov0 (xi_in (by omega) (by omega)) ea6 ?_
                refine xi_aload_n (pc' := 228) (x := 1000000) kc_195_227 rfl rfl ?_
                refine xi_iload (pc' := 230) (x := x4) kc_195_228 rfl rfl ?_
                refine xi_iconst (pc' := 231) (v := 3) kc_195_230 rfl rfl ?_
                refine xi_iadd (pc' := 232) (v := v7) kc_195_231 rfl ev7 ?_
                refine xi_ialoadO (pc' := 233) (v := a8) kc_195_232 rfl (by decide) hov0 (xi_in (by omega) (by omega)) ea8 ?_
                obtain ⟨u215, u216, u217, u218, u219, u220, u221, u222, u223, u224, u225, u226, u227, bu215, bu216, bu217, bu218, bu219, bu220, bu221, bu222, bu223, bu224, bu225, bu226, bu227, A228⟩ := xq_115 K.1
                have A229 := ((eh212.2.1 115 (by decide)).trans A228)
                refine xi_virtual (mj := 9) (as := [.int a4, .int 0, .int a8]) (st1 := [.int (-6)]) (lv0 := [(0, .ref 115), (1, .int a4), (2, .int 0), (3, .int a8)]) kc_195_233 rfl rfl rfl rfl rfl A229 (Nat.le_of_ble_eq_true rfl) (hJ _ _ _ _ (by decide)) (xm_le ml_9 rfl) rfl ?_
                refine xi_aload_n (pc' := 1) (x := 115) kc_9_0 rfl rfl ?_
                refine xi_iconst (pc' := 2) (v := 0) kc_9_1 rfl rfl ?_
                refine xi_putfield (pc' := 5) (fs' := [.int 0, .int u216, .ref 116, .ref 117, .ref 118, .ref 119, .ref 120, .ref 121, .ref 122, .ref 123, .ref 124, .ref 125, .ref 126, .ref 127, .ref 128, .ref 129, .int u217, .ref 130, .int u218, .ref 131, .ref 132, .ref 133, .ref 134, .int u219, .ref 135, .ref 136, .ref 137, .ref 138, .ref 139, .ref 140, .ref 141, .ref 142, .int u220, .int u221, .int u222, .ref 143, .ref 144, .ref 145, .ref 146, .ref 147, .ref 148, .int u223, .ref 149, .ref 150, .ref 151, .int u224, .ref 152, .ref 153, .ref 154, .ref 155, .ref 156, .ref 157, .ref 158, .ref 159, .int u225, .ref 160, .int u226, .ref 161, .ref 162, .ref 163, .ref 164, .int u227, .ref 165, .ref 166]) kc_9_2 rfl rfl rfl A229 rfl rfl rfl (Nat.le_of_ble_eq_true rfl) rfl (fun hh231 eh230 => ?_)
                have K232 := xk_pf (k := 0) (v := 0) K213 (xk_wf (by decide +kernel)) xD_115 A229 rfl (by first | omega | decide) (by first | omega | decide) eh230 rfl
                have KR233 := xk_pf (k := 0) (v := 0) KR214 (xk_wf (by decide +kernel)) xD_115 A229 rfl (by first | omega | decide) (by first | omega | decide) eh230 rfl
                refine xi_iload_n (pc' := 6) (x := a4) kc_9_5 rfl rfl ?_
                refine xi_static (mj := 10) (as := [.int a4]) (st1 := []) (lv0 := [(0, .int a4)]) kc_9_6 rfl rfl (Nat.le_of_ble_eq_true rfl) rfl rfl (Nat.le_of_ble_eq_true rfl) (hJ _ _ _ _ (by decide)) (xm_le ml_10 rfl) rfl ?_
                refine xi_iload_n (pc' := 1) (x := a4) kc_10_0 rfl rfl ?_
                refine xi_iconst (pc' := 2) (v := 0) kc_10_1 rfl rfl ?_
                refine xi_iconst (pc' := 3) (v := 5) kc_10_2 rfl rfl ?_
                refine xi_static (mj := 11) (as := [.int a4, .int 0, .int 5]) (st1 := []) (lv0 := [(0, .int a4), (1, .int 0), (2, .int 5)]) kc_10_3 rfl rfl (Nat.le_of_ble_eq_true rfl) rfl rfl (Nat.le_of_ble_eq_true rfl) (hJ _ _ _ _ (by decide)) (xm_le ml_11 rfl) rfl ?_
                refine xi_iload_n (pc' := 1) (x := a4) kc_11_0 rfl rfl ?_
                refine xi_iload_n (pc' := 2) (x := 0) kc_11_1 rfl rfl ?_
                refine xi_cmf (pc' := 5) kc_11_2 rfl (xc_lt_f (X := a4.toInt) (Y := 0) rfl (by decide) (by omega)) ?_
                refine xi_iload_n (pc' := 6) (x := a4) kc_11_5 rfl rfl ?_
                refine xi_iload_n (pc' := 7) (x := 5) kc_11_6 rfl rfl ?_
                refine xi_cmf (pc' := 10) kc_11_7 rfl (xc_gt_f (X := a4.toInt) (Y := 5) rfl (by decide) (by omega)) ?_
                refine xi_iconst (pc' := 11) (v := 1) kc_11_10 rfl rfl ?_
                refine xi_goto (pc' := 15) kc_11_11 rfl ?_
                refine xi_ireturn kc_11_15 mr_11 rfl ?_
                show xw J ov 98 10 (6, [(0, .int a4)], [.int 1], hh231) _
                refine xi_ireturn kc_10_6 mr_10 rfl ?_
                show xw J ov 99 9 (9, [(0, .ref 115), (1, .int a4), (2, .int 0), (3, .int a8)], [.int 1], hh231) _
                refine xi_ift (pc' := 18) kc_9_9 rfl rfl ?_
                refine xi_iload_n (pc' := 19) (x := 0) kc_9_18 rfl rfl ?_
                refine xi_iconst (pc' := 20) (v := 0) kc_9_19 rfl rfl ?_
                refine xi_iconst (pc' := 21) (v := 5) kc_9_20 rfl rfl ?_
                refine xi_static (mj := 11) (as := [.int 0, .int 0, .int 5]) (st1 := []) (lv0 := [(0, .int 0), (1, .int 0), (2, .int 5)]) kc_9_21 rfl rfl (Nat.le_of_ble_eq_true rfl) rfl rfl (Nat.le_of_ble_eq_true rfl) (hJ _ _ _ _ (by decide)) (xm_le ml_11 rfl) rfl ?_
                refine xi_iload_n (pc' := 1) (x := 0) kc_11_0 rfl rfl ?_
                refine xi_iload_n (pc' := 2) (x := 0) kc_11_1 rfl rfl ?_
                refine xi_cmf (pc' := 5) kc_11_2 rfl rfl ?_
                refine xi_iload_n (pc' := 6) (x := 0) kc_11_5 rfl rfl ?_
                refine xi_iload_n (pc' := 7) (x := 5) kc_11_6 rfl rfl ?_
                refine xi_cmf (pc' := 10) kc_11_7 rfl rfl ?_
                refine xi_iconst (pc' := 11) (v := 1) kc_11_10 rfl rfl ?_
                refine xi_goto (pc' := 15) kc_11_11 rfl ?_
                refine xi_ireturn kc_11_15 mr_11 rfl ?_
                show xw J ov 99 9 (24, [(0, .ref 115), (1, .int a4), (2, .int 0), (3, .int a8)], [.int 1], hh231) _
                refine xi_ift (pc' := 34) kc_9_24 rfl rfl ?_
                refine xi_iload_n (pc' := 35) (x := a8) kc_9_34 rfl rfl ?_
                refine xi_iload_n (pc' := 36) (x := 0) kc_9_35 rfl rfl ?_
                refine xi_iff (pc' := 39) kc_9_36 rfl rfl ?_
                refine xi_bipush (pc' := 41) (v := 10) kc_9_39 rfl rfl ?_
                refine xi_goto (pc' := 45) kc_9_41 rfl ?_
                refine xi_cmt (pc' := 55) kc_9_45 rfl (xc_ge_t (X := a8.toInt) (Y := 10) rfl (by decide) (by omega)) ?_
                refine xi_iload_n (pc' := 56) (x := a8) kc_9_55 rfl rfl ?_
                refine xi_iload_n (pc' := 57) (x := 0) kc_9_56 rfl rfl ?_
                refine xi_iff (pc' := 60) kc_9_57 rfl rfl ?_
                refine xi_bipush (pc' := 62) (v := 99) kc_9_60 rfl rfl ?_
                refine xi_goto (pc' := 96) kc_9_62 rfl ?_
                refine xi_cmf (pc' := 99) kc_9_96 rfl (xc_le_f (X := a8.toInt) (Y := 99) rfl (by decide) (by omega)) ?_
                refine xi_aload_n (pc' := 100) (x := 115) kc_9_99 rfl rfl ?_
                refine xi_bipush (pc' := 102) (v := (-6)) kc_9_100 rfl rfl ?_
                refine xi_virtual (mj := 12) (as := [.int (-6)]) (st1 := []) (lv0 := [(0, .ref 115), (1, .int (-6))]) kc_9_102 rfl rfl rfl rfl rfl eh230.1 (Nat.le_of_ble_eq_true rfl) (hJ _ _ _ _ (by decide)) (xm_le ml_12 rfl) rfl ?_
                refine xi_aload_n (pc' := 1) (x := 115) kc_12_0 rfl rfl ?_
                refine xi_getfield (pc' := 4) (v := .ref 140) kc_12_1 rfl rfl rfl eh230.1 rfl ?_
                refine xi_iload_n (pc' := 5) (x := (-6)) kc_12_4 rfl rfl ?_
                refine xi_ineg (pc' := 6) (v := 6) kc_12_5 rfl rfl ?_
                refine xi_dup2 (pc' := 7) kc_12_6 rfl ⟨rfl, rfl⟩ ?_
                obtain ⟨y234, A234, hy234, ry234⟩ := xk_arr K.1 xD_140
                obtain ⟨v235, ev235, bv235, dv235⟩ := xj_get hy234 ry234 (i := 6) (by decide) (by decide)
                have A236 := ((eh230.2.1 140 (by decide)).trans ((eh212.2.1 140 (by decide)).trans A234))
                refine xi_iaload (pc' := 8) (v := v235) kc_12_7 rfl A236 (by decide) rfl (xi_in (by decide) (by rw [hy234]; decide)) ev235 ?_
                refine xi_iconst (pc' := 9) (v := 1) kc_12_8 rfl rfl ?_
                obtain ⟨v237, ev237⟩ : ∃ q : Int32, (v235 : Int32) + 1 = q := ⟨_, rfl⟩
                have rv237 := xc_rng v237
                refine xi_iadd (pc' := 10) (v := v237) kc_12_9 rfl ev237 ?_
                obtain ⟨y238, s238, hy238, ry238⟩ := xj_set (v := v237) hy234 ry234 6 (by first | omega | decide) (by first | omega | decide)
                refine xi_iastore (pc' := 11) (x' := y238) kc_12_10 rfl A236 rfl (xi_in (by decide) (by rw [hy234]; decide)) s238 (fun hh238 eh238 => ?_)
                have K239 := xk_pa K232 (xk_wa (by decide +kernel)) xD_140 hy238 ry238 eh238
                have KR240 := xk_pa KR233 (xk_wa (by decide +kernel)) xD_140 hy238 ry238 eh238
                refine xi_iload_n (pc' := 12) (x := (-6)) kc_12_11 rfl rfl ?_
                refine xi_ireturn kc_12_12 mr_12 rfl ?_
                show xw J ov 99 9 (105, [(0, .ref 115), (1, .int a4), (2, .int 0), (3, .int a8)], [.int (-6)], hh238) _
                refine xi_ireturn kc_9_105 mr_9 rfl ?_
                show xw J ov 100 195 (236, [(4, .int x4), (3, .ref 167), (2, .ref 115), (1, .ref 0), (0, .ref 1000000)], [.int (-6), .int (-6)], hh238) _
                refine xi_cmt (pc' := 1501) kc_195_236 rfl rfl ?_
                obtain ⟨v241, ev241⟩ : ∃ q : Int32, x4 + 6 = q := ⟨_, rfl⟩
                have zv241 : v241.toInt = (x4.toInt + 6) := by rw [← ev241]; exact (xz_add (X := x4.toInt) (Y := 6) rfl (by decide) (by omega) (by omega)).trans (by omega)
                refine xi_iinc (pc' := 1504) (x := x4) (v := v241) (lv' := [(4, .int v241), (3, .ref 167), (2, .ref 115), (1, .ref 0), (0, .ref 1000000)]) kc_195_1501 rfl rfl ev241 rfl (xm_lt ml_195 rfl) ?_
                refine xi_goto (pc' := 23) kc_195_1504 rfl ?_
                exact kk v241 hh238 (by omega) K239 (xI_kept I KR240.2.1)
            · refine xi_cmf (pc' := 38) kc_88_35 rfl (xc_ge_f (X := a8.toInt) (Y := 10) rfl (by decide) (by omega)) ?_
              refine xi_aload_n (pc' := 39) (x := 0) kc_88_38 rfl rfl ?_
              refine xi_bipush (pc' := 41) (v := (-4)) kc_88_39 rfl rfl ?_
              refine xi_virtual (mj := 90) (as := [.int (-4)]) (st1 := []) (lv0 := [(0, .ref 0), (1, .int (-4))]) kc_88_41 rfl rfl rfl rfl rfl A11 (Nat.le_of_ble_eq_true rfl) (hJ _ _ _ _ (by decide)) (xm_le ml_90 rfl) rfl ?_
              refine xi_iload_n (pc' := 1) (x := (-4)) kc_90_0 rfl rfl ?_
              refine xi_ineg (pc' := 2) (v := 4) kc_90_1 rfl rfl ?_
              refine xi_istore_n (pc' := 3) (lv' := [(2, .int 4), (0, .ref 0), (1, .int (-4))]) kc_90_2 rfl rfl (xm_lt ml_90 rfl) ?_
              refine xi_iload_n (pc' := 4) (x := 4) kc_90_3 rfl rfl ?_
              refine xi_iff (pc' := 7) kc_90_4 rfl rfl ?_
              refine xi_iload_n (pc' := 8) (x := 4) kc_90_7 rfl rfl ?_
              refine xi_aload_n (pc' := 9) (x := 0) kc_90_8 rfl rfl ?_
              refine xi_getfield (pc' := 12) (v := .ref 94) kc_90_9 rfl rfl rfl A11 rfl ?_
              obtain ⟨y242, A242, hy242, ry242⟩ := xk_arr K.1 xD_94
              refine xi_arraylength (pc' := 13) (n := 7) (v := 7) kc_90_12 rfl (xl_lenI (by decide) (by decide) A242 hy242) rfl ?_
              refine xi_cmf (pc' := 16) kc_90_13 rfl rfl ?_
              refine xi_aload_n (pc' := 17) (x := 0) kc_90_16 rfl rfl ?_
              refine xi_getfield (pc' := 20) (v := .ref 94) kc_90_17 rfl rfl rfl A11 rfl ?_
              refine xi_iload_n (pc' := 21) (x := 4) kc_90_20 rfl rfl ?_
              refine xi_dup2 (pc' := 22) kc_90_21 rfl ⟨rfl, rfl⟩ ?_
              obtain ⟨v243, ev243, bv243, dv243⟩ := xj_get hy242 ry242 (i := 4) (by decide) (by decide)
              refine xi_iaload (pc' := 23) (v := v243) kc_90_22 rfl A242 (by decide) rfl (xi_in (by decide) (by rw [hy242]; decide)) ev243 ?_
              refine xi_iconst (pc' := 24) (v := 1) kc_90_23 rfl rfl ?_
              obtain ⟨v244, ev244⟩ : ∃ q : Int32, (v243 : Int32) + 1 = q := ⟨_, rfl⟩
              have rv244 := xc_rng v244
              refine xi_iadd (pc' := 25) (v := v244) kc_90_24 rfl ev244 ?_
              obtain ⟨y245, s245, hy245, ry245⟩ := xj_set (v := v244) hy242 ry242 4 (by first | omega | decide) (by first | omega | decide)
              refine xi_iastore (pc' := 26) (x' := y245) kc_90_25 rfl A242 rfl (xi_in (by decide) (by rw [hy242]; decide)) s245 (fun hh245 eh245 => ?_)
              have K246 := xk_pa K (xk_wa (by decide +kernel)) xD_94 hy245 ry245 eh245
              have KR247 := xk_pa KR (xk_wa (by decide +kernel)) xD_94 hy245 ry245 eh245
              refine xi_iload_n (pc' := 27) (x := (-4)) kc_90_26 rfl rfl ?_
              refine xi_ireturn kc_90_27 mr_90 rfl ?_
              show xw J ov 99 88 (44, [(0, .ref 0), (1, .int a4), (2, .int 0), (3, .int a8)], [.int (-4)], hh245) _
              refine xi_ireturn kc_88_44 mr_88 rfl ?_
              show xw J ov 100 195 (214, [(4, .int x4), (3, .ref 167), (2, .ref 115), (1, .ref 0), (0, .ref 1000000)], [.int (-4)], hh245) _
              refine xi_aload_n (pc' := 215) (x := 115) kc_195_214 rfl rfl ?_
              refine xi_aload_n (pc' := 216) (x := 1000000) kc_195_215 rfl rfl ?_
              refine xi_iload (pc' := 218) (x := x4) kc_195_216 rfl rfl ?_
              refine xi_iconst (pc' := 219) (v := 1) kc_195_218 rfl rfl ?_
              refine xi_iadd (pc' := 220) (v := v3) kc_195_219 rfl ev3 ?_
              refine xi_ialoadO (pc' := 221) (v := a4) kc_195_220 rfl (by decide) hov0 (xi_in (by omega) (by omega)) ea4 ?_
              refine xi_aload_n (pc' := 222) (x := 1000000) kc_195_221 rfl rfl ?_
              refine xi_iload (pc' := 224) (x := x4) kc_195_222 rfl rfl ?_
              refine xi_iconst (pc' := 225) (v := 2) kc_195_224 rfl rfl ?_
              refine xi_iadd (pc' := 226) (v := v5) kc_195_225 rfl ev5 ?_
              refine xi_ialoadO (pc' := 227) (v := 0) kc_195_226 rfl (by decide) hov0 (xi_in (by omega) (by omega)) ea6 ?_
              refine xi_aload_n (pc' := 228) (x := 1000000) kc_195_227 rfl rfl ?_
              refine xi_iload (pc' := 230) (x := x4) kc_195_228 rfl rfl ?_
              refine xi_iconst (pc' := 231) (v := 3) kc_195_230 rfl rfl ?_
              refine xi_iadd (pc' := 232) (v := v7) kc_195_231 rfl ev7 ?_
              refine xi_ialoadO (pc' := 233) (v := a8) kc_195_232 rfl (by decide) hov0 (xi_in (by omega) (by omega)) ea8 ?_
              obtain ⟨u248, u249, u250, u251, u252, u253, u254, u255, u256, u257, u258, u259, u260, bu248, bu249, bu250, bu251, bu252, bu253, bu254, bu255, bu256, bu257, bu258, bu259, bu260, A261⟩ := xq_115 K.1
              have A262 := ((eh245.2.1 115 (by decide)).trans A261)
              refine xi_virtual (mj := 9) (as := [.int a4, .int 0, .int a8]) (st1 := [.int (-4)]) (lv0 := [(0, .ref 115), (1, .int a4), (2, .int 0), (3, .int a8)]) kc_195_233 rfl rfl rfl rfl rfl A262 (Nat.le_of_ble_eq_true rfl) (hJ _ _ _ _ (by decide)) (xm_le ml_9 rfl) rfl ?_
              refine xi_aload_n (pc' := 1) (x := 115) kc_9_0 rfl rfl ?_
              refine xi_iconst (pc' := 2) (v := 0) kc_9_1 rfl rfl ?_
              refine xi_putfield (pc' := 5) (fs' := [.int 0, .int u249, .ref 116, .ref 117, .ref 118, .ref 119, .ref 120, .ref 121, .ref 122, .ref 123, .ref 124, .ref 125, .ref 126, .ref 127, .ref 128, .ref 129, .int u250, .ref 130, .int u251, .ref 131, .ref 132, .ref 133, .ref 134, .int u252, .ref 135, .ref 136, .ref 137, .ref 138, .ref 139, .ref 140, .ref 141, .ref 142, .int u253, .int u254, .int u255, .ref 143, .ref 144, .ref 145, .ref 146, .ref 147, .ref 148, .int u256, .ref 149, .ref 150, .ref 151, .int u257, .ref 152, .ref 153, .ref 154, .ref 155, .ref 156, .ref 157, .ref 158, .ref 159, .int u258, .ref 160, .int u259, .ref 161, .ref 162, .ref 163, .ref 164, .int u260, .ref 165, .ref 166]) kc_9_2 rfl rfl rfl A262 rfl rfl rfl (Nat.le_of_ble_eq_true rfl) rfl (fun hh264 eh263 => ?_)
              have K265 := xk_pf (k := 0) (v := 0) K246 (xk_wf (by decide +kernel)) xD_115 A262 rfl (by first | omega | decide) (by first | omega | decide) eh263 rfl
              have KR266 := xk_pf (k := 0) (v := 0) KR247 (xk_wf (by decide +kernel)) xD_115 A262 rfl (by first | omega | decide) (by first | omega | decide) eh263 rfl
              refine xi_iload_n (pc' := 6) (x := a4) kc_9_5 rfl rfl ?_
              refine xi_static (mj := 10) (as := [.int a4]) (st1 := []) (lv0 := [(0, .int a4)]) kc_9_6 rfl rfl (Nat.le_of_ble_eq_true rfl) rfl rfl (Nat.le_of_ble_eq_true rfl) (hJ _ _ _ _ (by decide)) (xm_le ml_10 rfl) rfl ?_
              refine xi_iload_n (pc' := 1) (x := a4) kc_10_0 rfl rfl ?_
              refine xi_iconst (pc' := 2) (v := 0) kc_10_1 rfl rfl ?_
              refine xi_iconst (pc' := 3) (v := 5) kc_10_2 rfl rfl ?_
              refine xi_static (mj := 11) (as := [.int a4, .int 0, .int 5]) (st1 := []) (lv0 := [(0, .int a4), (1, .int 0), (2, .int 5)]) kc_10_3 rfl rfl (Nat.le_of_ble_eq_true rfl) rfl rfl (Nat.le_of_ble_eq_true rfl) (hJ _ _ _ _ (by decide)) (xm_le ml_11 rfl) rfl ?_
              refine xi_iload_n (pc' := 1) (x := a4) kc_11_0 rfl rfl ?_
              refine xi_iload_n (pc' := 2) (x := 0) kc_11_1 rfl rfl ?_
              refine xi_cmf (pc' := 5) kc_11_2 rfl (xc_lt_f (X := a4.toInt) (Y := 0) rfl (by decide) (by omega)) ?_
              refine xi_iload_n (pc' := 6) (x := a4) kc_11_5 rfl rfl ?_
              refine xi_iload_n (pc' := 7) (x := 5) kc_11_6 rfl rfl ?_
              refine xi_cmf (pc' := 10) kc_11_7 rfl (xc_gt_f (X := a4.toInt) (Y := 5) rfl (by decide) (by omega)) ?_
              refine xi_iconst (pc' := 11) (v := 1) kc_11_10 rfl rfl ?_
              refine xi_goto (pc' := 15) kc_11_11 rfl ?_
              refine xi_ireturn kc_11_15 mr_11 rfl ?_
              show xw J ov 98 10 (6, [(0, .int a4)], [.int 1], hh264) _
              refine xi_ireturn kc_10_6 mr_10 rfl ?_
              show xw J ov 99 9 (9, [(0, .ref 115), (1, .int a4), (2, .int 0), (3, .int a8)], [.int 1], hh264) _
              refine xi_ift (pc' := 18) kc_9_9 rfl rfl ?_
              refine xi_iload_n (pc' := 19) (x := 0) kc_9_18 rfl rfl ?_
              refine xi_iconst (pc' := 20) (v := 0) kc_9_19 rfl rfl ?_
              refine xi_iconst (pc' := 21) (v := 5) kc_9_20 rfl rfl ?_
              refine xi_static (mj := 11) (as := [.int 0, .int 0, .int 5]) (st1 := []) (lv0 := [(0, .int 0), (1, .int 0), (2, .int 5)]) kc_9_21 rfl rfl (Nat.le_of_ble_eq_true rfl) rfl rfl (Nat.le_of_ble_eq_true rfl) (hJ _ _ _ _ (by decide)) (xm_le ml_11 rfl) rfl ?_
              refine xi_iload_n (pc' := 1) (x := 0) kc_11_0 rfl rfl ?_
              refine xi_iload_n (pc' := 2) (x := 0) kc_11_1 rfl rfl ?_
              refine xi_cmf (pc' := 5) kc_11_2 rfl rfl ?_
              refine xi_iload_n (pc' := 6) (x := 0) kc_11_5 rfl rfl ?_
              refine xi_iload_n (pc' := 7) (x := 5) kc_11_6 rfl rfl ?_
              refine xi_cmf (pc' := 10) kc_11_7 rfl rfl ?_
              refine xi_iconst (pc' := 11) (v := 1) kc_11_10 rfl rfl ?_
              refine xi_goto (pc' := 15) kc_11_11 rfl ?_
              refine xi_ireturn kc_11_15 mr_11 rfl ?_
              show xw J ov 99 9 (24, [(0, .ref 115), (1, .int a4), (2, .int 0), (3, .int a8)], [.int 1], hh264) _
              refine xi_ift (pc' := 34) kc_9_24 rfl rfl ?_
              refine xi_iload_n (pc' := 35) (x := a8) kc_9_34 rfl rfl ?_
              refine xi_iload_n (pc' := 36) (x := 0) kc_9_35 rfl rfl ?_
              refine xi_iff (pc' := 39) kc_9_36 rfl rfl ?_
              refine xi_bipush (pc' := 41) (v := 10) kc_9_39 rfl rfl ?_
              refine xi_goto (pc' := 45) kc_9_41 rfl ?_
              refine xi_cmf (pc' := 48) kc_9_45 rfl (xc_ge_f (X := a8.toInt) (Y := 10) rfl (by decide) (by omega)) ?_
              refine xi_aload_n (pc' := 49) (x := 115) kc_9_48 rfl rfl ?_
              refine xi_bipush (pc' := 51) (v := (-4)) kc_9_49 rfl rfl ?_
              refine xi_virtual (mj := 12) (as := [.int (-4)]) (st1 := []) (lv0 := [(0, .ref 115), (1, .int (-4))]) kc_9_51 rfl rfl rfl rfl rfl eh263.1 (Nat.le_of_ble_eq_true rfl) (hJ _ _ _ _ (by decide)) (xm_le ml_12 rfl) rfl ?_
              refine xi_aload_n (pc' := 1) (x := 115) kc_12_0 rfl rfl ?_
              refine xi_getfield (pc' := 4) (v := .ref 140) kc_12_1 rfl rfl rfl eh263.1 rfl ?_
              refine xi_iload_n (pc' := 5) (x := (-4)) kc_12_4 rfl rfl ?_
              refine xi_ineg (pc' := 6) (v := 4) kc_12_5 rfl rfl ?_
              refine xi_dup2 (pc' := 7) kc_12_6 rfl ⟨rfl, rfl⟩ ?_
              obtain ⟨y267, A267, hy267, ry267⟩ := xk_arr K.1 xD_140
              obtain ⟨v268, ev268, bv268, dv268⟩ := xj_get hy267 ry267 (i := 4) (by decide) (by decide)
              have A269 := ((eh263.2.1 140 (by decide)).trans ((eh245.2.1 140 (by decide)).trans A267))
              refine xi_iaload (pc' := 8) (v := v268) kc_12_7 rfl A269 (by decide) rfl (xi_in (by decide) (by rw [hy267]; decide)) ev268 ?_
              refine xi_iconst (pc' := 9) (v := 1) kc_12_8 rfl rfl ?_
              obtain ⟨v270, ev270⟩ : ∃ q : Int32, (v268 : Int32) + 1 = q := ⟨_, rfl⟩
              have rv270 := xc_rng v270
              refine xi_iadd (pc' := 10) (v := v270) kc_12_9 rfl ev270 ?_
              obtain ⟨y271, s271, hy271, ry271⟩ := xj_set (v := v270) hy267 ry267 4 (by first | omega | decide) (by first | omega | decide)
              refine xi_iastore (pc' := 11) (x' := y271) kc_12_10 rfl A269 rfl (xi_in (by decide) (by rw [hy267]; decide)) s271 (fun hh271 eh271 => ?_)
              have K272 := xk_pa K265 (xk_wa (by decide +kernel)) xD_140 hy271 ry271 eh271
              have KR273 := xk_pa KR266 (xk_wa (by decide +kernel)) xD_140 hy271 ry271 eh271
              refine xi_iload_n (pc' := 12) (x := (-4)) kc_12_11 rfl rfl ?_
              refine xi_ireturn kc_12_12 mr_12 rfl ?_
              show xw J ov 99 9 (54, [(0, .ref 115), (1, .int a4), (2, .int 0), (3, .int a8)], [.int (-4)], hh271) _
              refine xi_ireturn kc_9_54 mr_9 rfl ?_
              show xw J ov 100 195 (236, [(4, .int x4), (3, .ref 167), (2, .ref 115), (1, .ref 0), (0, .ref 1000000)], [.int (-4), .int (-4)], hh271) _
              refine xi_cmt (pc' := 1501) kc_195_236 rfl rfl ?_
              obtain ⟨v274, ev274⟩ : ∃ q : Int32, x4 + 6 = q := ⟨_, rfl⟩
              have zv274 : v274.toInt = (x4.toInt + 6) := by rw [← ev274]; exact (xz_add (X := x4.toInt) (Y := 6) rfl (by decide) (by omega) (by omega)).trans (by omega)
              refine xi_iinc (pc' := 1504) (x := x4) (v := v274) (lv' := [(4, .int v274), (3, .ref 167), (2, .ref 115), (1, .ref 0), (0, .ref 1000000)]) kc_195_1501 rfl rfl ev274 rfl (xm_lt ml_195 rfl) ?_
              refine xi_goto (pc' := 23) kc_195_1504 rfl ?_
              exact kk v274 hh271 (by omega) K272 (xI_kept I KR273.2.1)
          by_cases c275 : a6.toInt = 1
          · have qa6 : a6 = 1 := xc_of (Eq.trans (by omega) (show (1 : Int) = (1 : Int32).toInt by decide))
            subst qa6
            refine xi_ialoadO (pc' := 35) (v := 0) kc_88_34 rfl (by decide) hov1 (xi_in (n := 6) (by decide) (by decide)) rfl ?_
            by_cases c276 : 0 ≤ a8.toInt
            · refine xi_cmt (pc' := 45) kc_88_35 rfl (xc_ge_t (X := a8.toInt) (Y := 0) rfl (by decide) (by omega)) ?_
              refine xi_iload_n (pc' := 46) (x := a8) kc_88_45 rfl rfl ?_
              refine xi_getstatic (pc' := 49) (j := 1000002) kc_88_46 rfl rfl ?_
              refine xi_iload_n (pc' := 50) (x := 1) kc_88_49 rfl rfl ?_
              refine xi_ialoadO (pc' := 51) (v := 30) kc_88_50 rfl (by decide) hov2 (xi_in (n := 6) (by decide) (by decide)) rfl ?_
              by_cases c277 : a8.toInt ≤ 30
              · refine xi_cmt (pc' := 61) kc_88_51 rfl (xc_le_t (X := a8.toInt) (Y := 30) rfl (by decide) (by omega)) ?_
                refine xi_iload_n (pc' := 62) (x := 1) kc_88_61 rfl rfl ?_
                refine xi_iconst (pc' := 63) (v := 5) kc_88_62 rfl rfl ?_
                refine xi_cmt (pc' := 90) kc_88_63 rfl rfl ?_
                refine xi_aload_n (pc' := 91) (x := 0) kc_88_90 rfl rfl ?_
                refine xi_getfield (pc' := 94) (v := .ref 66) kc_88_91 rfl rfl rfl A11 rfl ?_
                obtain ⟨u279, wl278, bu279, A280⟩ := xq_66 K.1
                refine xi_virtual (mj := 91) (as := []) (st1 := []) (lv0 := [(0, .ref 66)]) kc_88_94 rfl rfl rfl rfl rfl A280 (Nat.le_of_ble_eq_true rfl) (hJ _ _ _ _ (by decide)) (xm_le ml_91 rfl) rfl ?_
                refine xi_aload_n (pc' := 1) (x := 66) kc_91_0 rfl rfl ?_
                refine xi_lconst (pc' := 2) (v := 0) kc_91_1 rfl rfl ?_
                refine xi_putfield (pc' := 5) (fs' := [.ref 1, .ref 67, .ref 70, .ref 71, .ref 72, .ref 73, .ref 74, .long 0, .int u279]) kc_91_2 rfl rfl rfl A280 rfl rfl rfl (Nat.le_of_ble_eq_true rfl) rfl (fun hh282 eh281 => ?_)
                have K283 := xk_pl (k := 7) (v := 0) K (xk_wf (by decide +kernel)) xD_66 A280 rfl eh281 rfl
                have KR284 := xk_pl (k := 7) (v := 0) KR (xk_wf (by decide +kernel)) xD_66 A280 rfl eh281 rfl
                refine xi_return kc_91_5 mr_91 ?_
                show xw J ov 99 88 (97, [(0, .ref 0), (1, .int a4), (2, .int 1), (3, .int a8)], [], hh282) _
                refine xi_aload_n (pc' := 98) (x := 0) kc_88_97 rfl rfl ?_
                have A285 := ((eh281.2.1 0 (by decide)).trans A11)
                refine xi_getfield (pc' := 101) (v := .ref 1) kc_88_98 rfl rfl rfl A285 rfl ?_
                refine xi_iload_n (pc' := 102) (x := a4) kc_88_101 rfl rfl ?_
                refine xi_iload_n (pc' := 103) (x := 1) kc_88_102 rfl rfl ?_
                refine xi_iload_n (pc' := 104) (x := a8) kc_88_103 rfl rfl ?_
                obtain ⟨u286, u287, bu286, bu287, A288⟩ := xq_1 K.1
                have A289 := ((eh281.2.1 1 (by decide)).trans A288)
                refine xi_virtual (mj := 92) (as := [.int a4, .int 1, .int a8]) (st1 := []) (lv0 := [(0, .ref 1), (1, .int a4), (2, .int 1), (3, .int a8)]) kc_88_104 rfl rfl rfl rfl rfl A289 (Nat.le_of_ble_eq_true rfl) (hJ _ _ _ _ (by decide)) (xm_le ml_92 rfl) rfl ?_
                have F290 := xra_fr WWb (xl_c (eh281.2.1 121 (by decide)))
                have F291 := xg6_c I6 (fun c hc => eh281.2.1 c (Ne.symm (xk_nc hc rfl)))
                have F292 := xr5_c I5 (fun c hc => eh281.2.1 c (Ne.symm (xk_nc hc rfl)))
                have zc1 : (1 : Int32).toInt = 1 := by decide
                refine xw_chg hJ hov1 hov2 (d := 96) (x1 := a4) (x2 := 1) (x3 := a8) K283.1 F291 (by omega) (by omega) (fun r293 hh294 hr293 K295 I296 => ?_)
                have rr293 := xc_rng r293
                have nqr293 : Int32.toNatClampNeg 1 = 1 := by decide
                rw [nqr293] at hr293 I296
                have I2965 := xr5_k F292 K295 (by decide +kernel)
                have I296W := xra_fr F290 (K295.2.1 (121, 0) (by decide +kernel))
                have A297 := ((eh281.2.1 64 (by decide)).trans A1)
                have K298 := xk_tr K283 K295 (xsb_ok _ _ (by decide +kernel))
                have A299 := xk_eqa (q := 0) K295 (by decide +kernel) A297
                obtain ⟨u300, u301, bu300, bu301, A302⟩ := xq_0 K298.1
                have e303 : u10 = u301 := xk_eqi (q := 9) K295 (by decide +kernel) A285 A302 rfl rfl
                subst e303
                have e304 : u9 = u300 := xk_eqi (q := 8) K295 (by decide +kernel) A285 A302 rfl rfl
                subst e304
                obtain ⟨u305, u306, bu305, bu306, A307⟩ := xq_1 K298.1
                have e308 : u286 = u305 := xk_eqi (q := 5) K295 (by decide +kernel) A289 A307 rfl rfl
                subst e308
                show xw J ov 99 88 (107, [(0, .ref 0), (1, .int a4), (2, .int 1), (3, .int a8)], [.int r293], hh294) _
                refine xi_ireturn kc_88_107 mr_88 rfl ?_
                show xw J ov 100 195 (214, [(4, .int x4), (3, .ref 167), (2, .ref 115), (1, .ref 0), (0, .ref 1000000)], [.int r293], hh294) _
                refine xi_aload_n (pc' := 215) (x := 115) kc_195_214 rfl rfl ?_
                refine xi_aload_n (pc' := 216) (x := 1000000) kc_195_215 rfl rfl ?_
                refine xi_iload (pc' := 218) (x := x4) kc_195_216 rfl rfl ?_
                refine xi_iconst (pc' := 219) (v := 1) kc_195_218 rfl rfl ?_
                refine xi_iadd (pc' := 220) (v := v3) kc_195_219 rfl ev3 ?_
                refine xi_ialoadO (pc' := 221) (v := a4) kc_195_220 rfl (by decide) hov0 (xi_in (by omega) (by omega)) ea4 ?_
                refine xi_aload_n (pc' := 222) (x := 1000000) kc_195_221 rfl rfl ?_
                refine xi_iload (pc' := 224) (x := x4) kc_195_222 rfl rfl ?_
                refine xi_iconst (pc' := 225) (v := 2) kc_195_224 rfl rfl ?_
                refine xi_iadd (pc' := 226) (v := v5) kc_195_225 rfl ev5 ?_
                refine xi_ialoadO (pc' := 227) (v := 1) kc_195_226 rfl (by decide) hov0 (xi_in (by omega) (by omega)) ea6 ?_
                refine xi_aload_n (pc' := 228) (x := 1000000) kc_195_227 rfl rfl ?_
                refine xi_iload (pc' := 230) (x := x4) kc_195_228 rfl rfl ?_
                refine xi_iconst (pc' := 231) (v := 3) kc_195_230 rfl rfl ?_
                refine xi_iadd (pc' := 232) (v := v7) kc_195_231 rfl ev7 ?_
                refine xi_ialoadO (pc' := 233) (v := a8) kc_195_232 rfl (by decide) hov0 (xi_in (by omega) (by omega)) ea8 ?_
                obtain ⟨u309, u310, u311, u312, u313, u314, u315, u316, u317, u318, u319, u320, u321, bu309, bu310, bu311, bu312, bu313, bu314, bu315, bu316, bu317, bu318, bu319, bu320, bu321, A322⟩ := xq_115 K298.1
                refine xi_virtual (mj := 9) (as := [.int a4, .int 1, .int a8]) (st1 := [.int r293]) (lv0 := [(0, .ref 115), (1, .int a4), (2, .int 1), (3, .int a8)]) kc_195_233 rfl rfl rfl rfl rfl A322 (Nat.le_of_ble_eq_true rfl) (hJ _ _ _ _ (by decide)) (xm_le ml_9 rfl) rfl ?_
                refine xi_aload_n (pc' := 1) (x := 115) kc_9_0 rfl rfl ?_
                refine xi_iconst (pc' := 2) (v := 0) kc_9_1 rfl rfl ?_
                refine xi_putfield (pc' := 5) (fs' := [.int 0, .int u310, .ref 116, .ref 117, .ref 118, .ref 119, .ref 120, .ref 121, .ref 122, .ref 123, .ref 124, .ref 125, .ref 126, .ref 127, .ref 128, .ref 129, .int u311, .ref 130, .int u312, .ref 131, .ref 132, .ref 133, .ref 134, .int u313, .ref 135, .ref 136, .ref 137, .ref 138, .ref 139, .ref 140, .ref 141, .ref 142, .int u314, .int u315, .int u316, .ref 143, .ref 144, .ref 145, .ref 146, .ref 147, .ref 148, .int u317, .ref 149, .ref 150, .ref 151, .int u318, .ref 152, .ref 153, .ref 154, .ref 155, .ref 156, .ref 157, .ref 158, .ref 159, .int u319, .ref 160, .int u320, .ref 161, .ref 162, .ref 163, .ref 164, .int u321, .ref 165, .ref 166]) kc_9_2 rfl rfl rfl A322 rfl rfl rfl (Nat.le_of_ble_eq_true rfl) rfl (fun hh324 eh323 => ?_)
                have K325 := xk_pf (k := 0) (v := 0) K298 (xk_wf (by decide +kernel)) xD_115 A322 rfl (by first | omega | decide) (by first | omega | decide) eh323 rfl
                refine xi_iload_n (pc' := 6) (x := a4) kc_9_5 rfl rfl ?_
                refine xi_static (mj := 10) (as := [.int a4]) (st1 := []) (lv0 := [(0, .int a4)]) kc_9_6 rfl rfl (Nat.le_of_ble_eq_true rfl) rfl rfl (Nat.le_of_ble_eq_true rfl) (hJ _ _ _ _ (by decide)) (xm_le ml_10 rfl) rfl ?_
                refine xi_iload_n (pc' := 1) (x := a4) kc_10_0 rfl rfl ?_
                refine xi_iconst (pc' := 2) (v := 0) kc_10_1 rfl rfl ?_
                refine xi_iconst (pc' := 3) (v := 5) kc_10_2 rfl rfl ?_
                refine xi_static (mj := 11) (as := [.int a4, .int 0, .int 5]) (st1 := []) (lv0 := [(0, .int a4), (1, .int 0), (2, .int 5)]) kc_10_3 rfl rfl (Nat.le_of_ble_eq_true rfl) rfl rfl (Nat.le_of_ble_eq_true rfl) (hJ _ _ _ _ (by decide)) (xm_le ml_11 rfl) rfl ?_
                refine xi_iload_n (pc' := 1) (x := a4) kc_11_0 rfl rfl ?_
                refine xi_iload_n (pc' := 2) (x := 0) kc_11_1 rfl rfl ?_
                refine xi_cmf (pc' := 5) kc_11_2 rfl (xc_lt_f (X := a4.toInt) (Y := 0) rfl (by decide) (by omega)) ?_
                refine xi_iload_n (pc' := 6) (x := a4) kc_11_5 rfl rfl ?_
                refine xi_iload_n (pc' := 7) (x := 5) kc_11_6 rfl rfl ?_
                refine xi_cmf (pc' := 10) kc_11_7 rfl (xc_gt_f (X := a4.toInt) (Y := 5) rfl (by decide) (by omega)) ?_
                refine xi_iconst (pc' := 11) (v := 1) kc_11_10 rfl rfl ?_
                refine xi_goto (pc' := 15) kc_11_11 rfl ?_
                refine xi_ireturn kc_11_15 mr_11 rfl ?_
                show xw J ov 98 10 (6, [(0, .int a4)], [.int 1], hh324) _
                refine xi_ireturn kc_10_6 mr_10 rfl ?_
                show xw J ov 99 9 (9, [(0, .ref 115), (1, .int a4), (2, .int 1), (3, .int a8)], [.int 1], hh324) _
                refine xi_ift (pc' := 18) kc_9_9 rfl rfl ?_
                refine xi_iload_n (pc' := 19) (x := 1) kc_9_18 rfl rfl ?_
                refine xi_iconst (pc' := 20) (v := 0) kc_9_19 rfl rfl ?_
                refine xi_iconst (pc' := 21) (v := 5) kc_9_20 rfl rfl ?_
                refine xi_static (mj := 11) (as := [.int 1, .int 0, .int 5]) (st1 := []) (lv0 := [(0, .int 1), (1, .int 0), (2, .int 5)]) kc_9_21 rfl rfl (Nat.le_of_ble_eq_true rfl) rfl rfl (Nat.le_of_ble_eq_true rfl) (hJ _ _ _ _ (by decide)) (xm_le ml_11 rfl) rfl ?_
                refine xi_iload_n (pc' := 1) (x := 1) kc_11_0 rfl rfl ?_
                refine xi_iload_n (pc' := 2) (x := 0) kc_11_1 rfl rfl ?_
                refine xi_cmf (pc' := 5) kc_11_2 rfl rfl ?_
                refine xi_iload_n (pc' := 6) (x := 1) kc_11_5 rfl rfl ?_
                refine xi_iload_n (pc' := 7) (x := 5) kc_11_6 rfl rfl ?_
                refine xi_cmf (pc' := 10) kc_11_7 rfl rfl ?_
                refine xi_iconst (pc' := 11) (v := 1) kc_11_10 rfl rfl ?_
                refine xi_goto (pc' := 15) kc_11_11 rfl ?_
                refine xi_ireturn kc_11_15 mr_11 rfl ?_
                show xw J ov 99 9 (24, [(0, .ref 115), (1, .int a4), (2, .int 1), (3, .int a8)], [.int 1], hh324) _
                refine xi_ift (pc' := 34) kc_9_24 rfl rfl ?_
                refine xi_iload_n (pc' := 35) (x := a8) kc_9_34 rfl rfl ?_
                refine xi_iload_n (pc' := 36) (x := 1) kc_9_35 rfl rfl ?_
                refine xi_ift (pc' := 44) kc_9_36 rfl rfl ?_
                refine xi_iconst (pc' := 45) (v := 0) kc_9_44 rfl rfl ?_
                refine xi_cmt (pc' := 55) kc_9_45 rfl (xc_ge_t (X := a8.toInt) (Y := 0) rfl (by decide) (by omega)) ?_
                refine xi_iload_n (pc' := 56) (x := a8) kc_9_55 rfl rfl ?_
                refine xi_iload_n (pc' := 57) (x := 1) kc_9_56 rfl rfl ?_
                refine xi_ift (pc' := 65) kc_9_57 rfl rfl ?_
                refine xi_iload_n (pc' := 66) (x := 1) kc_9_65 rfl rfl ?_
                refine xi_iconst (pc' := 67) (v := 1) kc_9_66 rfl rfl ?_
                refine xi_cmf (pc' := 70) kc_9_67 rfl rfl ?_
                refine xi_bipush (pc' := 72) (v := 30) kc_9_70 rfl rfl ?_
                refine xi_goto (pc' := 96) kc_9_72 rfl ?_
                refine xi_cmt (pc' := 106) kc_9_96 rfl (xc_le_t (X := a8.toInt) (Y := 30) rfl (by decide) (by omega)) ?_
                refine xi_aload_n (pc' := 107) (x := 115) kc_9_106 rfl rfl ?_
                refine xi_iload_n (pc' := 108) (x := a4) kc_9_107 rfl rfl ?_
                refine xi_iload_n (pc' := 109) (x := 1) kc_9_108 rfl rfl ?_
                refine xi_virtual (mj := 13) (as := [.int a4, .int 1]) (st1 := []) (lv0 := [(0, .ref 115), (1, .int a4), (2, .int 1)]) kc_9_109 rfl rfl rfl rfl rfl eh323.1 (Nat.le_of_ble_eq_true rfl) (hJ _ _ _ _ (by decide)) (xm_le ml_13 rfl) rfl ?_
                have F326 := xg6_c I296 (fun c hc => eh323.2.1 c (Ne.symm (xk_nc hc rfl)))
                have F327 := xr5_c I2965 (fun c hc => eh323.2.1 c (Ne.symm (xk_nc hc rfl)))
                have F328 := xra_fr I296W (xl_c (eh323.2.1 121 (by decide)))
                have zc1 : (1 : Int32).toInt = 1 := by decide
                refine xw_rn hJ hov1 hov2 (d := 97) (x1 := a4) (x2 := 1) K325.1 F327 (by omega) (by omega) (fun r329 hr329 => ?_)
                have rr329 := xc_rng r329
                have nqr329 : Int32.toNatClampNeg 1 = 1 := by decide
                rw [nqr329] at hr329
                show xw J ov 99 9 (112, [(0, .ref 115), (1, .int a4), (2, .int 1), (3, .int a8)], [.int r329], hh324) _
                refine xi_istore (pc' := 114) (lv' := [(4, .int r329), (0, .ref 115), (1, .int a4), (2, .int 1), (3, .int a8)]) kc_9_112 rfl rfl (xm_lt ml_9 rfl) ?_
                refine xi_aload_n (pc' := 115) (x := 115) kc_9_114 rfl rfl ?_
                refine xi_iload_n (pc' := 116) (x := a4) kc_9_115 rfl rfl ?_
                refine xi_iload_n (pc' := 117) (x := 1) kc_9_116 rfl rfl ?_
                refine xi_iload_n (pc' := 118) (x := a8) kc_9_117 rfl rfl ?_
                refine xi_virtual (mj := 14) (as := [.int a4, .int 1, .int a8]) (st1 := []) (lv0 := [(0, .ref 115), (1, .int a4), (2, .int 1), (3, .int a8)]) kc_9_118 rfl rfl rfl rfl rfl eh323.1 (Nat.le_of_ble_eq_true rfl) (hJ _ _ _ _ (by decide)) (xm_le ml_14 rfl) rfl ?_
                refine xw_te1 hJ hov1 hov2 (d := 97) (x1 := a4) (x3 := a8) K325.1 F327 F328 (by omega) (by omega) (fun hh330 K331 F332 F333 => ?_)
                have F334 := xg6_k F326 K331 (by decide +kernel)
                have A335 := ((eh323.2.1 64 (by decide)).trans A299)
                have A336 := ((eh323.2.1 0 (by decide)).trans A302)
                have A337 := ((eh323.2.1 1 (by decide)).trans A307)
                have K338 := xk_tr K325 K331 (xsb_ok _ _ (by decide +kernel))
                have A339 := xk_eqa (q := 0) K331 (by decide +kernel) A335
                obtain ⟨u340, u341, bu340, bu341, A342⟩ := xq_0 K338.1
                have e343 : u10 = u341 := xk_eqi (q := 9) K331 (by decide +kernel) A336 A342 rfl rfl
                subst e343
                have e344 : u9 = u340 := xk_eqi (q := 8) K331 (by decide +kernel) A336 A342 rfl rfl
                subst e344
                obtain ⟨u345, u346, bu345, bu346, A347⟩ := xq_1 K338.1
                have e348 : u286 = u345 := xk_eqi (q := 5) K331 (by decide +kernel) A337 A347 rfl rfl
                subst e348
                obtain ⟨u349, u350, u351, u352, u353, u354, u355, u356, u357, u358, u359, u360, u361, bu349, bu350, bu351, bu352, bu353, bu354, bu355, bu356, bu357, bu358, bu359, bu360, bu361, A362⟩ := xq_115 K338.1
                have e363 : u310 = u350 := xk_eqi (q := 1) K331 (by decide +kernel) eh323.1 A362 rfl rfl
                subst e363
                have e364 : u313 = u353 := xk_eqi (q := 23) K331 (by decide +kernel) eh323.1 A362 rfl rfl
                subst e364
                have e365 : u316 = u356 := xk_eqi (q := 34) K331 (by decide +kernel) eh323.1 A362 rfl rfl
                subst e365
                have e366 : u314 = u354 := xk_eqi (q := 32) K331 (by decide +kernel) eh323.1 A362 rfl rfl
                subst e366
                show xw J ov 99 9 (121, [(4, .int r329), (0, .ref 115), (1, .int a4), (2, .int 1), (3, .int a8)], [], hh330) _
                refine xi_iload (pc' := 123) (x := r329) kc_9_121 rfl rfl ?_
                refine xi_ireturn kc_9_123 mr_9 rfl ?_
                show xw J ov 100 195 (236, [(4, .int x4), (3, .ref 167), (2, .ref 115), (1, .ref 0), (0, .ref 1000000)], [.int r329, .int r293], hh330) _
                by_cases c367 : r293.toInt = r329.toInt
                · refine xi_cmt (pc' := 1501) kc_195_236 rfl (xc_eq_t (X := r293.toInt) (Y := r329.toInt) rfl rfl (by omega)) ?_
                  obtain ⟨v368, ev368⟩ : ∃ q : Int32, x4 + 6 = q := ⟨_, rfl⟩
                  have zv368 : v368.toInt = (x4.toInt + 6) := by rw [← ev368]; exact (xz_add (X := x4.toInt) (Y := 6) rfl (by decide) (by omega) (by omega)).trans (by omega)
                  refine xi_iinc (pc' := 1504) (x := x4) (v := v368) (lv' := [(4, .int v368), (3, .ref 167), (2, .ref 115), (1, .ref 0), (0, .ref 1000000)]) kc_195_1501 rfl rfl ev368 rfl (xm_lt ml_195 rfl) ?_
                  refine xi_goto (pc' := 23) kc_195_1504 rfl ?_
                  exact kk v368 hh330 (by omega) K338 ⟨((K338.2.1 (0, 9) (by decide +kernel)).trans (I.1.trans (K338.2.1 (115, 1) (by decide +kernel)).symm)), ⟨w, xra_mk A339 R2, F333, WWr⟩, ⟨_, F334, F332⟩, (by rw [(K338.2.1 (13, 0) (by decide +kernel)), (K338.2.1 (122, 0) (by decide +kernel))]; exact I.2.2.2.1), (by rw [(K338.2.1 (16, 0) (by decide +kernel)), (K338.2.1 (122, 0) (by decide +kernel))]; exact I.2.2.2.2.1), (by rw [(K338.2.1 (19, 0) (by decide +kernel)), (K338.2.1 (122, 0) (by decide +kernel))]; exact I.2.2.2.2.2.1), (by rw [(K338.2.1 (22, 0) (by decide +kernel)), (K338.2.1 (122, 0) (by decide +kernel))]; exact I.2.2.2.2.2.2.1), (by rw [(K338.2.1 (25, 0) (by decide +kernel)), (K338.2.1 (122, 0) (by decide +kernel))]; exact I.2.2.2.2.2.2.2.1), (by rw [(K338.2.1 (28, 0) (by decide +kernel)), (K338.2.1 (122, 0) (by decide +kernel))]; exact I.2.2.2.2.2.2.2.2.1), (by rw [(K338.2.1 (6, 0) (by decide +kernel)), (K338.2.1 (123, 0) (by decide +kernel))]; exact I.2.2.2.2.2.2.2.2.2.1), (by rw [(K338.2.1 (9, 0) (by decide +kernel)), (K338.2.1 (124, 0) (by decide +kernel))]; exact I.2.2.2.2.2.2.2.2.2.2.1), (by rw [(K338.2.1 (7, 0) (by decide +kernel)), (K338.2.1 (6, 0) (by decide +kernel))]; exact I.2.2.2.2.2.2.2.2.2.2.2.1), (by rw [(K338.2.1 (10, 0) (by decide +kernel)), (K338.2.1 (9, 0) (by decide +kernel))]; exact I.2.2.2.2.2.2.2.2.2.2.2.2.1), ((K338.2.1 (5, 0) (by decide +kernel)).trans I.2.2.2.2.2.2.2.2.2.2.2.2.2.1), ((K338.2.1 (8, 0) (by decide +kernel)).trans I.2.2.2.2.2.2.2.2.2.2.2.2.2.2.1), (xGR_fr I.2.2.2.2.2.2.2.2.2.2.2.2.2.2.2.1 K338.2.1 (by decide +kernel) (by decide +kernel)), (xGR_fr I.2.2.2.2.2.2.2.2.2.2.2.2.2.2.2.2.1 K338.2.1 (by decide +kernel) (by decide +kernel)), ((K338.2.1 (1, 5) (by decide +kernel)).trans (I.2.2.2.2.2.2.2.2.2.2.2.2.2.2.2.2.2.1.trans (K338.2.1 (115, 23) (by decide +kernel)).symm)), (xGR_fr I.2.2.2.2.2.2.2.2.2.2.2.2.2.2.2.2.2.2.1 K338.2.1 (by decide +kernel) (by decide +kernel)), (xGR_fr I.2.2.2.2.2.2.2.2.2.2.2.2.2.2.2.2.2.2.2.1 K338.2.1 (by decide +kernel) (by decide +kernel)), (xGR_fr I.2.2.2.2.2.2.2.2.2.2.2.2.2.2.2.2.2.2.2.2.1 K338.2.1 (by decide +kernel) (by decide +kernel)), (xGR_fr I.2.2.2.2.2.2.2.2.2.2.2.2.2.2.2.2.2.2.2.2.2.1 K338.2.1 (by decide +kernel) (by decide +kernel)), (by rw [(K338.2.1 (63, 2) (by decide +kernel)), (K338.2.1 (139, 0) (by decide +kernel)), (K338.2.1 (1, 5) (by decide +kernel))]; exact I.2.2.2.2.2.2.2.2.2.2.2.2.2.2.2.2.2.2.2.2.2.2.1), ((K338.2.1 (0, 8) (by decide +kernel)).trans (I.2.2.2.2.2.2.2.2.2.2.2.2.2.2.2.2.2.2.2.2.2.2.2.1.trans (K338.2.1 (115, 34) (by decide +kernel)).symm)), (xGR_fr I.2.2.2.2.2.2.2.2.2.2.2.2.2.2.2.2.2.2.2.2.2.2.2.2.1 K338.2.1 (by decide +kernel) (by decide +kernel)), (xGR_fr I.2.2.2.2.2.2.2.2.2.2.2.2.2.2.2.2.2.2.2.2.2.2.2.2.2.1 K338.2.1 (by decide +kernel) (by decide +kernel)), (xGR_fr I.2.2.2.2.2.2.2.2.2.2.2.2.2.2.2.2.2.2.2.2.2.2.2.2.2.2.1 K338.2.1 (by decide +kernel) (by decide +kernel)), (xGR_fr I.2.2.2.2.2.2.2.2.2.2.2.2.2.2.2.2.2.2.2.2.2.2.2.2.2.2.2.1 K338.2.1 (by decide +kernel) (by decide +kernel)), (xts_fr I.2.2.2.2.2.2.2.2.2.2.2.2.2.2.2.2.2.2.2.2.2.2.2.2.2.2.2.2.1 (fun l hl => K338.2.1 l (xk_el (by decide +kernel) hl))), ((K338.2.1 (63, 3) (by decide +kernel)).trans I.2.2.2.2.2.2.2.2.2.2.2.2.2.2.2.2.2.2.2.2.2.2.2.2.2.2.2.2.2)⟩
                · refine xi_cmf (pc' := 239) kc_195_236 rfl (xc_eq_f (X := r293.toInt) (Y := r329.toInt) rfl rfl (by omega)) ?_
                  refine xi_iconst (pc' := 240) (v := 0) kc_195_239 rfl rfl ?_
                  refine xi_ireturn kc_195_240 mr_195 rfl ?_
                  exfalso; omega
              · refine xi_cmf (pc' := 54) kc_88_51 rfl (xc_le_f (X := a8.toInt) (Y := 30) rfl (by decide) (by omega)) ?_
                refine xi_aload_n (pc' := 55) (x := 0) kc_88_54 rfl rfl ?_
                refine xi_bipush (pc' := 57) (v := (-6)) kc_88_55 rfl rfl ?_
                refine xi_virtual (mj := 90) (as := [.int (-6)]) (st1 := []) (lv0 := [(0, .ref 0), (1, .int (-6))]) kc_88_57 rfl rfl rfl rfl rfl A11 (Nat.le_of_ble_eq_true rfl) (hJ _ _ _ _ (by decide)) (xm_le ml_90 rfl) rfl ?_
                refine xi_iload_n (pc' := 1) (x := (-6)) kc_90_0 rfl rfl ?_
                refine xi_ineg (pc' := 2) (v := 6) kc_90_1 rfl rfl ?_
                refine xi_istore_n (pc' := 3) (lv' := [(2, .int 6), (0, .ref 0), (1, .int (-6))]) kc_90_2 rfl rfl (xm_lt ml_90 rfl) ?_
                refine xi_iload_n (pc' := 4) (x := 6) kc_90_3 rfl rfl ?_
                refine xi_iff (pc' := 7) kc_90_4 rfl rfl ?_
                refine xi_iload_n (pc' := 8) (x := 6) kc_90_7 rfl rfl ?_
                refine xi_aload_n (pc' := 9) (x := 0) kc_90_8 rfl rfl ?_
                refine xi_getfield (pc' := 12) (v := .ref 94) kc_90_9 rfl rfl rfl A11 rfl ?_
                obtain ⟨y369, A369, hy369, ry369⟩ := xk_arr K.1 xD_94
                refine xi_arraylength (pc' := 13) (n := 7) (v := 7) kc_90_12 rfl (xl_lenI (by decide) (by decide) A369 hy369) rfl ?_
                refine xi_cmf (pc' := 16) kc_90_13 rfl rfl ?_
                refine xi_aload_n (pc' := 17) (x := 0) kc_90_16 rfl rfl ?_
                refine xi_getfield (pc' := 20) (v := .ref 94) kc_90_17 rfl rfl rfl A11 rfl ?_
                refine xi_iload_n (pc' := 21) (x := 6) kc_90_20 rfl rfl ?_
                refine xi_dup2 (pc' := 22) kc_90_21 rfl ⟨rfl, rfl⟩ ?_
                obtain ⟨v370, ev370, bv370, dv370⟩ := xj_get hy369 ry369 (i := 6) (by decide) (by decide)
                refine xi_iaload (pc' := 23) (v := v370) kc_90_22 rfl A369 (by decide) rfl (xi_in (by decide) (by rw [hy369]; decide)) ev370 ?_
                refine xi_iconst (pc' := 24) (v := 1) kc_90_23 rfl rfl ?_
                obtain ⟨v371, ev371⟩ : ∃ q : Int32, (v370 : Int32) + 1 = q := ⟨_, rfl⟩
                have rv371 := xc_rng v371
                refine xi_iadd (pc' := 25) (v := v371) kc_90_24 rfl ev371 ?_
                obtain ⟨y372, s372, hy372, ry372⟩ := xj_set (v := v371) hy369 ry369 6 (by first | omega | decide) (by first | omega | decide)
                refine xi_iastore (pc' := 26) (x' := y372) kc_90_25 rfl A369 rfl (xi_in (by decide) (by rw [hy369]; decide)) s372 (fun hh372 eh372 => ?_)
                have K373 := xk_pa K (xk_wa (by decide +kernel)) xD_94 hy372 ry372 eh372
                have KR374 := xk_pa KR (xk_wa (by decide +kernel)) xD_94 hy372 ry372 eh372
                refine xi_iload_n (pc' := 27) (x := (-6)) kc_90_26 rfl rfl ?_
                refine xi_ireturn kc_90_27 mr_90 rfl ?_
                show xw J ov 99 88 (60, [(0, .ref 0), (1, .int a4), (2, .int 1), (3, .int a8)], [.int (-6)], hh372) _
                refine xi_ireturn kc_88_60 mr_88 rfl ?_
                show xw J ov 100 195 (214, [(4, .int x4), (3, .ref 167), (2, .ref 115), (1, .ref 0), (0, .ref 1000000)], [.int (-6)], hh372) _
                refine xi_aload_n (pc' := 215) (x := 115) kc_195_214 rfl rfl ?_
                refine xi_aload_n (pc' := 216) (x := 1000000) kc_195_215 rfl rfl ?_
                refine xi_iload (pc' := 218) (x := x4) kc_195_216 rfl rfl ?_
                refine xi_iconst (pc' := 219) (v := 1) kc_195_218 rfl rfl ?_
                refine xi_iadd (pc' := 220) (v := v3) kc_195_219 rfl ev3 ?_
                refine xi_ialoadO (pc' := 221) (v := a4) kc_195_220 rfl (by decide) hov0 (xi_in (by omega) (by omega)) ea4 ?_
                refine xi_aload_n (pc' := 222) (x := 1000000) kc_195_221 rfl rfl ?_
                refine xi_iload (pc' := 224) (x := x4) kc_195_222 rfl rfl ?_
                refine xi_iconst (pc' := 225) (v := 2) kc_195_224 rfl rfl ?_
                refine xi_iadd (pc' := 226) (v := v5) kc_195_225 rfl ev5 ?_
                refine xi_ialoadO (pc' := 227) (v := 1) kc_195_226 rfl (by decide) hov0 (xi_in (by omega) (by omega)) ea6 ?_
                refine xi_aload_n (pc' := 228) (x := 1000000) kc_195_227 rfl rfl ?_
                refine xi_iload (pc' := 230) (x := x4) kc_195_228 rfl rfl ?_
                refine xi_iconst (pc' := 231) (v := 3) kc_195_230 rfl rfl ?_
                refine xi_iadd (pc' := 232) (v := v7) kc_195_231 rfl ev7 ?_
                refine xi_ialoadO (pc' := 233) (v := a8) kc_195_232 rfl (by decide) hov0 (xi_in (by omega) (by omega)) ea8 ?_
                obtain ⟨u375, u376, u377, u378, u379, u380, u381, u382, u383, u384, u385, u386, u387, bu375, bu376, bu377, bu378, bu379, bu380, bu381, bu382, bu383, bu384, bu385, bu386, bu387, A388⟩ := xq_115 K.1
                have A389 := ((eh372.2.1 115 (by decide)).trans A388)
                refine xi_virtual (mj := 9) (as := [.int a4, .int 1, .int a8]) (st1 := [.int (-6)]) (lv0 := [(0, .ref 115), (1, .int a4), (2, .int 1), (3, .int a8)]) kc_195_233 rfl rfl rfl rfl rfl A389 (Nat.le_of_ble_eq_true rfl) (hJ _ _ _ _ (by decide)) (xm_le ml_9 rfl) rfl ?_
                refine xi_aload_n (pc' := 1) (x := 115) kc_9_0 rfl rfl ?_
                refine xi_iconst (pc' := 2) (v := 0) kc_9_1 rfl rfl ?_
                refine xi_putfield (pc' := 5) (fs' := [.int 0, .int u376, .ref 116, .ref 117, .ref 118, .ref 119, .ref 120, .ref 121, .ref 122, .ref 123, .ref 124, .ref 125, .ref 126, .ref 127, .ref 128, .ref 129, .int u377, .ref 130, .int u378, .ref 131, .ref 132, .ref 133, .ref 134, .int u379, .ref 135, .ref 136, .ref 137, .ref 138, .ref 139, .ref 140, .ref 141, .ref 142, .int u380, .int u381, .int u382, .ref 143, .ref 144, .ref 145, .ref 146, .ref 147, .ref 148, .int u383, .ref 149, .ref 150, .ref 151, .int u384, .ref 152, .ref 153, .ref 154, .ref 155, .ref 156, .ref 157, .ref 158, .ref 159, .int u385, .ref 160, .int u386, .ref 161, .ref 162, .ref 163, .ref 164, .int u387, .ref 165, .ref 166]) kc_9_2 rfl rfl rfl A389 rfl rfl rfl (Nat.le_of_ble_eq_true rfl) rfl (fun hh391 eh390 => ?_)
                have K392 := xk_pf (k := 0) (v := 0) K373 (xk_wf (by decide +kernel)) xD_115 A389 rfl (by first | omega | decide) (by first | omega | decide) eh390 rfl
                have KR393 := xk_pf (k := 0) (v := 0) KR374 (xk_wf (by decide +kernel)) xD_115 A389 rfl (by first | omega | decide) (by first | omega | decide) eh390 rfl
                refine xi_iload_n (pc' := 6) (x := a4) kc_9_5 rfl rfl ?_
                refine xi_static (mj := 10) (as := [.int a4]) (st1 := []) (lv0 := [(0, .int a4)]) kc_9_6 rfl rfl (Nat.le_of_ble_eq_true rfl) rfl rfl (Nat.le_of_ble_eq_true rfl) (hJ _ _ _ _ (by decide)) (xm_le ml_10 rfl) rfl ?_
                refine xi_iload_n (pc' := 1) (x := a4) kc_10_0 rfl rfl ?_
                refine xi_iconst (pc' := 2) (v := 0) kc_10_1 rfl rfl ?_
                refine xi_iconst (pc' := 3) (v := 5) kc_10_2 rfl rfl ?_
                refine xi_static (mj := 11) (as := [.int a4, .int 0, .int 5]) (st1 := []) (lv0 := [(0, .int a4), (1, .int 0), (2, .int 5)]) kc_10_3 rfl rfl (Nat.le_of_ble_eq_true rfl) rfl rfl (Nat.le_of_ble_eq_true rfl) (hJ _ _ _ _ (by decide)) (xm_le ml_11 rfl) rfl ?_
                refine xi_iload_n (pc' := 1) (x := a4) kc_11_0 rfl rfl ?_
                refine xi_iload_n (pc' := 2) (x := 0) kc_11_1 rfl rfl ?_
                refine xi_cmf (pc' := 5) kc_11_2 rfl (xc_lt_f (X := a4.toInt) (Y := 0) rfl (by decide) (by omega)) ?_
                refine xi_iload_n (pc' := 6) (x := a4) kc_11_5 rfl rfl ?_
                refine xi_iload_n (pc' := 7) (x := 5) kc_11_6 rfl rfl ?_
                refine xi_cmf (pc' := 10) kc_11_7 rfl (xc_gt_f (X := a4.toInt) (Y := 5) rfl (by decide) (by omega)) ?_
                refine xi_iconst (pc' := 11) (v := 1) kc_11_10 rfl rfl ?_
                refine xi_goto (pc' := 15) kc_11_11 rfl ?_
                refine xi_ireturn kc_11_15 mr_11 rfl ?_
                show xw J ov 98 10 (6, [(0, .int a4)], [.int 1], hh391) _
                refine xi_ireturn kc_10_6 mr_10 rfl ?_
                show xw J ov 99 9 (9, [(0, .ref 115), (1, .int a4), (2, .int 1), (3, .int a8)], [.int 1], hh391) _
                refine xi_ift (pc' := 18) kc_9_9 rfl rfl ?_
                refine xi_iload_n (pc' := 19) (x := 1) kc_9_18 rfl rfl ?_
                refine xi_iconst (pc' := 20) (v := 0) kc_9_19 rfl rfl ?_
                refine xi_iconst (pc' := 21) (v := 5) kc_9_20 rfl rfl ?_
                refine xi_static (mj := 11) (as := [.int 1, .int 0, .int 5]) (st1 := []) (lv0 := [(0, .int 1), (1, .int 0), (2, .int 5)]) kc_9_21 rfl rfl (Nat.le_of_ble_eq_true rfl) rfl rfl (Nat.le_of_ble_eq_true rfl) (hJ _ _ _ _ (by decide)) (xm_le ml_11 rfl) rfl ?_
                refine xi_iload_n (pc' := 1) (x := 1) kc_11_0 rfl rfl ?_
                refine xi_iload_n (pc' := 2) (x := 0) kc_11_1 rfl rfl ?_
                refine xi_cmf (pc' := 5) kc_11_2 rfl rfl ?_
                refine xi_iload_n (pc' := 6) (x := 1) kc_11_5 rfl rfl ?_
                refine xi_iload_n (pc' := 7) (x := 5) kc_11_6 rfl rfl ?_
                refine xi_cmf (pc' := 10) kc_11_7 rfl rfl ?_
                refine xi_iconst (pc' := 11) (v := 1) kc_11_10 rfl rfl ?_
                refine xi_goto (pc' := 15) kc_11_11 rfl ?_
                refine xi_ireturn kc_11_15 mr_11 rfl ?_
                show xw J ov 99 9 (24, [(0, .ref 115), (1, .int a4), (2, .int 1), (3, .int a8)], [.int 1], hh391) _
                refine xi_ift (pc' := 34) kc_9_24 rfl rfl ?_
                refine xi_iload_n (pc' := 35) (x := a8) kc_9_34 rfl rfl ?_
                refine xi_iload_n (pc' := 36) (x := 1) kc_9_35 rfl rfl ?_
                refine xi_ift (pc' := 44) kc_9_36 rfl rfl ?_
                refine xi_iconst (pc' := 45) (v := 0) kc_9_44 rfl rfl ?_
                refine xi_cmt (pc' := 55) kc_9_45 rfl (xc_ge_t (X := a8.toInt) (Y := 0) rfl (by decide) (by omega)) ?_
                refine xi_iload_n (pc' := 56) (x := a8) kc_9_55 rfl rfl ?_
                refine xi_iload_n (pc' := 57) (x := 1) kc_9_56 rfl rfl ?_
                refine xi_ift (pc' := 65) kc_9_57 rfl rfl ?_
                refine xi_iload_n (pc' := 66) (x := 1) kc_9_65 rfl rfl ?_
                refine xi_iconst (pc' := 67) (v := 1) kc_9_66 rfl rfl ?_
                refine xi_cmf (pc' := 70) kc_9_67 rfl rfl ?_
                refine xi_bipush (pc' := 72) (v := 30) kc_9_70 rfl rfl ?_
                refine xi_goto (pc' := 96) kc_9_72 rfl ?_
                refine xi_cmf (pc' := 99) kc_9_96 rfl (xc_le_f (X := a8.toInt) (Y := 30) rfl (by decide) (by omega)) ?_
                refine xi_aload_n (pc' := 100) (x := 115) kc_9_99 rfl rfl ?_
                refine xi_bipush (pc' := 102) (v := (-6)) kc_9_100 rfl rfl ?_
                refine xi_virtual (mj := 12) (as := [.int (-6)]) (st1 := []) (lv0 := [(0, .ref 115), (1, .int (-6))]) kc_9_102 rfl rfl rfl rfl rfl eh390.1 (Nat.le_of_ble_eq_true rfl) (hJ _ _ _ _ (by decide)) (xm_le ml_12 rfl) rfl ?_
                refine xi_aload_n (pc' := 1) (x := 115) kc_12_0 rfl rfl ?_
                refine xi_getfield (pc' := 4) (v := .ref 140) kc_12_1 rfl rfl rfl eh390.1 rfl ?_
                refine xi_iload_n (pc' := 5) (x := (-6)) kc_12_4 rfl rfl ?_
                refine xi_ineg (pc' := 6) (v := 6) kc_12_5 rfl rfl ?_
                refine xi_dup2 (pc' := 7) kc_12_6 rfl ⟨rfl, rfl⟩ ?_
                obtain ⟨y394, A394, hy394, ry394⟩ := xk_arr K.1 xD_140
                obtain ⟨v395, ev395, bv395, dv395⟩ := xj_get hy394 ry394 (i := 6) (by decide) (by decide)
                have A396 := ((eh390.2.1 140 (by decide)).trans ((eh372.2.1 140 (by decide)).trans A394))
                refine xi_iaload (pc' := 8) (v := v395) kc_12_7 rfl A396 (by decide) rfl (xi_in (by decide) (by rw [hy394]; decide)) ev395 ?_
                refine xi_iconst (pc' := 9) (v := 1) kc_12_8 rfl rfl ?_
                obtain ⟨v397, ev397⟩ : ∃ q : Int32, (v395 : Int32) + 1 = q := ⟨_, rfl⟩
                have rv397 := xc_rng v397
                refine xi_iadd (pc' := 10) (v := v397) kc_12_9 rfl ev397 ?_
                obtain ⟨y398, s398, hy398, ry398⟩ := xj_set (v := v397) hy394 ry394 6 (by first | omega | decide) (by first | omega | decide)
                refine xi_iastore (pc' := 11) (x' := y398) kc_12_10 rfl A396 rfl (xi_in (by decide) (by rw [hy394]; decide)) s398 (fun hh398 eh398 => ?_)
                have K399 := xk_pa K392 (xk_wa (by decide +kernel)) xD_140 hy398 ry398 eh398
                have KR400 := xk_pa KR393 (xk_wa (by decide +kernel)) xD_140 hy398 ry398 eh398
                refine xi_iload_n (pc' := 12) (x := (-6)) kc_12_11 rfl rfl ?_
                refine xi_ireturn kc_12_12 mr_12 rfl ?_
                show xw J ov 99 9 (105, [(0, .ref 115), (1, .int a4), (2, .int 1), (3, .int a8)], [.int (-6)], hh398) _
                refine xi_ireturn kc_9_105 mr_9 rfl ?_
                show xw J ov 100 195 (236, [(4, .int x4), (3, .ref 167), (2, .ref 115), (1, .ref 0), (0, .ref 1000000)], [.int (-6), .int (-6)], hh398) _
                refine xi_cmt (pc' := 1501) kc_195_236 rfl rfl ?_
                obtain ⟨v401, ev401⟩ : ∃ q : Int32, x4 + 6 = q := ⟨_, rfl⟩
                have zv401 : v401.toInt = (x4.toInt + 6) := by rw [← ev401]; exact (xz_add (X := x4.toInt) (Y := 6) rfl (by decide) (by omega) (by omega)).trans (by omega)
                refine xi_iinc (pc' := 1504) (x := x4) (v := v401) (lv' := [(4, .int v401), (3, .ref 167), (2, .ref 115), (1, .ref 0), (0, .ref 1000000)]) kc_195_1501 rfl rfl ev401 rfl (xm_lt ml_195 rfl) ?_
                refine xi_goto (pc' := 23) kc_195_1504 rfl ?_
                exact kk v401 hh398 (by omega) K399 (xI_kept I KR400.2.1)
            · refine xi_cmf (pc' := 38) kc_88_35 rfl (xc_ge_f (X := a8.toInt) (Y := 0) rfl (by decide) (by omega)) ?_
              refine xi_aload_n (pc' := 39) (x := 0) kc_88_38 rfl rfl ?_
              refine xi_bipush (pc' := 41) (v := (-4)) kc_88_39 rfl rfl ?_
              refine xi_virtual (mj := 90) (as := [.int (-4)]) (st1 := []) (lv0 := [(0, .ref 0), (1, .int (-4))]) kc_88_41 rfl rfl rfl rfl rfl A11 (Nat.le_of_ble_eq_true rfl) (hJ _ _ _ _ (by decide)) (xm_le ml_90 rfl) rfl ?_
              refine xi_iload_n (pc' := 1) (x := (-4)) kc_90_0 rfl rfl ?_
              refine xi_ineg (pc' := 2) (v := 4) kc_90_1 rfl rfl ?_
              refine xi_istore_n (pc' := 3) (lv' := [(2, .int 4), (0, .ref 0), (1, .int (-4))]) kc_90_2 rfl rfl (xm_lt ml_90 rfl) ?_
              refine xi_iload_n (pc' := 4) (x := 4) kc_90_3 rfl rfl ?_
              refine xi_iff (pc' := 7) kc_90_4 rfl rfl ?_
              refine xi_iload_n (pc' := 8) (x := 4) kc_90_7 rfl rfl ?_
              refine xi_aload_n (pc' := 9) (x := 0) kc_90_8 rfl rfl ?_
              refine xi_getfield (pc' := 12) (v := .ref 94) kc_90_9 rfl rfl rfl A11 rfl ?_
              obtain ⟨y402, A402, hy402, ry402⟩ := xk_arr K.1 xD_94
              refine xi_arraylength (pc' := 13) (n := 7) (v := 7) kc_90_12 rfl (xl_lenI (by decide) (by decide) A402 hy402) rfl ?_
              refine xi_cmf (pc' := 16) kc_90_13 rfl rfl ?_
              refine xi_aload_n (pc' := 17) (x := 0) kc_90_16 rfl rfl ?_
              refine xi_getfield (pc' := 20) (v := .ref 94) kc_90_17 rfl rfl rfl A11 rfl ?_
              refine xi_iload_n (pc' := 21) (x := 4) kc_90_20 rfl rfl ?_
              refine xi_dup2 (pc' := 22) kc_90_21 rfl ⟨rfl, rfl⟩ ?_
              obtain ⟨v403, ev403, bv403, dv403⟩ := xj_get hy402 ry402 (i := 4) (by decide) (by decide)
              refine xi_iaload (pc' := 23) (v := v403) kc_90_22 rfl A402 (by decide) rfl (xi_in (by decide) (by rw [hy402]; decide)) ev403 ?_
              refine xi_iconst (pc' := 24) (v := 1) kc_90_23 rfl rfl ?_
              obtain ⟨v404, ev404⟩ : ∃ q : Int32, (v403 : Int32) + 1 = q := ⟨_, rfl⟩
              have rv404 := xc_rng v404
              refine xi_iadd (pc' := 25) (v := v404) kc_90_24 rfl ev404 ?_
              obtain ⟨y405, s405, hy405, ry405⟩ := xj_set (v := v404) hy402 ry402 4 (by first | omega | decide) (by first | omega | decide)
              refine xi_iastore (pc' := 26) (x' := y405) kc_90_25 rfl A402 rfl (xi_in (by decide) (by rw [hy402]; decide)) s405 (fun hh405 eh405 => ?_)
              have K406 := xk_pa K (xk_wa (by decide +kernel)) xD_94 hy405 ry405 eh405
              have KR407 := xk_pa KR (xk_wa (by decide +kernel)) xD_94 hy405 ry405 eh405
              refine xi_iload_n (pc' := 27) (x := (-4)) kc_90_26 rfl rfl ?_
              refine xi_ireturn kc_90_27 mr_90 rfl ?_
              show xw J ov 99 88 (44, [(0, .ref 0), (1, .int a4), (2, .int 1), (3, .int a8)], [.int (-4)], hh405) _
              refine xi_ireturn kc_88_44 mr_88 rfl ?_
              show xw J ov 100 195 (214, [(4, .int x4), (3, .ref 167), (2, .ref 115), (1, .ref 0), (0, .ref 1000000)], [.int (-4)], hh405) _
              refine xi_aload_n (pc' := 215) (x := 115) kc_195_214 rfl rfl ?_
              refine xi_aload_n (pc' := 216) (x := 1000000) kc_195_215 rfl rfl ?_
              refine xi_iload (pc' := 218) (x := x4) kc_195_216 rfl rfl ?_
              refine xi_iconst (pc' := 219) (v := 1) kc_195_218 rfl rfl ?_
              refine xi_iadd (pc' := 220) (v := v3) kc_195_219 rfl ev3 ?_
              refine xi_ialoadO (pc' := 221) (v := a4) kc_195_220 rfl (by decide) hov0 (xi_in (by omega) (by omega)) ea4 ?_
              refine xi_aload_n (pc' := 222) (x := 1000000) kc_195_221 rfl rfl ?_
              refine xi_iload (pc' := 224) (x := x4) kc_195_222 rfl rfl ?_
              refine xi_iconst (pc' := 225) (v := 2) kc_195_224 rfl rfl ?_
              refine xi_iadd (pc' := 226) (v := v5) kc_195_225 rfl ev5 ?_
              refine xi_ialoadO (pc' := 227) (v := 1) kc_195_226 rfl (by decide) hov0 (xi_in (by omega) (by omega)) ea6 ?_
              refine xi_aload_n (pc' := 228) (x := 1000000) kc_195_227 rfl rfl ?_
              refine xi_iload (pc' := 230) (x := x4) kc_195_228 rfl rfl ?_
              refine xi_iconst (pc' := 231) (v := 3) kc_195_230 rfl rfl ?_
              refine xi_iadd (pc' := 232) (v := v7) kc_195_231 rfl ev7 ?_
              refine xi_ialoadO (pc' := 233) (v := a8) kc_195_232 rfl (by decide) hov0 (xi_in (by omega) (by omega)) ea8 ?_
              obtain ⟨u408, u409, u410, u411, u412, u413, u414, u415, u416, u417, u418, u419, u420, bu408, bu409, bu410, bu411, bu412, bu413, bu414, bu415, bu416, bu417, bu418, bu419, bu420, A421⟩ := xq_115 K.1
              have A422 := ((eh405.2.1 115 (by decide)).trans A421)
              refine xi_virtual (mj := 9) (as := [.int a4, .int 1, .int a8]) (st1 := [.int (-4)]) (lv0 := [(0, .ref 115), (1, .int a4), (2, .int 1), (3, .int a8)]) kc_195_233 rfl rfl rfl rfl rfl A422 (Nat.le_of_ble_eq_true rfl) (hJ _ _ _ _ (by decide)) (xm_le ml_9 rfl) rfl ?_
              refine xi_aload_n (pc' := 1) (x := 115) kc_9_0 rfl rfl ?_
              refine xi_iconst (pc' := 2) (v := 0) kc_9_1 rfl rfl ?_
              refine xi_putfield (pc' := 5) (fs' := [.int 0, .int u409, .ref 116, .ref 117, .ref 118, .ref 119, .ref 120, .ref 121, .ref 122, .ref 123, .ref 124, .ref 125, .ref 126, .ref 127, .ref 128, .ref 129, .int u410, .ref 130, .int u411, .ref 131, .ref 132, .ref 133, .ref 134, .int u412, .ref 135, .ref 136, .ref 137, .ref 138, .ref 139, .ref 140, .ref 141, .ref 142, .int u413, .int u414, .int u415, .ref 143, .ref 144, .ref 145, .ref 146, .ref 147, .ref 148, .int u416, .ref 149, .ref 150, .ref 151, .int u417, .ref 152, .ref 153, .ref 154, .ref 155, .ref 156, .ref 157, .ref 158, .ref 159, .int u418, .ref 160, .int u419, .ref 161, .ref 162, .ref 163, .ref 164, .int u420, .ref 165, .ref 166]) kc_9_2 rfl rfl rfl A422 rfl rfl rfl (Nat.le_of_ble_eq_true rfl) rfl (fun hh424 eh423 => ?_)
              have K425 := xk_pf (k := 0) (v := 0) K406 (xk_wf (by decide +kernel)) xD_115 A422 rfl (by first | omega | decide) (by first | omega | decide) eh423 rfl
              have KR426 := xk_pf (k := 0) (v := 0) KR407 (xk_wf (by decide +kernel)) xD_115 A422 rfl (by first | omega | decide) (by first | omega | decide) eh423 rfl
              refine xi_iload_n (pc' := 6) (x := a4) kc_9_5 rfl rfl ?_
              refine xi_static (mj := 10) (as := [.int a4]) (st1 := []) (lv0 := [(0, .int a4)]) kc_9_6 rfl rfl (Nat.le_of_ble_eq_true rfl) rfl rfl (Nat.le_of_ble_eq_true rfl) (hJ _ _ _ _ (by decide)) (xm_le ml_10 rfl) rfl ?_
              refine xi_iload_n (pc' := 1) (x := a4) kc_10_0 rfl rfl ?_
              refine xi_iconst (pc' := 2) (v := 0) kc_10_1 rfl rfl ?_
              refine xi_iconst (pc' := 3) (v := 5) kc_10_2 rfl rfl ?_
              refine xi_static (mj := 11) (as := [.int a4, .int 0, .int 5]) (st1 := []) (lv0 := [(0, .int a4), (1, .int 0), (2, .int 5)]) kc_10_3 rfl rfl (Nat.le_of_ble_eq_true rfl) rfl rfl (Nat.le_of_ble_eq_true rfl) (hJ _ _ _ _ (by decide)) (xm_le ml_11 rfl) rfl ?_
              refine xi_iload_n (pc' := 1) (x := a4) kc_11_0 rfl rfl ?_
              refine xi_iload_n (pc' := 2) (x := 0) kc_11_1 rfl rfl ?_
              refine xi_cmf (pc' := 5) kc_11_2 rfl (xc_lt_f (X := a4.toInt) (Y := 0) rfl (by decide) (by omega)) ?_
              refine xi_iload_n (pc' := 6) (x := a4) kc_11_5 rfl rfl ?_
              refine xi_iload_n (pc' := 7) (x := 5) kc_11_6 rfl rfl ?_
              refine xi_cmf (pc' := 10) kc_11_7 rfl (xc_gt_f (X := a4.toInt) (Y := 5) rfl (by decide) (by omega)) ?_
              refine xi_iconst (pc' := 11) (v := 1) kc_11_10 rfl rfl ?_
              refine xi_goto (pc' := 15) kc_11_11 rfl ?_
              refine xi_ireturn kc_11_15 mr_11 rfl ?_
              show xw J ov 98 10 (6, [(0, .int a4)], [.int 1], hh424) _
              refine xi_ireturn kc_10_6 mr_10 rfl ?_
              show xw J ov 99 9 (9, [(0, .ref 115), (1, .int a4), (2, .int 1), (3, .int a8)], [.int 1], hh424) _
              refine xi_ift (pc' := 18) kc_9_9 rfl rfl ?_
              refine xi_iload_n (pc' := 19) (x := 1) kc_9_18 rfl rfl ?_
              refine xi_iconst (pc' := 20) (v := 0) kc_9_19 rfl rfl ?_
              refine xi_iconst (pc' := 21) (v := 5) kc_9_20 rfl rfl ?_
              refine xi_static (mj := 11) (as := [.int 1, .int 0, .int 5]) (st1 := []) (lv0 := [(0, .int 1), (1, .int 0), (2, .int 5)]) kc_9_21 rfl rfl (Nat.le_of_ble_eq_true rfl) rfl rfl (Nat.le_of_ble_eq_true rfl) (hJ _ _ _ _ (by decide)) (xm_le ml_11 rfl) rfl ?_
              refine xi_iload_n (pc' := 1) (x := 1) kc_11_0 rfl rfl ?_
              refine xi_iload_n (pc' := 2) (x := 0) kc_11_1 rfl rfl ?_
              refine xi_cmf (pc' := 5) kc_11_2 rfl rfl ?_
              refine xi_iload_n (pc' := 6) (x := 1) kc_11_5 rfl rfl ?_
              refine xi_iload_n (pc' := 7) (x := 5) kc_11_6 rfl rfl ?_
              refine xi_cmf (pc' := 10) kc_11_7 rfl rfl ?_
              refine xi_iconst (pc' := 11) (v := 1) kc_11_10 rfl rfl ?_
              refine xi_goto (pc' := 15) kc_11_11 rfl ?_
              refine xi_ireturn kc_11_15 mr_11 rfl ?_
              show xw J ov 99 9 (24, [(0, .ref 115), (1, .int a4), (2, .int 1), (3, .int a8)], [.int 1], hh424) _
              refine xi_ift (pc' := 34) kc_9_24 rfl rfl ?_
              refine xi_iload_n (pc' := 35) (x := a8) kc_9_34 rfl rfl ?_
              refine xi_iload_n (pc' := 36) (x := 1) kc_9_35 rfl rfl ?_
              refine xi_ift (pc' := 44) kc_9_36 rfl rfl ?_
              refine xi_iconst (pc' := 45) (v := 0) kc_9_44 rfl rfl ?_
              refine xi_cmf (pc' := 48) kc_9_45 rfl (xc_ge_f (X := a8.toInt) (Y := 0) rfl (by decide) (by omega)) ?_
              refine xi_aload_n (pc' := 49) (x := 115) kc_9_48 rfl rfl ?_
              refine xi_bipush (pc' := 51) (v := (-4)) kc_9_49 rfl rfl ?_
              refine xi_virtual (mj := 12) (as := [.int (-4)]) (st1 := []) (lv0 := [(0, .ref 115), (1, .int (-4))]) kc_9_51 rfl rfl rfl rfl rfl eh423.1 (Nat.le_of_ble_eq_true rfl) (hJ _ _ _ _ (by decide)) (xm_le ml_12 rfl) rfl ?_
              refine xi_aload_n (pc' := 1) (x := 115) kc_12_0 rfl rfl ?_
              refine xi_getfield (pc' := 4) (v := .ref 140) kc_12_1 rfl rfl rfl eh423.1 rfl ?_
              refine xi_iload_n (pc' := 5) (x := (-4)) kc_12_4 rfl rfl ?_
              refine xi_ineg (pc' := 6) (v := 4) kc_12_5 rfl rfl ?_
              refine xi_dup2 (pc' := 7) kc_12_6 rfl ⟨rfl, rfl⟩ ?_
              obtain ⟨y427, A427, hy427, ry427⟩ := xk_arr K.1 xD_140
              obtain ⟨v428, ev428, bv428, dv428⟩ := xj_get hy427 ry427 (i := 4) (by decide) (by decide)
              have A429 := ((eh423.2.1 140 (by decide)).trans ((eh405.2.1 140 (by decide)).trans A427))
              refine xi_iaload (pc' := 8) (v := v428) kc_12_7 rfl A429 (by decide) rfl (xi_in (by decide) (by rw [hy427]; decide)) ev428 ?_
              refine xi_iconst (pc' := 9) (v := 1) kc_12_8 rfl rfl ?_
              obtain ⟨v430, ev430⟩ : ∃ q : Int32, (v428 : Int32) + 1 = q := ⟨_, rfl⟩
              have rv430 := xc_rng v430
              refine xi_iadd (pc' := 10) (v := v430) kc_12_9 rfl ev430 ?_
              obtain ⟨y431, s431, hy431, ry431⟩ := xj_set (v := v430) hy427 ry427 4 (by first | omega | decide) (by first | omega | decide)
              refine xi_iastore (pc' := 11) (x' := y431) kc_12_10 rfl A429 rfl (xi_in (by decide) (by rw [hy427]; decide)) s431 (fun hh431 eh431 => ?_)
              have K432 := xk_pa K425 (xk_wa (by decide +kernel)) xD_140 hy431 ry431 eh431
              have KR433 := xk_pa KR426 (xk_wa (by decide +kernel)) xD_140 hy431 ry431 eh431
              refine xi_iload_n (pc' := 12) (x := (-4)) kc_12_11 rfl rfl ?_
              refine xi_ireturn kc_12_12 mr_12 rfl ?_
              show xw J ov 99 9 (54, [(0, .ref 115), (1, .int a4), (2, .int 1), (3, .int a8)], [.int (-4)], hh431) _
              refine xi_ireturn kc_9_54 mr_9 rfl ?_
              show xw J ov 100 195 (236, [(4, .int x4), (3, .ref 167), (2, .ref 115), (1, .ref 0), (0, .ref 1000000)], [.int (-4), .int (-4)], hh431) _
              refine xi_cmt (pc' := 1501) kc_195_236 rfl rfl ?_
              obtain ⟨v434, ev434⟩ : ∃ q : Int32, x4 + 6 = q := ⟨_, rfl⟩
              have zv434 : v434.toInt = (x4.toInt + 6) := by rw [← ev434]; exact (xz_add (X := x4.toInt) (Y := 6) rfl (by decide) (by omega) (by omega)).trans (by omega)
              refine xi_iinc (pc' := 1504) (x := x4) (v := v434) (lv' := [(4, .int v434), (3, .ref 167), (2, .ref 115), (1, .ref 0), (0, .ref 1000000)]) kc_195_1501 rfl rfl ev434 rfl (xm_lt ml_195 rfl) ?_
              refine xi_goto (pc' := 23) kc_195_1504 rfl ?_
              exact kk v434 hh431 (by omega) K432 (xI_kept I KR433.2.1)
          by_cases c435 : a6.toInt = 2
          · have qa6 : a6 = 2 := xc_of (Eq.trans (by omega) (show (2 : Int) = (2 : Int32).toInt by decide))
            subst qa6
            refine xi_ialoadO (pc' := 35) (v := 0) kc_88_34 rfl (by decide) hov1 (xi_in (n := 6) (by decide) (by decide)) rfl ?_
            by_cases c436 : 0 ≤ a8.toInt
            · refine xi_cmt (pc' := 45) kc_88_35 rfl (xc_ge_t (X := a8.toInt) (Y := 0) rfl (by decide) (by omega)) ?_
              refine xi_iload_n (pc' := 46) (x := a8) kc_88_45 rfl rfl ?_
              refine xi_getstatic (pc' := 49) (j := 1000002) kc_88_46 rfl rfl ?_
              refine xi_iload_n (pc' := 50) (x := 2) kc_88_49 rfl rfl ?_
              refine xi_ialoadO (pc' := 51) (v := 50) kc_88_50 rfl (by decide) hov2 (xi_in (n := 6) (by decide) (by decide)) rfl ?_
              by_cases c437 : a8.toInt ≤ 50
              · refine xi_cmt (pc' := 61) kc_88_51 rfl (xc_le_t (X := a8.toInt) (Y := 50) rfl (by decide) (by omega)) ?_
                refine xi_iload_n (pc' := 62) (x := 2) kc_88_61 rfl rfl ?_
                refine xi_iconst (pc' := 63) (v := 5) kc_88_62 rfl rfl ?_
                refine xi_cmt (pc' := 90) kc_88_63 rfl rfl ?_
                refine xi_aload_n (pc' := 91) (x := 0) kc_88_90 rfl rfl ?_
                refine xi_getfield (pc' := 94) (v := .ref 66) kc_88_91 rfl rfl rfl A11 rfl ?_
                obtain ⟨u439, wl438, bu439, A440⟩ := xq_66 K.1
                refine xi_virtual (mj := 91) (as := []) (st1 := []) (lv0 := [(0, .ref 66)]) kc_88_94 rfl rfl rfl rfl rfl A440 (Nat.le_of_ble_eq_true rfl) (hJ _ _ _ _ (by decide)) (xm_le ml_91 rfl) rfl ?_
                refine xi_aload_n (pc' := 1) (x := 66) kc_91_0 rfl rfl ?_
                refine xi_lconst (pc' := 2) (v := 0) kc_91_1 rfl rfl ?_
                refine xi_putfield (pc' := 5) (fs' := [.ref 1, .ref 67, .ref 70, .ref 71, .ref 72, .ref 73, .ref 74, .long 0, .int u439]) kc_91_2 rfl rfl rfl A440 rfl rfl rfl (Nat.le_of_ble_eq_true rfl) rfl (fun hh442 eh441 => ?_)
                have K443 := xk_pl (k := 7) (v := 0) K (xk_wf (by decide +kernel)) xD_66 A440 rfl eh441 rfl
                have KR444 := xk_pl (k := 7) (v := 0) KR (xk_wf (by decide +kernel)) xD_66 A440 rfl eh441 rfl
                refine xi_return kc_91_5 mr_91 ?_
                show xw J ov 99 88 (97, [(0, .ref 0), (1, .int a4), (2, .int 2), (3, .int a8)], [], hh442) _
                refine xi_aload_n (pc' := 98) (x := 0) kc_88_97 rfl rfl ?_
                have A445 := ((eh441.2.1 0 (by decide)).trans A11)
                refine xi_getfield (pc' := 101) (v := .ref 1) kc_88_98 rfl rfl rfl A445 rfl ?_
                refine xi_iload_n (pc' := 102) (x := a4) kc_88_101 rfl rfl ?_
                refine xi_iload_n (pc' := 103) (x := 2) kc_88_102 rfl rfl ?_
                refine xi_iload_n (pc' := 104) (x := a8) kc_88_103 rfl rfl ?_
                obtain ⟨u446, u447, bu446, bu447, A448⟩ := xq_1 K.1
                have A449 := ((eh441.2.1 1 (by decide)).trans A448)
                refine xi_virtual (mj := 92) (as := [.int a4, .int 2, .int a8]) (st1 := []) (lv0 := [(0, .ref 1), (1, .int a4), (2, .int 2), (3, .int a8)]) kc_88_104 rfl rfl rfl rfl rfl A449 (Nat.le_of_ble_eq_true rfl) (hJ _ _ _ _ (by decide)) (xm_le ml_92 rfl) rfl ?_
                have F450 := xra_fr WWb (xl_c (eh441.2.1 121 (by decide)))
                have F451 := xg6_c I6 (fun c hc => eh441.2.1 c (Ne.symm (xk_nc hc rfl)))
                have F452 := xr5_c I5 (fun c hc => eh441.2.1 c (Ne.symm (xk_nc hc rfl)))
                have zc2 : (2 : Int32).toInt = 2 := by decide
                refine xw_chg hJ hov1 hov2 (d := 96) (x1 := a4) (x2 := 2) (x3 := a8) K443.1 F451 (by omega) (by omega) (fun r453 hh454 hr453 K455 I456 => ?_)
                have rr453 := xc_rng r453
                have nqr453 : Int32.toNatClampNeg 2 = 2 := by decide
                rw [nqr453] at hr453 I456
                have I4565 := xr5_k F452 K455 (by decide +kernel)
                have I456W := xra_fr F450 (K455.2.1 (121, 0) (by decide +kernel))
                have A457 := ((eh441.2.1 64 (by decide)).trans A1)
                have K458 := xk_tr K443 K455 (xsb_ok _ _ (by decide +kernel))
                have A459 := xk_eqa (q := 0) K455 (by decide +kernel) A457
                obtain ⟨u460, u461, bu460, bu461, A462⟩ := xq_0 K458.1
                have e463 : u10 = u461 := xk_eqi (q := 9) K455 (by decide +kernel) A445 A462 rfl rfl
                subst e463
                have e464 : u9 = u460 := xk_eqi (q := 8) K455 (by decide +kernel) A445 A462 rfl rfl
                subst e464
                obtain ⟨u465, u466, bu465, bu466, A467⟩ := xq_1 K458.1
                have e468 : u446 = u465 := xk_eqi (q := 5) K455 (by decide +kernel) A449 A467 rfl rfl
                subst e468
                show xw J ov 99 88 (107, [(0, .ref 0), (1, .int a4), (2, .int 2), (3, .int a8)], [.int r453], hh454) _
                refine xi_ireturn kc_88_107 mr_88 rfl ?_
                show xw J ov 100 195 (214, [(4, .int x4), (3, .ref 167), (2, .ref 115), (1, .ref 0), (0, .ref 1000000)], [.int r453], hh454) _
                refine xi_aload_n (pc' := 215) (x := 115) kc_195_214 rfl rfl ?_
                refine xi_aload_n (pc' := 216) (x := 1000000) kc_195_215 rfl rfl ?_
                refine xi_iload (pc' := 218) (x := x4) kc_195_216 rfl rfl ?_
                refine xi_iconst (pc' := 219) (v := 1) kc_195_218 rfl rfl ?_
                refine xi_iadd (pc' := 220) (v := v3) kc_195_219 rfl ev3 ?_
                refine xi_ialoadO (pc' := 221) (v := a4) kc_195_220 rfl (by decide) hov0 (xi_in (by omega) (by omega)) ea4 ?_
                refine xi_aload_n (pc' := 222) (x := 1000000) kc_195_221 rfl rfl ?_
                refine xi_iload (pc' := 224) (x := x4) kc_195_222 rfl rfl ?_
                refine xi_iconst (pc' := 225) (v := 2) kc_195_224 rfl rfl ?_
                refine xi_iadd (pc' := 226) (v := v5) kc_195_225 rfl ev5 ?_
                refine xi_ialoadO (pc' := 227) (v := 2) kc_195_226 rfl (by decide) hov0 (xi_in (by omega) (by omega)) ea6 ?_
                refine xi_aload_n (pc' := 228) (x := 1000000) kc_195_227 rfl rfl ?_
                refine xi_iload (pc' := 230) (x := x4) kc_195_228 rfl rfl ?_
                refine xi_iconst (pc' := 231) (v := 3) kc_195_230 rfl rfl ?_
                refine xi_iadd (pc' := 232) (v := v7) kc_195_231 rfl ev7 ?_
                refine xi_ialoadO (pc' := 233) (v := a8) kc_195_232 rfl (by decide) hov0 (xi_in (by omega) (by omega)) ea8 ?_
                obtain ⟨u469, u470, u471, u472, u473, u474, u475, u476, u477, u478, u479, u480, u481, bu469, bu470, bu471, bu472, bu473, bu474, bu475, bu476, bu477, bu478, bu479, bu480, bu481, A482⟩ := xq_115 K458.1
                refine xi_virtual (mj := 9) (as := [.int a4, .int 2, .int a8]) (st1 := [.int r453]) (lv0 := [(0, .ref 115), (1, .int a4), (2, .int 2), (3, .int a8)]) kc_195_233 rfl rfl rfl rfl rfl A482 (Nat.le_of_ble_eq_true rfl) (hJ _ _ _ _ (by decide)) (xm_le ml_9 rfl) rfl ?_
                refine xi_aload_n (pc' := 1) (x := 115) kc_9_0 rfl rfl ?_
                refine xi_iconst (pc' := 2) (v := 0) kc_9_1 rfl rfl ?_
                refine xi_putfield (pc' := 5) (fs' := [.int 0, .int u470, .ref 116, .ref 117, .ref 118, .ref 119, .ref 120, .ref 121, .ref 122, .ref 123, .ref 124, .ref 125, .ref 126, .ref 127, .ref 128, .ref 129, .int u471, .ref 130, .int u472, .ref 131, .ref 132, .ref 133, .ref 134, .int u473, .ref 135, .ref 136, .ref 137, .ref 138, .ref 139, .ref 140, .ref 141, .ref 142, .int u474, .int u475, .int u476, .ref 143, .ref 144, .ref 145, .ref 146, .ref 147, .ref 148, .int u477, .ref 149, .ref 150, .ref 151, .int u478, .ref 152, .ref 153, .ref 154, .ref 155, .ref 156, .ref 157, .ref 158, .ref 159, .int u479, .ref 160, .int u480, .ref 161, .ref 162, .ref 163, .ref 164, .int u481, .ref 165, .ref 166]) kc_9_2 rfl rfl rfl A482 rfl rfl rfl (Nat.le_of_ble_eq_true rfl) rfl (fun hh484 eh483 => ?_)
                have K485 := xk_pf (k := 0) (v := 0) K458 (xk_wf (by decide +kernel)) xD_115 A482 rfl (by first | omega | decide) (by first | omega | decide) eh483 rfl
                refine xi_iload_n (pc' := 6) (x := a4) kc_9_5 rfl rfl ?_
                refine xi_static (mj := 10) (as := [.int a4]) (st1 := []) (lv0 := [(0, .int a4)]) kc_9_6 rfl rfl (Nat.le_of_ble_eq_true rfl) rfl rfl (Nat.le_of_ble_eq_true rfl) (hJ _ _ _ _ (by decide)) (xm_le ml_10 rfl) rfl ?_
                refine xi_iload_n (pc' := 1) (x := a4) kc_10_0 rfl rfl ?_
                refine xi_iconst (pc' := 2) (v := 0) kc_10_1 rfl rfl ?_
                refine xi_iconst (pc' := 3) (v := 5) kc_10_2 rfl rfl ?_
                refine xi_static (mj := 11) (as := [.int a4, .int 0, .int 5]) (st1 := []) (lv0 := [(0, .int a4), (1, .int 0), (2, .int 5)]) kc_10_3 rfl rfl (Nat.le_of_ble_eq_true rfl) rfl rfl (Nat.le_of_ble_eq_true rfl) (hJ _ _ _ _ (by decide)) (xm_le ml_11 rfl) rfl ?_
                refine xi_iload_n (pc' := 1) (x := a4) kc_11_0 rfl rfl ?_
                refine xi_iload_n (pc' := 2) (x := 0) kc_11_1 rfl rfl ?_
                refine xi_cmf (pc' := 5) kc_11_2 rfl (xc_lt_f (X := a4.toInt) (Y := 0) rfl (by decide) (by omega)) ?_
                refine xi_iload_n (pc' := 6) (x := a4) kc_11_5 rfl rfl ?_
                refine xi_iload_n (pc' := 7) (x := 5) kc_11_6 rfl rfl ?_
                refine xi_cmf (pc' := 10) kc_11_7 rfl (xc_gt_f (X := a4.toInt) (Y := 5) rfl (by decide) (by omega)) ?_
                refine xi_iconst (pc' := 11) (v := 1) kc_11_10 rfl rfl ?_
                refine xi_goto (pc' := 15) kc_11_11 rfl ?_
                refine xi_ireturn kc_11_15 mr_11 rfl ?_
                show xw J ov 98 10 (6, [(0, .int a4)], [.int 1], hh484) _
                refine xi_ireturn kc_10_6 mr_10 rfl ?_
                show xw J ov 99 9 (9, [(0, .ref 115), (1, .int a4), (2, .int 2), (3, .int a8)], [.int 1], hh484) _
                refine xi_ift (pc' := 18) kc_9_9 rfl rfl ?_
                refine xi_iload_n (pc' := 19) (x := 2) kc_9_18 rfl rfl ?_
                refine xi_iconst (pc' := 20) (v := 0) kc_9_19 rfl rfl ?_
                refine xi_iconst (pc' := 21) (v := 5) kc_9_20 rfl rfl ?_
                refine xi_static (mj := 11) (as := [.int 2, .int 0, .int 5]) (st1 := []) (lv0 := [(0, .int 2), (1, .int 0), (2, .int 5)]) kc_9_21 rfl rfl (Nat.le_of_ble_eq_true rfl) rfl rfl (Nat.le_of_ble_eq_true rfl) (hJ _ _ _ _ (by decide)) (xm_le ml_11 rfl) rfl ?_
                refine xi_iload_n (pc' := 1) (x := 2) kc_11_0 rfl rfl ?_
                refine xi_iload_n (pc' := 2) (x := 0) kc_11_1 rfl rfl ?_
                refine xi_cmf (pc' := 5) kc_11_2 rfl rfl ?_
                refine xi_iload_n (pc' := 6) (x := 2) kc_11_5 rfl rfl ?_
                refine xi_iload_n (pc' := 7) (x := 5) kc_11_6 rfl rfl ?_
                refine xi_cmf (pc' := 10) kc_11_7 rfl rfl ?_
                refine xi_iconst (pc' := 11) (v := 1) kc_11_10 rfl rfl ?_
                refine xi_goto (pc' := 15) kc_11_11 rfl ?_
                refine xi_ireturn kc_11_15 mr_11 rfl ?_
                show xw J ov 99 9 (24, [(0, .ref 115), (1, .int a4), (2, .int 2), (3, .int a8)], [.int 1], hh484) _
                refine xi_ift (pc' := 34) kc_9_24 rfl rfl ?_
                refine xi_iload_n (pc' := 35) (x := a8) kc_9_34 rfl rfl ?_
                refine xi_iload_n (pc' := 36) (x := 2) kc_9_35 rfl rfl ?_
                refine xi_ift (pc' := 44) kc_9_36 rfl rfl ?_
                refine xi_iconst (pc' := 45) (v := 0) kc_9_44 rfl rfl ?_
                refine xi_cmt (pc' := 55) kc_9_45 rfl (xc_ge_t (X := a8.toInt) (Y := 0) rfl (by decide) (by omega)) ?_
                refine xi_iload_n (pc' := 56) (x := a8) kc_9_55 rfl rfl ?_
                refine xi_iload_n (pc' := 57) (x := 2) kc_9_56 rfl rfl ?_
                refine xi_ift (pc' := 65) kc_9_57 rfl rfl ?_
                refine xi_iload_n (pc' := 66) (x := 2) kc_9_65 rfl rfl ?_
                refine xi_iconst (pc' := 67) (v := 1) kc_9_66 rfl rfl ?_
                refine xi_cmt (pc' := 75) kc_9_67 rfl rfl ?_
                refine xi_iload_n (pc' := 76) (x := 2) kc_9_75 rfl rfl ?_
                refine xi_iconst (pc' := 77) (v := 4) kc_9_76 rfl rfl ?_
                refine xi_cmf (pc' := 80) kc_9_77 rfl rfl ?_
                refine xi_bipush (pc' := 82) (v := 50) kc_9_80 rfl rfl ?_
                refine xi_goto (pc' := 96) kc_9_82 rfl ?_
                refine xi_cmt (pc' := 106) kc_9_96 rfl (xc_le_t (X := a8.toInt) (Y := 50) rfl (by decide) (by omega)) ?_
                refine xi_aload_n (pc' := 107) (x := 115) kc_9_106 rfl rfl ?_
                refine xi_iload_n (pc' := 108) (x := a4) kc_9_107 rfl rfl ?_
                refine xi_iload_n (pc' := 109) (x := 2) kc_9_108 rfl rfl ?_
                refine xi_virtual (mj := 13) (as := [.int a4, .int 2]) (st1 := []) (lv0 := [(0, .ref 115), (1, .int a4), (2, .int 2)]) kc_9_109 rfl rfl rfl rfl rfl eh483.1 (Nat.le_of_ble_eq_true rfl) (hJ _ _ _ _ (by decide)) (xm_le ml_13 rfl) rfl ?_
                have F486 := xg6_c I456 (fun c hc => eh483.2.1 c (Ne.symm (xk_nc hc rfl)))
                have F487 := xr5_c I4565 (fun c hc => eh483.2.1 c (Ne.symm (xk_nc hc rfl)))
                have F488 := xra_fr I456W (xl_c (eh483.2.1 121 (by decide)))
                have zc2 : (2 : Int32).toInt = 2 := by decide
                refine xw_rn hJ hov1 hov2 (d := 97) (x1 := a4) (x2 := 2) K485.1 F487 (by omega) (by omega) (fun r489 hr489 => ?_)
                have rr489 := xc_rng r489
                have nqr489 : Int32.toNatClampNeg 2 = 2 := by decide
                rw [nqr489] at hr489
                show xw J ov 99 9 (112, [(0, .ref 115), (1, .int a4), (2, .int 2), (3, .int a8)], [.int r489], hh484) _
                refine xi_istore (pc' := 114) (lv' := [(4, .int r489), (0, .ref 115), (1, .int a4), (2, .int 2), (3, .int a8)]) kc_9_112 rfl rfl (xm_lt ml_9 rfl) ?_
                refine xi_aload_n (pc' := 115) (x := 115) kc_9_114 rfl rfl ?_
                refine xi_iload_n (pc' := 116) (x := a4) kc_9_115 rfl rfl ?_
                refine xi_iload_n (pc' := 117) (x := 2) kc_9_116 rfl rfl ?_
                refine xi_iload_n (pc' := 118) (x := a8) kc_9_117 rfl rfl ?_
                refine xi_virtual (mj := 14) (as := [.int a4, .int 2, .int a8]) (st1 := []) (lv0 := [(0, .ref 115), (1, .int a4), (2, .int 2), (3, .int a8)]) kc_9_118 rfl rfl rfl rfl rfl eh483.1 (Nat.le_of_ble_eq_true rfl) (hJ _ _ _ _ (by decide)) (xm_le ml_14 rfl) rfl ?_
                refine xw_te2 hJ hov1 hov2 (d := 97) (x1 := a4) (x3 := a8) K485.1 F487 F488 (by omega) (by omega) (fun hh490 K491 F492 F493 => ?_)
                have F494 := xg6_k F486 K491 (by decide +kernel)
                have A495 := ((eh483.2.1 64 (by decide)).trans A459)
                have A496 := ((eh483.2.1 0 (by decide)).trans A462)
                have A497 := ((eh483.2.1 1 (by decide)).trans A467)
                have K498 := xk_tr K485 K491 (xsb_ok _ _ (by decide +kernel))
                have A499 := xk_eqa (q := 0) K491 (by decide +kernel) A495
                obtain ⟨u500, u501, bu500, bu501, A502⟩ := xq_0 K498.1
                have e503 : u10 = u501 := xk_eqi (q := 9) K491 (by decide +kernel) A496 A502 rfl rfl
                subst e503
                have e504 : u9 = u500 := xk_eqi (q := 8) K491 (by decide +kernel) A496 A502 rfl rfl
                subst e504
                obtain ⟨u505, u506, bu505, bu506, A507⟩ := xq_1 K498.1
                have e508 : u446 = u505 := xk_eqi (q := 5) K491 (by decide +kernel) A497 A507 rfl rfl
                subst e508
                obtain ⟨u509, u510, u511, u512, u513, u514, u515, u516, u517, u518, u519, u520, u521, bu509, bu510, bu511, bu512, bu513, bu514, bu515, bu516, bu517, bu518, bu519, bu520, bu521, A522⟩ := xq_115 K498.1
                have e523 : u470 = u510 := xk_eqi (q := 1) K491 (by decide +kernel) eh483.1 A522 rfl rfl
                subst e523
                have e524 : u473 = u513 := xk_eqi (q := 23) K491 (by decide +kernel) eh483.1 A522 rfl rfl
                subst e524
                have e525 : u476 = u516 := xk_eqi (q := 34) K491 (by decide +kernel) eh483.1 A522 rfl rfl
                subst e525
                have e526 : u474 = u514 := xk_eqi (q := 32) K491 (by decide +kernel) eh483.1 A522 rfl rfl
                subst e526
                show xw J ov 99 9 (121, [(4, .int r489), (0, .ref 115), (1, .int a4), (2, .int 2), (3, .int a8)], [], hh490) _
                refine xi_iload (pc' := 123) (x := r489) kc_9_121 rfl rfl ?_
                refine xi_ireturn kc_9_123 mr_9 rfl ?_
                show xw J ov 100 195 (236, [(4, .int x4), (3, .ref 167), (2, .ref 115), (1, .ref 0), (0, .ref 1000000)], [.int r489, .int r453], hh490) _
                by_cases c527 : r453.toInt = r489.toInt
                · refine xi_cmt (pc' := 1501) kc_195_236 rfl (xc_eq_t (X := r453.toInt) (Y := r489.toInt) rfl rfl (by omega)) ?_
                  obtain ⟨v528, ev528⟩ : ∃ q : Int32, x4 + 6 = q := ⟨_, rfl⟩
                  have zv528 : v528.toInt = (x4.toInt + 6) := by rw [← ev528]; exact (xz_add (X := x4.toInt) (Y := 6) rfl (by decide) (by omega) (by omega)).trans (by omega)
                  refine xi_iinc (pc' := 1504) (x := x4) (v := v528) (lv' := [(4, .int v528), (3, .ref 167), (2, .ref 115), (1, .ref 0), (0, .ref 1000000)]) kc_195_1501 rfl rfl ev528 rfl (xm_lt ml_195 rfl) ?_
                  refine xi_goto (pc' := 23) kc_195_1504 rfl ?_
                  exact kk v528 hh490 (by omega) K498 ⟨((K498.2.1 (0, 9) (by decide +kernel)).trans (I.1.trans (K498.2.1 (115, 1) (by decide +kernel)).symm)), ⟨w, xra_mk A499 R2, F493, WWr⟩, ⟨_, F494, F492⟩, (by rw [(K498.2.1 (13, 0) (by decide +kernel)), (K498.2.1 (122, 0) (by decide +kernel))]; exact I.2.2.2.1), (by rw [(K498.2.1 (16, 0) (by decide +kernel)), (K498.2.1 (122, 0) (by decide +kernel))]; exact I.2.2.2.2.1), (by rw [(K498.2.1 (19, 0) (by decide +kernel)), (K498.2.1 (122, 0) (by decide +kernel))]; exact I.2.2.2.2.2.1), (by rw [(K498.2.1 (22, 0) (by decide +kernel)), (K498.2.1 (122, 0) (by decide +kernel))]; exact I.2.2.2.2.2.2.1), (by rw [(K498.2.1 (25, 0) (by decide +kernel)), (K498.2.1 (122, 0) (by decide +kernel))]; exact I.2.2.2.2.2.2.2.1), (by rw [(K498.2.1 (28, 0) (by decide +kernel)), (K498.2.1 (122, 0) (by decide +kernel))]; exact I.2.2.2.2.2.2.2.2.1), (by rw [(K498.2.1 (6, 0) (by decide +kernel)), (K498.2.1 (123, 0) (by decide +kernel))]; exact I.2.2.2.2.2.2.2.2.2.1), (by rw [(K498.2.1 (9, 0) (by decide +kernel)), (K498.2.1 (124, 0) (by decide +kernel))]; exact I.2.2.2.2.2.2.2.2.2.2.1), (by rw [(K498.2.1 (7, 0) (by decide +kernel)), (K498.2.1 (6, 0) (by decide +kernel))]; exact I.2.2.2.2.2.2.2.2.2.2.2.1), (by rw [(K498.2.1 (10, 0) (by decide +kernel)), (K498.2.1 (9, 0) (by decide +kernel))]; exact I.2.2.2.2.2.2.2.2.2.2.2.2.1), ((K498.2.1 (5, 0) (by decide +kernel)).trans I.2.2.2.2.2.2.2.2.2.2.2.2.2.1), ((K498.2.1 (8, 0) (by decide +kernel)).trans I.2.2.2.2.2.2.2.2.2.2.2.2.2.2.1), (xGR_fr I.2.2.2.2.2.2.2.2.2.2.2.2.2.2.2.1 K498.2.1 (by decide +kernel) (by decide +kernel)), (xGR_fr I.2.2.2.2.2.2.2.2.2.2.2.2.2.2.2.2.1 K498.2.1 (by decide +kernel) (by decide +kernel)), ((K498.2.1 (1, 5) (by decide +kernel)).trans (I.2.2.2.2.2.2.2.2.2.2.2.2.2.2.2.2.2.1.trans (K498.2.1 (115, 23) (by decide +kernel)).symm)), (xGR_fr I.2.2.2.2.2.2.2.2.2.2.2.2.2.2.2.2.2.2.1 K498.2.1 (by decide +kernel) (by decide +kernel)), (xGR_fr I.2.2.2.2.2.2.2.2.2.2.2.2.2.2.2.2.2.2.2.1 K498.2.1 (by decide +kernel) (by decide +kernel)), (xGR_fr I.2.2.2.2.2.2.2.2.2.2.2.2.2.2.2.2.2.2.2.2.1 K498.2.1 (by decide +kernel) (by decide +kernel)), (xGR_fr I.2.2.2.2.2.2.2.2.2.2.2.2.2.2.2.2.2.2.2.2.2.1 K498.2.1 (by decide +kernel) (by decide +kernel)), (by rw [(K498.2.1 (63, 2) (by decide +kernel)), (K498.2.1 (139, 0) (by decide +kernel)), (K498.2.1 (1, 5) (by decide +kernel))]; exact I.2.2.2.2.2.2.2.2.2.2.2.2.2.2.2.2.2.2.2.2.2.2.1), ((K498.2.1 (0, 8) (by decide +kernel)).trans (I.2.2.2.2.2.2.2.2.2.2.2.2.2.2.2.2.2.2.2.2.2.2.2.1.trans (K498.2.1 (115, 34) (by decide +kernel)).symm)), (xGR_fr I.2.2.2.2.2.2.2.2.2.2.2.2.2.2.2.2.2.2.2.2.2.2.2.2.1 K498.2.1 (by decide +kernel) (by decide +kernel)), (xGR_fr I.2.2.2.2.2.2.2.2.2.2.2.2.2.2.2.2.2.2.2.2.2.2.2.2.2.1 K498.2.1 (by decide +kernel) (by decide +kernel)), (xGR_fr I.2.2.2.2.2.2.2.2.2.2.2.2.2.2.2.2.2.2.2.2.2.2.2.2.2.2.1 K498.2.1 (by decide +kernel) (by decide +kernel)), (xGR_fr I.2.2.2.2.2.2.2.2.2.2.2.2.2.2.2.2.2.2.2.2.2.2.2.2.2.2.2.1 K498.2.1 (by decide +kernel) (by decide +kernel)), (xts_fr I.2.2.2.2.2.2.2.2.2.2.2.2.2.2.2.2.2.2.2.2.2.2.2.2.2.2.2.2.1 (fun l hl => K498.2.1 l (xk_el (by decide +kernel) hl))), ((K498.2.1 (63, 3) (by decide +kernel)).trans I.2.2.2.2.2.2.2.2.2.2.2.2.2.2.2.2.2.2.2.2.2.2.2.2.2.2.2.2.2)⟩
                · refine xi_cmf (pc' := 239) kc_195_236 rfl (xc_eq_f (X := r453.toInt) (Y := r489.toInt) rfl rfl (by omega)) ?_
                  refine xi_iconst (pc' := 240) (v := 0) kc_195_239 rfl rfl ?_
                  refine xi_ireturn kc_195_240 mr_195 rfl ?_
                  exfalso; omega
              · refine xi_cmf (pc' := 54) kc_88_51 rfl (xc_le_f (X := a8.toInt) (Y := 50) rfl (by decide) (by omega)) ?_
                refine xi_aload_n (pc' := 55) (x := 0) kc_88_54 rfl rfl ?_
                refine xi_bipush (pc' := 57) (v := (-6)) kc_88_55 rfl rfl ?_
                refine xi_virtual (mj := 90) (as := [.int (-6)]) (st1 := []) (lv0 := [(0, .ref 0), (1, .int (-6))]) kc_88_57 rfl rfl rfl rfl rfl A11 (Nat.le_of_ble_eq_true rfl) (hJ _ _ _ _ (by decide)) (xm_le ml_90 rfl) rfl ?_
                refine xi_iload_n (pc' := 1) (x := (-6)) kc_90_0 rfl rfl ?_
                refine xi_ineg (pc' := 2) (v := 6) kc_90_1 rfl rfl ?_
                refine xi_istore_n (pc' := 3) (lv' := [(2, .int 6), (0, .ref 0), (1, .int (-6))]) kc_90_2 rfl rfl (xm_lt ml_90 rfl) ?_
                refine xi_iload_n (pc' := 4) (x := 6) kc_90_3 rfl rfl ?_
                refine xi_iff (pc' := 7) kc_90_4 rfl rfl ?_
                refine xi_iload_n (pc' := 8) (x := 6) kc_90_7 rfl rfl ?_
                refine xi_aload_n (pc' := 9) (x := 0) kc_90_8 rfl rfl ?_
                refine xi_getfield (pc' := 12) (v := .ref 94) kc_90_9 rfl rfl rfl A11 rfl ?_
                obtain ⟨y529, A529, hy529, ry529⟩ := xk_arr K.1 xD_94
                refine xi_arraylength (pc' := 13) (n := 7) (v := 7) kc_90_12 rfl (xl_lenI (by decide) (by decide) A529 hy529) rfl ?_
                refine xi_cmf (pc' := 16) kc_90_13 rfl rfl ?_
                refine xi_aload_n (pc' := 17) (x := 0) kc_90_16 rfl rfl ?_
                refine xi_getfield (pc' := 20) (v := .ref 94) kc_90_17 rfl rfl rfl A11 rfl ?_
                refine xi_iload_n (pc' := 21) (x := 6) kc_90_20 rfl rfl ?_
                refine xi_dup2 (pc' := 22) kc_90_21 rfl ⟨rfl, rfl⟩ ?_
                obtain ⟨v530, ev530, bv530, dv530⟩ := xj_get hy529 ry529 (i := 6) (by decide) (by decide)
                refine xi_iaload (pc' := 23) (v := v530) kc_90_22 rfl A529 (by decide) rfl (xi_in (by decide) (by rw [hy529]; decide)) ev530 ?_
                refine xi_iconst (pc' := 24) (v := 1) kc_90_23 rfl rfl ?_
                obtain ⟨v531, ev531⟩ : ∃ q : Int32, (v530 : Int32) + 1 = q := ⟨_, rfl⟩
                have rv531 := xc_rng v531
                refine xi_iadd (pc' := 25) (v := v531) kc_90_24 rfl ev531 ?_
                obtain ⟨y532, s532, hy532, ry532⟩ := xj_set (v := v531) hy529 ry529 6 (by first | omega | decide) (by first | omega | decide)
                refine xi_iastore (pc' := 26) (x' := y532) kc_90_25 rfl A529 rfl (xi_in (by decide) (by rw [hy529]; decide)) s532 (fun hh532 eh532 => ?_)
                have K533 := xk_pa K (xk_wa (by decide +kernel)) xD_94 hy532 ry532 eh532
                have KR534 := xk_pa KR (xk_wa (by decide +kernel)) xD_94 hy532 ry532 eh532
                refine xi_iload_n (pc' := 27) (x := (-6)) kc_90_26 rfl rfl ?_
                refine xi_ireturn kc_90_27 mr_90 rfl ?_
                show xw J ov 99 88 (60, [(0, .ref 0), (1, .int a4), (2, .int 2), (3, .int a8)], [.int (-6)], hh532) _
                refine xi_ireturn kc_88_60 mr_88 rfl ?_
                show xw J ov 100 195 (214, [(4, .int x4), (3, .ref 167), (2, .ref 115), (1, .ref 0), (0, .ref 1000000)], [.int (-6)], hh532) _
                refine xi_aload_n (pc' := 215) (x := 115) kc_195_214 rfl rfl ?_
                refine xi_aload_n (pc' := 216) (x := 1000000) kc_195_215 rfl rfl ?_
                refine xi_iload (pc' := 218) (x := x4) kc_195_216 rfl rfl ?_
                refine xi_iconst (pc' := 219) (v := 1) kc_195_218 rfl rfl ?_
                refine xi_iadd (pc' := 220) (v := v3) kc_195_219 rfl ev3 ?_
                refine xi_ialoadO (pc' := 221) (v := a4) kc_195_220 rfl (by decide) hov0 (xi_in (by omega) (by omega)) ea4 ?_
                refine xi_aload_n (pc' := 222) (x := 1000000) kc_195_221 rfl rfl ?_
                refine xi_iload (pc' := 224) (x := x4) kc_195_222 rfl rfl ?_
                refine xi_iconst (pc' := 225) (v := 2) kc_195_224 rfl rfl ?_
                refine xi_iadd (pc' := 226) (v := v5) kc_195_225 rfl ev5 ?_
                refine xi_ialoadO (pc' := 227) (v := 2) kc_195_226 rfl (by decide) hov0 (xi_in (by omega) (by omega)) ea6 ?_
                refine xi_aload_n (pc' := 228) (x := 1000000) kc_195_227 rfl rfl ?_
                refine xi_iload (pc' := 230) (x := x4) kc_195_228 rfl rfl ?_
                refine xi_iconst (pc' := 231) (v := 3) kc_195_230 rfl rfl ?_
                refine xi_iadd (pc' := 232) (v := v7) kc_195_231 rfl ev7 ?_
                refine xi_ialoadO (pc' := 233) (v := a8) kc_195_232 rfl (by decide) hov0 (xi_in (by omega) (by omega)) ea8 ?_
                obtain ⟨u535, u536, u537, u538, u539, u540, u541, u542, u543, u544, u545, u546, u547, bu535, bu536, bu537, bu538, bu539, bu540, bu541, bu542, bu543, bu544, bu545, bu546, bu547, A548⟩ := xq_115 K.1
                have A549 := ((eh532.2.1 115 (by decide)).trans A548)
                refine xi_virtual (mj := 9) (as := [.int a4, .int 2, .int a8]) (st1 := [.int (-6)]) (lv0 := [(0, .ref 115), (1, .int a4), (2, .int 2), (3, .int a8)]) kc_195_233 rfl rfl rfl rfl rfl A549 (Nat.le_of_ble_eq_true rfl) (hJ _ _ _ _ (by decide)) (xm_le ml_9 rfl) rfl ?_
                refine xi_aload_n (pc' := 1) (x := 115) kc_9_0 rfl rfl ?_
                refine xi_iconst (pc' := 2) (v := 0) kc_9_1 rfl rfl ?_
                refine xi_putfield (pc' := 5) (fs' := [.int 0, .int u536, .ref 116, .ref 117, .ref 118, .ref 119, .ref 120, .ref 121, .ref 122, .ref 123, .ref 124, .ref 125, .ref 126, .ref 127, .ref 128, .ref 129, .int u537, .ref 130, .int u538, .ref 131, .ref 132, .ref 133, .ref 134, .int u539, .ref 135, .ref 136, .ref 137, .ref 138, .ref 139, .ref 140, .ref 141, .ref 142, .int u540, .int u541, .int u542, .ref 143, .ref 144, .ref 145, .ref 146, .ref 147, .ref 148, .int u543, .ref 149, .ref 150, .ref 151, .int u544, .ref 152, .ref 153, .ref 154, .ref 155, .ref 156, .ref 157, .ref 158, .ref 159, .int u545, .ref 160, .int u546, .ref 161, .ref 162, .ref 163, .ref 164, .int u547, .ref 165, .ref 166]) kc_9_2 rfl rfl rfl A549 rfl rfl rfl (Nat.le_of_ble_eq_true rfl) rfl (fun hh551 eh550 => ?_)
                have K552 := xk_pf (k := 0) (v := 0) K533 (xk_wf (by decide +kernel)) xD_115 A549 rfl (by first | omega | decide) (by first | omega | decide) eh550 rfl
                have KR553 := xk_pf (k := 0) (v := 0) KR534 (xk_wf (by decide +kernel)) xD_115 A549 rfl (by first | omega | decide) (by first | omega | decide) eh550 rfl
                refine xi_iload_n (pc' := 6) (x := a4) kc_9_5 rfl rfl ?_
                refine xi_static (mj := 10) (as := [.int a4]) (st1 := []) (lv0 := [(0, .int a4)]) kc_9_6 rfl rfl (Nat.le_of_ble_eq_true rfl) rfl rfl (Nat.le_of_ble_eq_true rfl) (hJ _ _ _ _ (by decide)) (xm_le ml_10 rfl) rfl ?_
                refine xi_iload_n (pc' := 1) (x := a4) kc_10_0 rfl rfl ?_
                refine xi_iconst (pc' := 2) (v := 0) kc_10_1 rfl rfl ?_
                refine xi_iconst (pc' := 3) (v := 5) kc_10_2 rfl rfl ?_
                refine xi_static (mj := 11) (as := [.int a4, .int 0, .int 5]) (st1 := []) (lv0 := [(0, .int a4), (1, .int 0), (2, .int 5)]) kc_10_3 rfl rfl (Nat.le_of_ble_eq_true rfl) rfl rfl (Nat.le_of_ble_eq_true rfl) (hJ _ _ _ _ (by decide)) (xm_le ml_11 rfl) rfl ?_
                refine xi_iload_n (pc' := 1) (x := a4) kc_11_0 rfl rfl ?_
                refine xi_iload_n (pc' := 2) (x := 0) kc_11_1 rfl rfl ?_
                refine xi_cmf (pc' := 5) kc_11_2 rfl (xc_lt_f (X := a4.toInt) (Y := 0) rfl (by decide) (by omega)) ?_
                refine xi_iload_n (pc' := 6) (x := a4) kc_11_5 rfl rfl ?_
                refine xi_iload_n (pc' := 7) (x := 5) kc_11_6 rfl rfl ?_
                refine xi_cmf (pc' := 10) kc_11_7 rfl (xc_gt_f (X := a4.toInt) (Y := 5) rfl (by decide) (by omega)) ?_
                refine xi_iconst (pc' := 11) (v := 1) kc_11_10 rfl rfl ?_
                refine xi_goto (pc' := 15) kc_11_11 rfl ?_
                refine xi_ireturn kc_11_15 mr_11 rfl ?_
                show xw J ov 98 10 (6, [(0, .int a4)], [.int 1], hh551) _
                refine xi_ireturn kc_10_6 mr_10 rfl ?_
                show xw J ov 99 9 (9, [(0, .ref 115), (1, .int a4), (2, .int 2), (3, .int a8)], [.int 1], hh551) _
                refine xi_ift (pc' := 18) kc_9_9 rfl rfl ?_
                refine xi_iload_n (pc' := 19) (x := 2) kc_9_18 rfl rfl ?_
                refine xi_iconst (pc' := 20) (v := 0) kc_9_19 rfl rfl ?_
                refine xi_iconst (pc' := 21) (v := 5) kc_9_20 rfl rfl ?_
                refine xi_static (mj := 11) (as := [.int 2, .int 0, .int 5]) (st1 := []) (lv0 := [(0, .int 2), (1, .int 0), (2, .int 5)]) kc_9_21 rfl rfl (Nat.le_of_ble_eq_true rfl) rfl rfl (Nat.le_of_ble_eq_true rfl) (hJ _ _ _ _ (by decide)) (xm_le ml_11 rfl) rfl ?_
                refine xi_iload_n (pc' := 1) (x := 2) kc_11_0 rfl rfl ?_
                refine xi_iload_n (pc' := 2) (x := 0) kc_11_1 rfl rfl ?_
                refine xi_cmf (pc' := 5) kc_11_2 rfl rfl ?_
                refine xi_iload_n (pc' := 6) (x := 2) kc_11_5 rfl rfl ?_
                refine xi_iload_n (pc' := 7) (x := 5) kc_11_6 rfl rfl ?_
                refine xi_cmf (pc' := 10) kc_11_7 rfl rfl ?_
                refine xi_iconst (pc' := 11) (v := 1) kc_11_10 rfl rfl ?_
                refine xi_goto (pc' := 15) kc_11_11 rfl ?_
                refine xi_ireturn kc_11_15 mr_11 rfl ?_
                show xw J ov 99 9 (24, [(0, .ref 115), (1, .int a4), (2, .int 2), (3, .int a8)], [.int 1], hh551) _
                refine xi_ift (pc' := 34) kc_9_24 rfl rfl ?_
                refine xi_iload_n (pc' := 35) (x := a8) kc_9_34 rfl rfl ?_
                refine xi_iload_n (pc' := 36) (x := 2) kc_9_35 rfl rfl ?_
                refine xi_ift (pc' := 44) kc_9_36 rfl rfl ?_
                refine xi_iconst (pc' := 45) (v := 0) kc_9_44 rfl rfl ?_
                refine xi_cmt (pc' := 55) kc_9_45 rfl (xc_ge_t (X := a8.toInt) (Y := 0) rfl (by decide) (by omega)) ?_
                refine xi_iload_n (pc' := 56) (x := a8) kc_9_55 rfl rfl ?_
                refine xi_iload_n (pc' := 57) (x := 2) kc_9_56 rfl rfl ?_
                refine xi_ift (pc' := 65) kc_9_57 rfl rfl ?_
                refine xi_iload_n (pc' := 66) (x := 2) kc_9_65 rfl rfl ?_
                refine xi_iconst (pc' := 67) (v := 1) kc_9_66 rfl rfl ?_
                refine xi_cmt (pc' := 75) kc_9_67 rfl rfl ?_
                refine xi_iload_n (pc' := 76) (x := 2) kc_9_75 rfl rfl ?_
                refine xi_iconst (pc' := 77) (v := 4) kc_9_76 rfl rfl ?_
                refine xi_cmf (pc' := 80) kc_9_77 rfl rfl ?_
                refine xi_bipush (pc' := 82) (v := 50) kc_9_80 rfl rfl ?_
                refine xi_goto (pc' := 96) kc_9_82 rfl ?_
                refine xi_cmf (pc' := 99) kc_9_96 rfl (xc_le_f (X := a8.toInt) (Y := 50) rfl (by decide) (by omega)) ?_
                refine xi_aload_n (pc' := 100) (x := 115) kc_9_99 rfl rfl ?_
                refine xi_bipush (pc' := 102) (v := (-6)) kc_9_100 rfl rfl ?_
                refine xi_virtual (mj := 12) (as := [.int (-6)]) (st1 := []) (lv0 := [(0, .ref 115), (1, .int (-6))]) kc_9_102 rfl rfl rfl rfl rfl eh550.1 (Nat.le_of_ble_eq_true rfl) (hJ _ _ _ _ (by decide)) (xm_le ml_12 rfl) rfl ?_
                refine xi_aload_n (pc' := 1) (x := 115) kc_12_0 rfl rfl ?_
                refine xi_getfield (pc' := 4) (v := .ref 140) kc_12_1 rfl rfl rfl eh550.1 rfl ?_
                refine xi_iload_n (pc' := 5) (x := (-6)) kc_12_4 rfl rfl ?_
                refine xi_ineg (pc' := 6) (v := 6) kc_12_5 rfl rfl ?_
                refine xi_dup2 (pc' := 7) kc_12_6 rfl ⟨rfl, rfl⟩ ?_
                obtain ⟨y554, A554, hy554, ry554⟩ := xk_arr K.1 xD_140
                obtain ⟨v555, ev555, bv555, dv555⟩ := xj_get hy554 ry554 (i := 6) (by decide) (by decide)
                have A556 := ((eh550.2.1 140 (by decide)).trans ((eh532.2.1 140 (by decide)).trans A554))
                refine xi_iaload (pc' := 8) (v := v555) kc_12_7 rfl A556 (by decide) rfl (xi_in (by decide) (by rw [hy554]; decide)) ev555 ?_
                refine xi_iconst (pc' := 9) (v := 1) kc_12_8 rfl rfl ?_
                obtain ⟨v557, ev557⟩ : ∃ q : Int32, (v555 : Int32) + 1 = q := ⟨_, rfl⟩
                have rv557 := xc_rng v557
                refine xi_iadd (pc' := 10) (v := v557) kc_12_9 rfl ev557 ?_
                obtain ⟨y558, s558, hy558, ry558⟩ := xj_set (v := v557) hy554 ry554 6 (by first | omega | decide) (by first | omega | decide)
                refine xi_iastore (pc' := 11) (x' := y558) kc_12_10 rfl A556 rfl (xi_in (by decide) (by rw [hy554]; decide)) s558 (fun hh558 eh558 => ?_)
                have K559 := xk_pa K552 (xk_wa (by decide +kernel)) xD_140 hy558 ry558 eh558
                have KR560 := xk_pa KR553 (xk_wa (by decide +kernel)) xD_140 hy558 ry558 eh558
                refine xi_iload_n (pc' := 12) (x := (-6)) kc_12_11 rfl rfl ?_
                refine xi_ireturn kc_12_12 mr_12 rfl ?_
                show xw J ov 99 9 (105, [(0, .ref 115), (1, .int a4), (2, .int 2), (3, .int a8)], [.int (-6)], hh558) _
                refine xi_ireturn kc_9_105 mr_9 rfl ?_
                show xw J ov 100 195 (236, [(4, .int x4), (3, .ref 167), (2, .ref 115), (1, .ref 0), (0, .ref 1000000)], [.int (-6), .int (-6)], hh558) _
                refine xi_cmt (pc' := 1501) kc_195_236 rfl rfl ?_
                obtain ⟨v561, ev561⟩ : ∃ q : Int32, x4 + 6 = q := ⟨_, rfl⟩
                have zv561 : v561.toInt = (x4.toInt + 6) := by rw [← ev561]; exact (xz_add (X := x4.toInt) (Y := 6) rfl (by decide) (by omega) (by omega)).trans (by omega)
                refine xi_iinc (pc' := 1504) (x := x4) (v := v561) (lv' := [(4, .int v561), (3, .ref 167), (2, .ref 115), (1, .ref 0), (0, .ref 1000000)]) kc_195_1501 rfl rfl ev561 rfl (xm_lt ml_195 rfl) ?_
                refine xi_goto (pc' := 23) kc_195_1504 rfl ?_
                exact kk v561 hh558 (by omega) K559 (xI_kept I KR560.2.1)
            · refine xi_cmf (pc' := 38) kc_88_35 rfl (xc_ge_f (X := a8.toInt) (Y := 0) rfl (by decide) (by omega)) ?_
              refine xi_aload_n (pc' := 39) (x := 0) kc_88_38 rfl rfl ?_
              refine xi_bipush (pc' := 41) (v := (-4)) kc_88_39 rfl rfl ?_
              refine xi_virtual (mj := 90) (as := [.int (-4)]) (st1 := []) (lv0 := [(0, .ref 0), (1, .int (-4))]) kc_88_41 rfl rfl rfl rfl rfl A11 (Nat.le_of_ble_eq_true rfl) (hJ _ _ _ _ (by decide)) (xm_le ml_90 rfl) rfl ?_
              refine xi_iload_n (pc' := 1) (x := (-4)) kc_90_0 rfl rfl ?_
              refine xi_ineg (pc' := 2) (v := 4) kc_90_1 rfl rfl ?_
              refine xi_istore_n (pc' := 3) (lv' := [(2, .int 4), (0, .ref 0), (1, .int (-4))]) kc_90_2 rfl rfl (xm_lt ml_90 rfl) ?_
              refine xi_iload_n (pc' := 4) (x := 4) kc_90_3 rfl rfl ?_
              refine xi_iff (pc' := 7) kc_90_4 rfl rfl ?_
              refine xi_iload_n (pc' := 8) (x := 4) kc_90_7 rfl rfl ?_
              refine xi_aload_n (pc' := 9) (x := 0) kc_90_8 rfl rfl ?_
              refine xi_getfield (pc' := 12) (v := .ref 94) kc_90_9 rfl rfl rfl A11 rfl ?_
              obtain ⟨y562, A562, hy562, ry562⟩ := xk_arr K.1 xD_94
              refine xi_arraylength (pc' := 13) (n := 7) (v := 7) kc_90_12 rfl (xl_lenI (by decide) (by decide) A562 hy562) rfl ?_
              refine xi_cmf (pc' := 16) kc_90_13 rfl rfl ?_
              refine xi_aload_n (pc' := 17) (x := 0) kc_90_16 rfl rfl ?_
              refine xi_getfield (pc' := 20) (v := .ref 94) kc_90_17 rfl rfl rfl A11 rfl ?_
              refine xi_iload_n (pc' := 21) (x := 4) kc_90_20 rfl rfl ?_
              refine xi_dup2 (pc' := 22) kc_90_21 rfl ⟨rfl, rfl⟩ ?_
              obtain ⟨v563, ev563, bv563, dv563⟩ := xj_get hy562 ry562 (i := 4) (by decide) (by decide)
              refine xi_iaload (pc' := 23) (v := v563) kc_90_22 rfl A562 (by decide) rfl (xi_in (by decide) (by rw [hy562]; decide)) ev563 ?_
              refine xi_iconst (pc' := 24) (v := 1) kc_90_23 rfl rfl ?_
              obtain ⟨v564, ev564⟩ : ∃ q : Int32, (v563 : Int32) + 1 = q := ⟨_, rfl⟩
              have rv564 := xc_rng v564
              refine xi_iadd (pc' := 25) (v := v564) kc_90_24 rfl ev564 ?_
              obtain ⟨y565, s565, hy565, ry565⟩ := xj_set (v := v564) hy562 ry562 4 (by first | omega | decide) (by first | omega | decide)
              refine xi_iastore (pc' := 26) (x' := y565) kc_90_25 rfl A562 rfl (xi_in (by decide) (by rw [hy562]; decide)) s565 (fun hh565 eh565 => ?_)
              have K566 := xk_pa K (xk_wa (by decide +kernel)) xD_94 hy565 ry565 eh565
              have KR567 := xk_pa KR (xk_wa (by decide +kernel)) xD_94 hy565 ry565 eh565
              refine xi_iload_n (pc' := 27) (x := (-4)) kc_90_26 rfl rfl ?_
              refine xi_ireturn kc_90_27 mr_90 rfl ?_
              show xw J ov 99 88 (44, [(0, .ref 0), (1, .int a4), (2, .int 2), (3, .int a8)], [.int (-4)], hh565) _
              refine xi_ireturn kc_88_44 mr_88 rfl ?_
              show xw J ov 100 195 (214, [(4, .int x4), (3, .ref 167), (2, .ref 115), (1, .ref 0), (0, .ref 1000000)], [.int (-4)], hh565) _
              refine xi_aload_n (pc' := 215) (x := 115) kc_195_214 rfl rfl ?_
              refine xi_aload_n (pc' := 216) (x := 1000000) kc_195_215 rfl rfl ?_
              refine xi_iload (pc' := 218) (x := x4) kc_195_216 rfl rfl ?_
              refine xi_iconst (pc' := 219) (v := 1) kc_195_218 rfl rfl ?_
              refine xi_iadd (pc' := 220) (v := v3) kc_195_219 rfl ev3 ?_
              refine xi_ialoadO (pc' := 221) (v := a4) kc_195_220 rfl (by decide) hov0 (xi_in (by omega) (by omega)) ea4 ?_
              refine xi_aload_n (pc' := 222) (x := 1000000) kc_195_221 rfl rfl ?_
              refine xi_iload (pc' := 224) (x := x4) kc_195_222 rfl rfl ?_
              refine xi_iconst (pc' := 225) (v := 2) kc_195_224 rfl rfl ?_
              refine xi_iadd (pc' := 226) (v := v5) kc_195_225 rfl ev5 ?_
              refine xi_ialoadO (pc' := 227) (v := 2) kc_195_226 rfl (by decide) hov0 (xi_in (by omega) (by omega)) ea6 ?_
              refine xi_aload_n (pc' := 228) (x := 1000000) kc_195_227 rfl rfl ?_
              refine xi_iload (pc' := 230) (x := x4) kc_195_228 rfl rfl ?_
              refine xi_iconst (pc' := 231) (v := 3) kc_195_230 rfl rfl ?_
              refine xi_iadd (pc' := 232) (v := v7) kc_195_231 rfl ev7 ?_
              refine xi_ialoadO (pc' := 233) (v := a8) kc_195_232 rfl (by decide) hov0 (xi_in (by omega) (by omega)) ea8 ?_
              obtain ⟨u568, u569, u570, u571, u572, u573, u574, u575, u576, u577, u578, u579, u580, bu568, bu569, bu570, bu571, bu572, bu573, bu574, bu575, bu576, bu577, bu578, bu579, bu580, A581⟩ := xq_115 K.1
              have A582 := ((eh565.2.1 115 (by decide)).trans A581)
              refine xi_virtual (mj := 9) (as := [.int a4, .int 2, .int a8]) (st1 := [.int (-4)]) (lv0 := [(0, .ref 115), (1, .int a4), (2, .int 2), (3, .int a8)]) kc_195_233 rfl rfl rfl rfl rfl A582 (Nat.le_of_ble_eq_true rfl) (hJ _ _ _ _ (by decide)) (xm_le ml_9 rfl) rfl ?_
              refine xi_aload_n (pc' := 1) (x := 115) kc_9_0 rfl rfl ?_
              refine xi_iconst (pc' := 2) (v := 0) kc_9_1 rfl rfl ?_
              refine xi_putfield (pc' := 5) (fs' := [.int 0, .int u569, .ref 116, .ref 117, .ref 118, .ref 119, .ref 120, .ref 121, .ref 122, .ref 123, .ref 124, .ref 125, .ref 126, .ref 127, .ref 128, .ref 129, .int u570, .ref 130, .int u571, .ref 131, .ref 132, .ref 133, .ref 134, .int u572, .ref 135, .ref 136, .ref 137, .ref 138, .ref 139, .ref 140, .ref 141, .ref 142, .int u573, .int u574, .int u575, .ref 143, .ref 144, .ref 145, .ref 146, .ref 147, .ref 148, .int u576, .ref 149, .ref 150, .ref 151, .int u577, .ref 152, .ref 153, .ref 154, .ref 155, .ref 156, .ref 157, .ref 158, .ref 159, .int u578, .ref 160, .int u579, .ref 161, .ref 162, .ref 163, .ref 164, .int u580, .ref 165, .ref 166]) kc_9_2 rfl rfl rfl A582 rfl rfl rfl (Nat.le_of_ble_eq_true rfl) rfl (fun hh584 eh583 => ?_)
              have K585 := xk_pf (k := 0) (v := 0) K566 (xk_wf (by decide +kernel)) xD_115 A582 rfl (by first | omega | decide) (by first | omega | decide) eh583 rfl
              have KR586 := xk_pf (k := 0) (v := 0) KR567 (xk_wf (by decide +kernel)) xD_115 A582 rfl (by first | omega | decide) (by first | omega | decide) eh583 rfl
              refine xi_iload_n (pc' := 6) (x := a4) kc_9_5 rfl rfl ?_
              refine xi_static (mj := 10) (as := [.int a4]) (st1 := []) (lv0 := [(0, .int a4)]) kc_9_6 rfl rfl (Nat.le_of_ble_eq_true rfl) rfl rfl (Nat.le_of_ble_eq_true rfl) (hJ _ _ _ _ (by decide)) (xm_le ml_10 rfl) rfl ?_
              refine xi_iload_n (pc' := 1) (x := a4) kc_10_0 rfl rfl ?_
              refine xi_iconst (pc' := 2) (v := 0) kc_10_1 rfl rfl ?_
              refine xi_iconst (pc' := 3) (v := 5) kc_10_2 rfl rfl ?_
              refine xi_static (mj := 11) (as := [.int a4, .int 0, .int 5]) (st1 := []) (lv0 := [(0, .int a4), (1, .int 0), (2, .int 5)]) kc_10_3 rfl rfl (Nat.le_of_ble_eq_true rfl) rfl rfl (Nat.le_of_ble_eq_true rfl) (hJ _ _ _ _ (by decide)) (xm_le ml_11 rfl) rfl ?_
              refine xi_iload_n (pc' := 1) (x := a4) kc_11_0 rfl rfl ?_
              refine xi_iload_n (pc' := 2) (x := 0) kc_11_1 rfl rfl ?_
              refine xi_cmf (pc' := 5) kc_11_2 rfl (xc_lt_f (X := a4.toInt) (Y := 0) rfl (by decide) (by omega)) ?_
              refine xi_iload_n (pc' := 6) (x := a4) kc_11_5 rfl rfl ?_
              refine xi_iload_n (pc' := 7) (x := 5) kc_11_6 rfl rfl ?_
              refine xi_cmf (pc' := 10) kc_11_7 rfl (xc_gt_f (X := a4.toInt) (Y := 5) rfl (by decide) (by omega)) ?_
              refine xi_iconst (pc' := 11) (v := 1) kc_11_10 rfl rfl ?_
              refine xi_goto (pc' := 15) kc_11_11 rfl ?_
              refine xi_ireturn kc_11_15 mr_11 rfl ?_
              show xw J ov 98 10 (6, [(0, .int a4)], [.int 1], hh584) _
              refine xi_ireturn kc_10_6 mr_10 rfl ?_
              show xw J ov 99 9 (9, [(0, .ref 115), (1, .int a4), (2, .int 2), (3, .int a8)], [.int 1], hh584) _
              refine xi_ift (pc' := 18) kc_9_9 rfl rfl ?_
              refine xi_iload_n (pc' := 19) (x := 2) kc_9_18 rfl rfl ?_
              refine xi_iconst (pc' := 20) (v := 0) kc_9_19 rfl rfl ?_
              refine xi_iconst (pc' := 21) (v := 5) kc_9_20 rfl rfl ?_
              refine xi_static (mj := 11) (as := [.int 2, .int 0, .int 5]) (st1 := []) (lv0 := [(0, .int 2), (1, .int 0), (2, .int 5)]) kc_9_21 rfl rfl (Nat.le_of_ble_eq_true rfl) rfl rfl (Nat.le_of_ble_eq_true rfl) (hJ _ _ _ _ (by decide)) (xm_le ml_11 rfl) rfl ?_
              refine xi_iload_n (pc' := 1) (x := 2) kc_11_0 rfl rfl ?_
              refine xi_iload_n (pc' := 2) (x := 0) kc_11_1 rfl rfl ?_
              refine xi_cmf (pc' := 5) kc_11_2 rfl rfl ?_
              refine xi_iload_n (pc' := 6) (x := 2) kc_11_5 rfl rfl ?_
              refine xi_iload_n (pc' := 7) (x := 5) kc_11_6 rfl rfl ?_
              refine xi_cmf (pc' := 10) kc_11_7 rfl rfl ?_
              refine xi_iconst (pc' := 11) (v := 1) kc_11_10 rfl rfl ?_
              refine xi_goto (pc' := 15) kc_11_11 rfl ?_
              refine xi_ireturn kc_11_15 mr_11 rfl ?_
              show xw J ov 99 9 (24, [(0, .ref 115), (1, .int a4), (2, .int 2), (3, .int a8)], [.int 1], hh584) _
              refine xi_ift (pc' := 34) kc_9_24 rfl rfl ?_
              refine xi_iload_n (pc' := 35) (x := a8) kc_9_34 rfl rfl ?_
              refine xi_iload_n (pc' := 36) (x := 2) kc_9_35 rfl rfl ?_
              refine xi_ift (pc' := 44) kc_9_36 rfl rfl ?_
              refine xi_iconst (pc' := 45) (v := 0) kc_9_44 rfl rfl ?_
              refine xi_cmf (pc' := 48) kc_9_45 rfl (xc_ge_f (X := a8.toInt) (Y := 0) rfl (by decide) (by omega)) ?_
              refine xi_aload_n (pc' := 49) (x := 115) kc_9_48 rfl rfl ?_
              refine xi_bipush (pc' := 51) (v := (-4)) kc_9_49 rfl rfl ?_
              refine xi_virtual (mj := 12) (as := [.int (-4)]) (st1 := []) (lv0 := [(0, .ref 115), (1, .int (-4))]) kc_9_51 rfl rfl rfl rfl rfl eh583.1 (Nat.le_of_ble_eq_true rfl) (hJ _ _ _ _ (by decide)) (xm_le ml_12 rfl) rfl ?_
              refine xi_aload_n (pc' := 1) (x := 115) kc_12_0 rfl rfl ?_
              refine xi_getfield (pc' := 4) (v := .ref 140) kc_12_1 rfl rfl rfl eh583.1 rfl ?_
              refine xi_iload_n (pc' := 5) (x := (-4)) kc_12_4 rfl rfl ?_
              refine xi_ineg (pc' := 6) (v := 4) kc_12_5 rfl rfl ?_
              refine xi_dup2 (pc' := 7) kc_12_6 rfl ⟨rfl, rfl⟩ ?_
              obtain ⟨y587, A587, hy587, ry587⟩ := xk_arr K.1 xD_140
              obtain ⟨v588, ev588, bv588, dv588⟩ := xj_get hy587 ry587 (i := 4) (by decide) (by decide)
              have A589 := ((eh583.2.1 140 (by decide)).trans ((eh565.2.1 140 (by decide)).trans A587))
              refine xi_iaload (pc' := 8) (v := v588) kc_12_7 rfl A589 (by decide) rfl (xi_in (by decide) (by rw [hy587]; decide)) ev588 ?_
              refine xi_iconst (pc' := 9) (v := 1) kc_12_8 rfl rfl ?_
              obtain ⟨v590, ev590⟩ : ∃ q : Int32, (v588 : Int32) + 1 = q := ⟨_, rfl⟩
              have rv590 := xc_rng v590
              refine xi_iadd (pc' := 10) (v := v590) kc_12_9 rfl ev590 ?_
              obtain ⟨y591, s591, hy591, ry591⟩ := xj_set (v := v590) hy587 ry587 4 (by first | omega | decide) (by first | omega | decide)
              refine xi_iastore (pc' := 11) (x' := y591) kc_12_10 rfl A589 rfl (xi_in (by decide) (by rw [hy587]; decide)) s591 (fun hh591 eh591 => ?_)
              have K592 := xk_pa K585 (xk_wa (by decide +kernel)) xD_140 hy591 ry591 eh591
              have KR593 := xk_pa KR586 (xk_wa (by decide +kernel)) xD_140 hy591 ry591 eh591
              refine xi_iload_n (pc' := 12) (x := (-4)) kc_12_11 rfl rfl ?_
              refine xi_ireturn kc_12_12 mr_12 rfl ?_
              show xw J ov 99 9 (54, [(0, .ref 115), (1, .int a4), (2, .int 2), (3, .int a8)], [.int (-4)], hh591) _
              refine xi_ireturn kc_9_54 mr_9 rfl ?_
              show xw J ov 100 195 (236, [(4, .int x4), (3, .ref 167), (2, .ref 115), (1, .ref 0), (0, .ref 1000000)], [.int (-4), .int (-4)], hh591) _
              refine xi_cmt (pc' := 1501) kc_195_236 rfl rfl ?_
              obtain ⟨v594, ev594⟩ : ∃ q : Int32, x4 + 6 = q := ⟨_, rfl⟩
              have zv594 : v594.toInt = (x4.toInt + 6) := by rw [← ev594]; exact (xz_add (X := x4.toInt) (Y := 6) rfl (by decide) (by omega) (by omega)).trans (by omega)
              refine xi_iinc (pc' := 1504) (x := x4) (v := v594) (lv' := [(4, .int v594), (3, .ref 167), (2, .ref 115), (1, .ref 0), (0, .ref 1000000)]) kc_195_1501 rfl rfl ev594 rfl (xm_lt ml_195 rfl) ?_
              refine xi_goto (pc' := 23) kc_195_1504 rfl ?_
              exact kk v594 hh591 (by omega) K592 (xI_kept I KR593.2.1)
          by_cases c595 : a6.toInt = 3
          · have qa6 : a6 = 3 := xc_of (Eq.trans (by omega) (show (3 : Int) = (3 : Int32).toInt by decide))
            subst qa6
            refine xi_ialoadO (pc' := 35) (v := 0) kc_88_34 rfl (by decide) hov1 (xi_in (n := 6) (by decide) (by decide)) rfl ?_
            by_cases c596 : 0 ≤ a8.toInt
            · refine xi_cmt (pc' := 45) kc_88_35 rfl (xc_ge_t (X := a8.toInt) (Y := 0) rfl (by decide) (by omega)) ?_
              refine xi_iload_n (pc' := 46) (x := a8) kc_88_45 rfl rfl ?_
              refine xi_getstatic (pc' := 49) (j := 1000002) kc_88_46 rfl rfl ?_
              refine xi_iload_n (pc' := 50) (x := 3) kc_88_49 rfl rfl ?_
              refine xi_ialoadO (pc' := 51) (v := 50) kc_88_50 rfl (by decide) hov2 (xi_in (n := 6) (by decide) (by decide)) rfl ?_
              by_cases c597 : a8.toInt ≤ 50
              · refine xi_cmt (pc' := 61) kc_88_51 rfl (xc_le_t (X := a8.toInt) (Y := 50) rfl (by decide) (by omega)) ?_
                refine xi_iload_n (pc' := 62) (x := 3) kc_88_61 rfl rfl ?_
                refine xi_iconst (pc' := 63) (v := 5) kc_88_62 rfl rfl ?_
                refine xi_cmt (pc' := 90) kc_88_63 rfl rfl ?_
                refine xi_aload_n (pc' := 91) (x := 0) kc_88_90 rfl rfl ?_
                refine xi_getfield (pc' := 94) (v := .ref 66) kc_88_91 rfl rfl rfl A11 rfl ?_
                obtain ⟨u599, wl598, bu599, A600⟩ := xq_66 K.1
                refine xi_virtual (mj := 91) (as := []) (st1 := []) (lv0 := [(0, .ref 66)]) kc_88_94 rfl rfl rfl rfl rfl A600 (Nat.le_of_ble_eq_true rfl) (hJ _ _ _ _ (by decide)) (xm_le ml_91 rfl) rfl ?_
                refine xi_aload_n (pc' := 1) (x := 66) kc_91_0 rfl rfl ?_
                refine xi_lconst (pc' := 2) (v := 0) kc_91_1 rfl rfl ?_
                refine xi_putfield (pc' := 5) (fs' := [.ref 1, .ref 67, .ref 70, .ref 71, .ref 72, .ref 73, .ref 74, .long 0, .int u599]) kc_91_2 rfl rfl rfl A600 rfl rfl rfl (Nat.le_of_ble_eq_true rfl) rfl (fun hh602 eh601 => ?_)
                have K603 := xk_pl (k := 7) (v := 0) K (xk_wf (by decide +kernel)) xD_66 A600 rfl eh601 rfl
                have KR604 := xk_pl (k := 7) (v := 0) KR (xk_wf (by decide +kernel)) xD_66 A600 rfl eh601 rfl
                refine xi_return kc_91_5 mr_91 ?_
                show xw J ov 99 88 (97, [(0, .ref 0), (1, .int a4), (2, .int 3), (3, .int a8)], [], hh602) _
                refine xi_aload_n (pc' := 98) (x := 0) kc_88_97 rfl rfl ?_
                have A605 := ((eh601.2.1 0 (by decide)).trans A11)
                refine xi_getfield (pc' := 101) (v := .ref 1) kc_88_98 rfl rfl rfl A605 rfl ?_
                refine xi_iload_n (pc' := 102) (x := a4) kc_88_101 rfl rfl ?_
                refine xi_iload_n (pc' := 103) (x := 3) kc_88_102 rfl rfl ?_
                refine xi_iload_n (pc' := 104) (x := a8) kc_88_103 rfl rfl ?_
                obtain ⟨u606, u607, bu606, bu607, A608⟩ := xq_1 K.1
                have A609 := ((eh601.2.1 1 (by decide)).trans A608)
                refine xi_virtual (mj := 92) (as := [.int a4, .int 3, .int a8]) (st1 := []) (lv0 := [(0, .ref 1), (1, .int a4), (2, .int 3), (3, .int a8)]) kc_88_104 rfl rfl rfl rfl rfl A609 (Nat.le_of_ble_eq_true rfl) (hJ _ _ _ _ (by decide)) (xm_le ml_92 rfl) rfl ?_
                have F610 := xra_fr WWb (xl_c (eh601.2.1 121 (by decide)))
                have F611 := xg6_c I6 (fun c hc => eh601.2.1 c (Ne.symm (xk_nc hc rfl)))
                have F612 := xr5_c I5 (fun c hc => eh601.2.1 c (Ne.symm (xk_nc hc rfl)))
                have zc3 : (3 : Int32).toInt = 3 := by decide
                refine xw_chg hJ hov1 hov2 (d := 96) (x1 := a4) (x2 := 3) (x3 := a8) K603.1 F611 (by omega) (by omega) (fun r613 hh614 hr613 K615 I616 => ?_)
                have rr613 := xc_rng r613
                have nqr613 : Int32.toNatClampNeg 3 = 3 := by decide
                rw [nqr613] at hr613 I616
                have I6165 := xr5_k F612 K615 (by decide +kernel)
                have I616W := xra_fr F610 (K615.2.1 (121, 0) (by decide +kernel))
                have A617 := ((eh601.2.1 64 (by decide)).trans A1)
                have K618 := xk_tr K603 K615 (xsb_ok _ _ (by decide +kernel))
                have A619 := xk_eqa (q := 0) K615 (by decide +kernel) A617
                obtain ⟨u620, u621, bu620, bu621, A622⟩ := xq_0 K618.1
                have e623 : u10 = u621 := xk_eqi (q := 9) K615 (by decide +kernel) A605 A622 rfl rfl
                subst e623
                have e624 : u9 = u620 := xk_eqi (q := 8) K615 (by decide +kernel) A605 A622 rfl rfl
                subst e624
                obtain ⟨u625, u626, bu625, bu626, A627⟩ := xq_1 K618.1
                have e628 : u606 = u625 := xk_eqi (q := 5) K615 (by decide +kernel) A609 A627 rfl rfl
                subst e628
                show xw J ov 99 88 (107, [(0, .ref 0), (1, .int a4), (2, .int 3), (3, .int a8)], [.int r613], hh614) _
                refine xi_ireturn kc_88_107 mr_88 rfl ?_
                show xw J ov 100 195 (214, [(4, .int x4), (3, .ref 167), (2, .ref 115), (1, .ref 0), (0, .ref 1000000)], [.int r613], hh614) _
                refine xi_aload_n (pc' := 215) (x := 115) kc_195_214 rfl rfl ?_
                refine xi_aload_n (pc' := 216) (x := 1000000) kc_195_215 rfl rfl ?_
                refine xi_iload (pc' := 218) (x := x4) kc_195_216 rfl rfl ?_
                refine xi_iconst (pc' := 219) (v := 1) kc_195_218 rfl rfl ?_
                refine xi_iadd (pc' := 220) (v := v3) kc_195_219 rfl ev3 ?_
                refine xi_ialoadO (pc' := 221) (v := a4) kc_195_220 rfl (by decide) hov0 (xi_in (by omega) (by omega)) ea4 ?_
                refine xi_aload_n (pc' := 222) (x := 1000000) kc_195_221 rfl rfl ?_
                refine xi_iload (pc' := 224) (x := x4) kc_195_222 rfl rfl ?_
                refine xi_iconst (pc' := 225) (v := 2) kc_195_224 rfl rfl ?_
                refine xi_iadd (pc' := 226) (v := v5) kc_195_225 rfl ev5 ?_
                refine xi_ialoadO (pc' := 227) (v := 3) kc_195_226 rfl (by decide) hov0 (xi_in (by omega) (by omega)) ea6 ?_
                refine xi_aload_n (pc' := 228) (x := 1000000) kc_195_227 rfl rfl ?_
                refine xi_iload (pc' := 230) (x := x4) kc_195_228 rfl rfl ?_
                refine xi_iconst (pc' := 231) (v := 3) kc_195_230 rfl rfl ?_
                refine xi_iadd (pc' := 232) (v := v7) kc_195_231 rfl ev7 ?_
                refine xi_ialoadO (pc' := 233) (v := a8) kc_195_232 rfl (by decide) hov0 (xi_in (by omega) (by omega)) ea8 ?_
                obtain ⟨u629, u630, u631, u632, u633, u634, u635, u636, u637, u638, u639, u640, u641, bu629, bu630, bu631, bu632, bu633, bu634, bu635, bu636, bu637, bu638, bu639, bu640, bu641, A642⟩ := xq_115 K618.1
                refine xi_virtual (mj := 9) (as := [.int a4, .int 3, .int a8]) (st1 := [.int r613]) (lv0 := [(0, .ref 115), (1, .int a4), (2, .int 3), (3, .int a8)]) kc_195_233 rfl rfl rfl rfl rfl A642 (Nat.le_of_ble_eq_true rfl) (hJ _ _ _ _ (by decide)) (xm_le ml_9 rfl) rfl ?_
                refine xi_aload_n (pc' := 1) (x := 115) kc_9_0 rfl rfl ?_
                refine xi_iconst (pc' := 2) (v := 0) kc_9_1 rfl rfl ?_
                refine xi_putfield (pc' := 5) (fs' := [.int 0, .int u630, .ref 116, .ref 117, .ref 118, .ref 119, .ref 120, .ref 121, .ref 122, .ref 123, .ref 124, .ref 125, .ref 126, .ref 127, .ref 128, .ref 129, .int u631, .ref 130, .int u632, .ref 131, .ref 132, .ref 133, .ref 134, .int u633, .ref 135, .ref 136, .ref 137, .ref 138, .ref 139, .ref 140, .ref 141, .ref 142, .int u634, .int u635, .int u636, .ref 143, .ref 144, .ref 145, .ref 146, .ref 147, .ref 148, .int u637, .ref 149, .ref 150, .ref 151, .int u638, .ref 152, .ref 153, .ref 154, .ref 155, .ref 156, .ref 157, .ref 158, .ref 159, .int u639, .ref 160, .int u640, .ref 161, .ref 162, .ref 163, .ref 164, .int u641, .ref 165, .ref 166]) kc_9_2 rfl rfl rfl A642 rfl rfl rfl (Nat.le_of_ble_eq_true rfl) rfl (fun hh644 eh643 => ?_)
                have K645 := xk_pf (k := 0) (v := 0) K618 (xk_wf (by decide +kernel)) xD_115 A642 rfl (by first | omega | decide) (by first | omega | decide) eh643 rfl
                refine xi_iload_n (pc' := 6) (x := a4) kc_9_5 rfl rfl ?_
                refine xi_static (mj := 10) (as := [.int a4]) (st1 := []) (lv0 := [(0, .int a4)]) kc_9_6 rfl rfl (Nat.le_of_ble_eq_true rfl) rfl rfl (Nat.le_of_ble_eq_true rfl) (hJ _ _ _ _ (by decide)) (xm_le ml_10 rfl) rfl ?_
                refine xi_iload_n (pc' := 1) (x := a4) kc_10_0 rfl rfl ?_
                refine xi_iconst (pc' := 2) (v := 0) kc_10_1 rfl rfl ?_
                refine xi_iconst (pc' := 3) (v := 5) kc_10_2 rfl rfl ?_
                refine xi_static (mj := 11) (as := [.int a4, .int 0, .int 5]) (st1 := []) (lv0 := [(0, .int a4), (1, .int 0), (2, .int 5)]) kc_10_3 rfl rfl (Nat.le_of_ble_eq_true rfl) rfl rfl (Nat.le_of_ble_eq_true rfl) (hJ _ _ _ _ (by decide)) (xm_le ml_11 rfl) rfl ?_
                refine xi_iload_n (pc' := 1) (x := a4) kc_11_0 rfl rfl ?_
                refine xi_iload_n (pc' := 2) (x := 0) kc_11_1 rfl rfl ?_
                refine xi_cmf (pc' := 5) kc_11_2 rfl (xc_lt_f (X := a4.toInt) (Y := 0) rfl (by decide) (by omega)) ?_
                refine xi_iload_n (pc' := 6) (x := a4) kc_11_5 rfl rfl ?_
                refine xi_iload_n (pc' := 7) (x := 5) kc_11_6 rfl rfl ?_
                refine xi_cmf (pc' := 10) kc_11_7 rfl (xc_gt_f (X := a4.toInt) (Y := 5) rfl (by decide) (by omega)) ?_
                refine xi_iconst (pc' := 11) (v := 1) kc_11_10 rfl rfl ?_
                refine xi_goto (pc' := 15) kc_11_11 rfl ?_
                refine xi_ireturn kc_11_15 mr_11 rfl ?_
                show xw J ov 98 10 (6, [(0, .int a4)], [.int 1], hh644) _
                refine xi_ireturn kc_10_6 mr_10 rfl ?_
                show xw J ov 99 9 (9, [(0, .ref 115), (1, .int a4), (2, .int 3), (3, .int a8)], [.int 1], hh644) _
                refine xi_ift (pc' := 18) kc_9_9 rfl rfl ?_
                refine xi_iload_n (pc' := 19) (x := 3) kc_9_18 rfl rfl ?_
                refine xi_iconst (pc' := 20) (v := 0) kc_9_19 rfl rfl ?_
                refine xi_iconst (pc' := 21) (v := 5) kc_9_20 rfl rfl ?_
                refine xi_static (mj := 11) (as := [.int 3, .int 0, .int 5]) (st1 := []) (lv0 := [(0, .int 3), (1, .int 0), (2, .int 5)]) kc_9_21 rfl rfl (Nat.le_of_ble_eq_true rfl) rfl rfl (Nat.le_of_ble_eq_true rfl) (hJ _ _ _ _ (by decide)) (xm_le ml_11 rfl) rfl ?_
                refine xi_iload_n (pc' := 1) (x := 3) kc_11_0 rfl rfl ?_
                refine xi_iload_n (pc' := 2) (x := 0) kc_11_1 rfl rfl ?_
                refine xi_cmf (pc' := 5) kc_11_2 rfl rfl ?_
                refine xi_iload_n (pc' := 6) (x := 3) kc_11_5 rfl rfl ?_
                refine xi_iload_n (pc' := 7) (x := 5) kc_11_6 rfl rfl ?_
                refine xi_cmf (pc' := 10) kc_11_7 rfl rfl ?_
                refine xi_iconst (pc' := 11) (v := 1) kc_11_10 rfl rfl ?_
                refine xi_goto (pc' := 15) kc_11_11 rfl ?_
                refine xi_ireturn kc_11_15 mr_11 rfl ?_
                show xw J ov 99 9 (24, [(0, .ref 115), (1, .int a4), (2, .int 3), (3, .int a8)], [.int 1], hh644) _
                refine xi_ift (pc' := 34) kc_9_24 rfl rfl ?_
                refine xi_iload_n (pc' := 35) (x := a8) kc_9_34 rfl rfl ?_
                refine xi_iload_n (pc' := 36) (x := 3) kc_9_35 rfl rfl ?_
                refine xi_ift (pc' := 44) kc_9_36 rfl rfl ?_
                refine xi_iconst (pc' := 45) (v := 0) kc_9_44 rfl rfl ?_
                refine xi_cmt (pc' := 55) kc_9_45 rfl (xc_ge_t (X := a8.toInt) (Y := 0) rfl (by decide) (by omega)) ?_
                refine xi_iload_n (pc' := 56) (x := a8) kc_9_55 rfl rfl ?_
                refine xi_iload_n (pc' := 57) (x := 3) kc_9_56 rfl rfl ?_
                refine xi_ift (pc' := 65) kc_9_57 rfl rfl ?_
                refine xi_iload_n (pc' := 66) (x := 3) kc_9_65 rfl rfl ?_
                refine xi_iconst (pc' := 67) (v := 1) kc_9_66 rfl rfl ?_
                refine xi_cmt (pc' := 75) kc_9_67 rfl rfl ?_
                refine xi_iload_n (pc' := 76) (x := 3) kc_9_75 rfl rfl ?_
                refine xi_iconst (pc' := 77) (v := 4) kc_9_76 rfl rfl ?_
                refine xi_cmf (pc' := 80) kc_9_77 rfl rfl ?_
                refine xi_bipush (pc' := 82) (v := 50) kc_9_80 rfl rfl ?_
                refine xi_goto (pc' := 96) kc_9_82 rfl ?_
                refine xi_cmt (pc' := 106) kc_9_96 rfl (xc_le_t (X := a8.toInt) (Y := 50) rfl (by decide) (by omega)) ?_
                refine xi_aload_n (pc' := 107) (x := 115) kc_9_106 rfl rfl ?_
                refine xi_iload_n (pc' := 108) (x := a4) kc_9_107 rfl rfl ?_
                refine xi_iload_n (pc' := 109) (x := 3) kc_9_108 rfl rfl ?_
                refine xi_virtual (mj := 13) (as := [.int a4, .int 3]) (st1 := []) (lv0 := [(0, .ref 115), (1, .int a4), (2, .int 3)]) kc_9_109 rfl rfl rfl rfl rfl eh643.1 (Nat.le_of_ble_eq_true rfl) (hJ _ _ _ _ (by decide)) (xm_le ml_13 rfl) rfl ?_
                have F646 := xg6_c I616 (fun c hc => eh643.2.1 c (Ne.symm (xk_nc hc rfl)))
                have F647 := xr5_c I6165 (fun c hc => eh643.2.1 c (Ne.symm (xk_nc hc rfl)))
                have F648 := xra_fr I616W (xl_c (eh643.2.1 121 (by decide)))
                have zc3 : (3 : Int32).toInt = 3 := by decide
                refine xw_rn hJ hov1 hov2 (d := 97) (x1 := a4) (x2 := 3) K645.1 F647 (by omega) (by omega) (fun r649 hr649 => ?_)
                have rr649 := xc_rng r649
                have nqr649 : Int32.toNatClampNeg 3 = 3 := by decide
                rw [nqr649] at hr649
                show xw J ov 99 9 (112, [(0, .ref 115), (1, .int a4), (2, .int 3), (3, .int a8)], [.int r649], hh644) _
                refine xi_istore (pc' := 114) (lv' := [(4, .int r649), (0, .ref 115), (1, .int a4), (2, .int 3), (3, .int a8)]) kc_9_112 rfl rfl (xm_lt ml_9 rfl) ?_
                refine xi_aload_n (pc' := 115) (x := 115) kc_9_114 rfl rfl ?_
                refine xi_iload_n (pc' := 116) (x := a4) kc_9_115 rfl rfl ?_
                refine xi_iload_n (pc' := 117) (x := 3) kc_9_116 rfl rfl ?_
                refine xi_iload_n (pc' := 118) (x := a8) kc_9_117 rfl rfl ?_
                refine xi_virtual (mj := 14) (as := [.int a4, .int 3, .int a8]) (st1 := []) (lv0 := [(0, .ref 115), (1, .int a4), (2, .int 3), (3, .int a8)]) kc_9_118 rfl rfl rfl rfl rfl eh643.1 (Nat.le_of_ble_eq_true rfl) (hJ _ _ _ _ (by decide)) (xm_le ml_14 rfl) rfl ?_
                refine xw_te3 hJ hov1 hov2 (d := 97) (x1 := a4) (x3 := a8) K645.1 F647 F648 (by omega) (by omega) (fun hh650 K651 F652 F653 => ?_)
                have F654 := xg6_k F646 K651 (by decide +kernel)
                have A655 := ((eh643.2.1 64 (by decide)).trans A619)
                have A656 := ((eh643.2.1 0 (by decide)).trans A622)
                have A657 := ((eh643.2.1 1 (by decide)).trans A627)
                have K658 := xk_tr K645 K651 (xsb_ok _ _ (by decide +kernel))
                have A659 := xk_eqa (q := 0) K651 (by decide +kernel) A655
                obtain ⟨u660, u661, bu660, bu661, A662⟩ := xq_0 K658.1
                have e663 : u10 = u661 := xk_eqi (q := 9) K651 (by decide +kernel) A656 A662 rfl rfl
                subst e663
                have e664 : u9 = u660 := xk_eqi (q := 8) K651 (by decide +kernel) A656 A662 rfl rfl
                subst e664
                obtain ⟨u665, u666, bu665, bu666, A667⟩ := xq_1 K658.1
                have e668 : u606 = u665 := xk_eqi (q := 5) K651 (by decide +kernel) A657 A667 rfl rfl
                subst e668
                obtain ⟨u669, u670, u671, u672, u673, u674, u675, u676, u677, u678, u679, u680, u681, bu669, bu670, bu671, bu672, bu673, bu674, bu675, bu676, bu677, bu678, bu679, bu680, bu681, A682⟩ := xq_115 K658.1
                have e683 : u630 = u670 := xk_eqi (q := 1) K651 (by decide +kernel) eh643.1 A682 rfl rfl
                subst e683
                have e684 : u633 = u673 := xk_eqi (q := 23) K651 (by decide +kernel) eh643.1 A682 rfl rfl
                subst e684
                have e685 : u636 = u676 := xk_eqi (q := 34) K651 (by decide +kernel) eh643.1 A682 rfl rfl
                subst e685
                have e686 : u634 = u674 := xk_eqi (q := 32) K651 (by decide +kernel) eh643.1 A682 rfl rfl
                subst e686
                show xw J ov 99 9 (121, [(4, .int r649), (0, .ref 115), (1, .int a4), (2, .int 3), (3, .int a8)], [], hh650) _
                refine xi_iload (pc' := 123) (x := r649) kc_9_121 rfl rfl ?_
                refine xi_ireturn kc_9_123 mr_9 rfl ?_
                show xw J ov 100 195 (236, [(4, .int x4), (3, .ref 167), (2, .ref 115), (1, .ref 0), (0, .ref 1000000)], [.int r649, .int r613], hh650) _
                by_cases c687 : r613.toInt = r649.toInt
                · refine xi_cmt (pc' := 1501) kc_195_236 rfl (xc_eq_t (X := r613.toInt) (Y := r649.toInt) rfl rfl (by omega)) ?_
                  obtain ⟨v688, ev688⟩ : ∃ q : Int32, x4 + 6 = q := ⟨_, rfl⟩
                  have zv688 : v688.toInt = (x4.toInt + 6) := by rw [← ev688]; exact (xz_add (X := x4.toInt) (Y := 6) rfl (by decide) (by omega) (by omega)).trans (by omega)
                  refine xi_iinc (pc' := 1504) (x := x4) (v := v688) (lv' := [(4, .int v688), (3, .ref 167), (2, .ref 115), (1, .ref 0), (0, .ref 1000000)]) kc_195_1501 rfl rfl ev688 rfl (xm_lt ml_195 rfl) ?_
                  refine xi_goto (pc' := 23) kc_195_1504 rfl ?_
                  exact kk v688 hh650 (by omega) K658 ⟨((K658.2.1 (0, 9) (by decide +kernel)).trans (I.1.trans (K658.2.1 (115, 1) (by decide +kernel)).symm)), ⟨w, xra_mk A659 R2, F653, WWr⟩, ⟨_, F654, F652⟩, (by rw [(K658.2.1 (13, 0) (by decide +kernel)), (K658.2.1 (122, 0) (by decide +kernel))]; exact I.2.2.2.1), (by rw [(K658.2.1 (16, 0) (by decide +kernel)), (K658.2.1 (122, 0) (by decide +kernel))]; exact I.2.2.2.2.1), (by rw [(K658.2.1 (19, 0) (by decide +kernel)), (K658.2.1 (122, 0) (by decide +kernel))]; exact I.2.2.2.2.2.1), (by rw [(K658.2.1 (22, 0) (by decide +kernel)), (K658.2.1 (122, 0) (by decide +kernel))]; exact I.2.2.2.2.2.2.1), (by rw [(K658.2.1 (25, 0) (by decide +kernel)), (K658.2.1 (122, 0) (by decide +kernel))]; exact I.2.2.2.2.2.2.2.1), (by rw [(K658.2.1 (28, 0) (by decide +kernel)), (K658.2.1 (122, 0) (by decide +kernel))]; exact I.2.2.2.2.2.2.2.2.1), (by rw [(K658.2.1 (6, 0) (by decide +kernel)), (K658.2.1 (123, 0) (by decide +kernel))]; exact I.2.2.2.2.2.2.2.2.2.1), (by rw [(K658.2.1 (9, 0) (by decide +kernel)), (K658.2.1 (124, 0) (by decide +kernel))]; exact I.2.2.2.2.2.2.2.2.2.2.1), (by rw [(K658.2.1 (7, 0) (by decide +kernel)), (K658.2.1 (6, 0) (by decide +kernel))]; exact I.2.2.2.2.2.2.2.2.2.2.2.1), (by rw [(K658.2.1 (10, 0) (by decide +kernel)), (K658.2.1 (9, 0) (by decide +kernel))]; exact I.2.2.2.2.2.2.2.2.2.2.2.2.1), ((K658.2.1 (5, 0) (by decide +kernel)).trans I.2.2.2.2.2.2.2.2.2.2.2.2.2.1), ((K658.2.1 (8, 0) (by decide +kernel)).trans I.2.2.2.2.2.2.2.2.2.2.2.2.2.2.1), (xGR_fr I.2.2.2.2.2.2.2.2.2.2.2.2.2.2.2.1 K658.2.1 (by decide +kernel) (by decide +kernel)), (xGR_fr I.2.2.2.2.2.2.2.2.2.2.2.2.2.2.2.2.1 K658.2.1 (by decide +kernel) (by decide +kernel)), ((K658.2.1 (1, 5) (by decide +kernel)).trans (I.2.2.2.2.2.2.2.2.2.2.2.2.2.2.2.2.2.1.trans (K658.2.1 (115, 23) (by decide +kernel)).symm)), (xGR_fr I.2.2.2.2.2.2.2.2.2.2.2.2.2.2.2.2.2.2.1 K658.2.1 (by decide +kernel) (by decide +kernel)), (xGR_fr I.2.2.2.2.2.2.2.2.2.2.2.2.2.2.2.2.2.2.2.1 K658.2.1 (by decide +kernel) (by decide +kernel)), (xGR_fr I.2.2.2.2.2.2.2.2.2.2.2.2.2.2.2.2.2.2.2.2.1 K658.2.1 (by decide +kernel) (by decide +kernel)), (xGR_fr I.2.2.2.2.2.2.2.2.2.2.2.2.2.2.2.2.2.2.2.2.2.1 K658.2.1 (by decide +kernel) (by decide +kernel)), (by rw [(K658.2.1 (63, 2) (by decide +kernel)), (K658.2.1 (139, 0) (by decide +kernel)), (K658.2.1 (1, 5) (by decide +kernel))]; exact I.2.2.2.2.2.2.2.2.2.2.2.2.2.2.2.2.2.2.2.2.2.2.1), ((K658.2.1 (0, 8) (by decide +kernel)).trans (I.2.2.2.2.2.2.2.2.2.2.2.2.2.2.2.2.2.2.2.2.2.2.2.1.trans (K658.2.1 (115, 34) (by decide +kernel)).symm)), (xGR_fr I.2.2.2.2.2.2.2.2.2.2.2.2.2.2.2.2.2.2.2.2.2.2.2.2.1 K658.2.1 (by decide +kernel) (by decide +kernel)), (xGR_fr I.2.2.2.2.2.2.2.2.2.2.2.2.2.2.2.2.2.2.2.2.2.2.2.2.2.1 K658.2.1 (by decide +kernel) (by decide +kernel)), (xGR_fr I.2.2.2.2.2.2.2.2.2.2.2.2.2.2.2.2.2.2.2.2.2.2.2.2.2.2.1 K658.2.1 (by decide +kernel) (by decide +kernel)), (xGR_fr I.2.2.2.2.2.2.2.2.2.2.2.2.2.2.2.2.2.2.2.2.2.2.2.2.2.2.2.1 K658.2.1 (by decide +kernel) (by decide +kernel)), (xts_fr I.2.2.2.2.2.2.2.2.2.2.2.2.2.2.2.2.2.2.2.2.2.2.2.2.2.2.2.2.1 (fun l hl => K658.2.1 l (xk_el (by decide +kernel) hl))), ((K658.2.1 (63, 3) (by decide +kernel)).trans I.2.2.2.2.2.2.2.2.2.2.2.2.2.2.2.2.2.2.2.2.2.2.2.2.2.2.2.2.2)⟩
                · refine xi_cmf (pc' := 239) kc_195_236 rfl (xc_eq_f (X := r613.toInt) (Y := r649.toInt) rfl rfl (by omega)) ?_
                  refine xi_iconst (pc' := 240) (v := 0) kc_195_239 rfl rfl ?_
                  refine xi_ireturn kc_195_240 mr_195 rfl ?_
                  exfalso; omega
              · refine xi_cmf (pc' := 54) kc_88_51 rfl (xc_le_f (X := a8.toInt) (Y := 50) rfl (by decide) (by omega)) ?_
                refine xi_aload_n (pc' := 55) (x := 0) kc_88_54 rfl rfl ?_
                refine xi_bipush (pc' := 57) (v := (-6)) kc_88_55 rfl rfl ?_
                refine xi_virtual (mj := 90) (as := [.int (-6)]) (st1 := []) (lv0 := [(0, .ref 0), (1, .int (-6))]) kc_88_57 rfl rfl rfl rfl rfl A11 (Nat.le_of_ble_eq_true rfl) (hJ _ _ _ _ (by decide)) (xm_le ml_90 rfl) rfl ?_
                refine xi_iload_n (pc' := 1) (x := (-6)) kc_90_0 rfl rfl ?_
                refine xi_ineg (pc' := 2) (v := 6) kc_90_1 rfl rfl ?_
                refine xi_istore_n (pc' := 3) (lv' := [(2, .int 6), (0, .ref 0), (1, .int (-6))]) kc_90_2 rfl rfl (xm_lt ml_90 rfl) ?_
                refine xi_iload_n (pc' := 4) (x := 6) kc_90_3 rfl rfl ?_
                refine xi_iff (pc' := 7) kc_90_4 rfl rfl ?_
                refine xi_iload_n (pc' := 8) (x := 6) kc_90_7 rfl rfl ?_
                refine xi_aload_n (pc' := 9) (x := 0) kc_90_8 rfl rfl ?_
                refine xi_getfield (pc' := 12) (v := .ref 94) kc_90_9 rfl rfl rfl A11 rfl ?_
                obtain ⟨y689, A689, hy689, ry689⟩ := xk_arr K.1 xD_94
                refine xi_arraylength (pc' := 13) (n := 7) (v := 7) kc_90_12 rfl (xl_lenI (by decide) (by decide) A689 hy689) rfl ?_
                refine xi_cmf (pc' := 16) kc_90_13 rfl rfl ?_
                refine xi_aload_n (pc' := 17) (x := 0) kc_90_16 rfl rfl ?_
                refine xi_getfield (pc' := 20) (v := .ref 94) kc_90_17 rfl rfl rfl A11 rfl ?_
                refine xi_iload_n (pc' := 21) (x := 6) kc_90_20 rfl rfl ?_
                refine xi_dup2 (pc' := 22) kc_90_21 rfl ⟨rfl, rfl⟩ ?_
                obtain ⟨v690, ev690, bv690, dv690⟩ := xj_get hy689 ry689 (i := 6) (by decide) (by decide)
                refine xi_iaload (pc' := 23) (v := v690) kc_90_22 rfl A689 (by decide) rfl (xi_in (by decide) (by rw [hy689]; decide)) ev690 ?_
                refine xi_iconst (pc' := 24) (v := 1) kc_90_23 rfl rfl ?_
                obtain ⟨v691, ev691⟩ : ∃ q : Int32, (v690 : Int32) + 1 = q := ⟨_, rfl⟩
                have rv691 := xc_rng v691
                refine xi_iadd (pc' := 25) (v := v691) kc_90_24 rfl ev691 ?_
                obtain ⟨y692, s692, hy692, ry692⟩ := xj_set (v := v691) hy689 ry689 6 (by first | omega | decide) (by first | omega | decide)
                refine xi_iastore (pc' := 26) (x' := y692) kc_90_25 rfl A689 rfl (xi_in (by decide) (by rw [hy689]; decide)) s692 (fun hh692 eh692 => ?_)
                have K693 := xk_pa K (xk_wa (by decide +kernel)) xD_94 hy692 ry692 eh692
                have KR694 := xk_pa KR (xk_wa (by decide +kernel)) xD_94 hy692 ry692 eh692
                refine xi_iload_n (pc' := 27) (x := (-6)) kc_90_26 rfl rfl ?_
                refine xi_ireturn kc_90_27 mr_90 rfl ?_
                show xw J ov 99 88 (60, [(0, .ref 0), (1, .int a4), (2, .int 3), (3, .int a8)], [.int (-6)], hh692) _
                refine xi_ireturn kc_88_60 mr_88 rfl ?_
                show xw J ov 100 195 (214, [(4, .int x4), (3, .ref 167), (2, .ref 115), (1, .ref 0), (0, .ref 1000000)], [.int (-6)], hh692) _
                refine xi_aload_n (pc' := 215) (x := 115) kc_195_214 rfl rfl ?_
                refine xi_aload_n (pc' := 216) (x := 1000000) kc_195_215 rfl rfl ?_
                refine xi_iload (pc' := 218) (x := x4) kc_195_216 rfl rfl ?_
                refine xi_iconst (pc' := 219) (v := 1) kc_195_218 rfl rfl ?_
                refine xi_iadd (pc' := 220) (v := v3) kc_195_219 rfl ev3 ?_
                refine xi_ialoadO (pc' := 221) (v := a4) kc_195_220 rfl (by decide) hov0 (xi_in (by omega) (by omega)) ea4 ?_
                refine xi_aload_n (pc' := 222) (x := 1000000) kc_195_221 rfl rfl ?_
                refine xi_iload (pc' := 224) (x := x4) kc_195_222 rfl rfl ?_
                refine xi_iconst (pc' := 225) (v := 2) kc_195_224 rfl rfl ?_
                refine xi_iadd (pc' := 226) (v := v5) kc_195_225 rfl ev5 ?_
                refine xi_ialoadO (pc' := 227) (v := 3) kc_195_226 rfl (by decide) hov0 (xi_in (by omega) (by omega)) ea6 ?_
                refine xi_aload_n (pc' := 228) (x := 1000000) kc_195_227 rfl rfl ?_
                refine xi_iload (pc' := 230) (x := x4) kc_195_228 rfl rfl ?_
                refine xi_iconst (pc' := 231) (v := 3) kc_195_230 rfl rfl ?_
                refine xi_iadd (pc' := 232) (v := v7) kc_195_231 rfl ev7 ?_
                refine xi_ialoadO (pc' := 233) (v := a8) kc_195_232 rfl (by decide) hov0 (xi_in (by omega) (by omega)) ea8 ?_
                obtain ⟨u695, u696, u697, u698, u699, u700, u701, u702, u703, u704, u705, u706, u707, bu695, bu696, bu697, bu698, bu699, bu700, bu701, bu702, bu703, bu704, bu705, bu706, bu707, A708⟩ := xq_115 K.1
                have A709 := ((eh692.2.1 115 (by decide)).trans A708)
                refine xi_virtual (mj := 9) (as := [.int a4, .int 3, .int a8]) (st1 := [.int (-6)]) (lv0 := [(0, .ref 115), (1, .int a4), (2, .int 3), (3, .int a8)]) kc_195_233 rfl rfl rfl rfl rfl A709 (Nat.le_of_ble_eq_true rfl) (hJ _ _ _ _ (by decide)) (xm_le ml_9 rfl) rfl ?_
                refine xi_aload_n (pc' := 1) (x := 115) kc_9_0 rfl rfl ?_
                refine xi_iconst (pc' := 2) (v := 0) kc_9_1 rfl rfl ?_
                refine xi_putfield (pc' := 5) (fs' := [.int 0, .int u696, .ref 116, .ref 117, .ref 118, .ref 119, .ref 120, .ref 121, .ref 122, .ref 123, .ref 124, .ref 125, .ref 126, .ref 127, .ref 128, .ref 129, .int u697, .ref 130, .int u698, .ref 131, .ref 132, .ref 133, .ref 134, .int u699, .ref 135, .ref 136, .ref 137, .ref 138, .ref 139, .ref 140, .ref 141, .ref 142, .int u700, .int u701, .int u702, .ref 143, .ref 144, .ref 145, .ref 146, .ref 147, .ref 148, .int u703, .ref 149, .ref 150, .ref 151, .int u704, .ref 152, .ref 153, .ref 154, .ref 155, .ref 156, .ref 157, .ref 158, .ref 159, .int u705, .ref 160, .int u706, .ref 161, .ref 162, .ref 163, .ref 164, .int u707, .ref 165, .ref 166]) kc_9_2 rfl rfl rfl A709 rfl rfl rfl (Nat.le_of_ble_eq_true rfl) rfl (fun hh711 eh710 => ?_)
                have K712 := xk_pf (k := 0) (v := 0) K693 (xk_wf (by decide +kernel)) xD_115 A709 rfl (by first | omega | decide) (by first | omega | decide) eh710 rfl
                have KR713 := xk_pf (k := 0) (v := 0) KR694 (xk_wf (by decide +kernel)) xD_115 A709 rfl (by first | omega | decide) (by first | omega | decide) eh710 rfl
                refine xi_iload_n (pc' := 6) (x := a4) kc_9_5 rfl rfl ?_
                refine xi_static (mj := 10) (as := [.int a4]) (st1 := []) (lv0 := [(0, .int a4)]) kc_9_6 rfl rfl (Nat.le_of_ble_eq_true rfl) rfl rfl (Nat.le_of_ble_eq_true rfl) (hJ _ _ _ _ (by decide)) (xm_le ml_10 rfl) rfl ?_
                refine xi_iload_n (pc' := 1) (x := a4) kc_10_0 rfl rfl ?_
                refine xi_iconst (pc' := 2) (v := 0) kc_10_1 rfl rfl ?_
                refine xi_iconst (pc' := 3) (v := 5) kc_10_2 rfl rfl ?_
                refine xi_static (mj := 11) (as := [.int a4, .int 0, .int 5]) (st1 := []) (lv0 := [(0, .int a4), (1, .int 0), (2, .int 5)]) kc_10_3 rfl rfl (Nat.le_of_ble_eq_true rfl) rfl rfl (Nat.le_of_ble_eq_true rfl) (hJ _ _ _ _ (by decide)) (xm_le ml_11 rfl) rfl ?_
                refine xi_iload_n (pc' := 1) (x := a4) kc_11_0 rfl rfl ?_
                refine xi_iload_n (pc' := 2) (x := 0) kc_11_1 rfl rfl ?_
                refine xi_cmf (pc' := 5) kc_11_2 rfl (xc_lt_f (X := a4.toInt) (Y := 0) rfl (by decide) (by omega)) ?_
                refine xi_iload_n (pc' := 6) (x := a4) kc_11_5 rfl rfl ?_
                refine xi_iload_n (pc' := 7) (x := 5) kc_11_6 rfl rfl ?_
                refine xi_cmf (pc' := 10) kc_11_7 rfl (xc_gt_f (X := a4.toInt) (Y := 5) rfl (by decide) (by omega)) ?_
                refine xi_iconst (pc' := 11) (v := 1) kc_11_10 rfl rfl ?_
                refine xi_goto (pc' := 15) kc_11_11 rfl ?_
                refine xi_ireturn kc_11_15 mr_11 rfl ?_
                show xw J ov 98 10 (6, [(0, .int a4)], [.int 1], hh711) _
                refine xi_ireturn kc_10_6 mr_10 rfl ?_
                show xw J ov 99 9 (9, [(0, .ref 115), (1, .int a4), (2, .int 3), (3, .int a8)], [.int 1], hh711) _
                refine xi_ift (pc' := 18) kc_9_9 rfl rfl ?_
                refine xi_iload_n (pc' := 19) (x := 3) kc_9_18 rfl rfl ?_
                refine xi_iconst (pc' := 20) (v := 0) kc_9_19 rfl rfl ?_
                refine xi_iconst (pc' := 21) (v := 5) kc_9_20 rfl rfl ?_
                refine xi_static (mj := 11) (as := [.int 3, .int 0, .int 5]) (st1 := []) (lv0 := [(0, .int 3), (1, .int 0), (2, .int 5)]) kc_9_21 rfl rfl (Nat.le_of_ble_eq_true rfl) rfl rfl (Nat.le_of_ble_eq_true rfl) (hJ _ _ _ _ (by decide)) (xm_le ml_11 rfl) rfl ?_
                refine xi_iload_n (pc' := 1) (x := 3) kc_11_0 rfl rfl ?_
                refine xi_iload_n (pc' := 2) (x := 0) kc_11_1 rfl rfl ?_
                refine xi_cmf (pc' := 5) kc_11_2 rfl rfl ?_
                refine xi_iload_n (pc' := 6) (x := 3) kc_11_5 rfl rfl ?_
                refine xi_iload_n (pc' := 7) (x := 5) kc_11_6 rfl rfl ?_
                refine xi_cmf (pc' := 10) kc_11_7 rfl rfl ?_
                refine xi_iconst (pc' := 11) (v := 1) kc_11_10 rfl rfl ?_
                refine xi_goto (pc' := 15) kc_11_11 rfl ?_
                refine xi_ireturn kc_11_15 mr_11 rfl ?_
                show xw J ov 99 9 (24, [(0, .ref 115), (1, .int a4), (2, .int 3), (3, .int a8)], [.int 1], hh711) _
                refine xi_ift (pc' := 34) kc_9_24 rfl rfl ?_
                refine xi_iload_n (pc' := 35) (x := a8) kc_9_34 rfl rfl ?_
                refine xi_iload_n (pc' := 36) (x := 3) kc_9_35 rfl rfl ?_
                refine xi_ift (pc' := 44) kc_9_36 rfl rfl ?_
                refine xi_iconst (pc' := 45) (v := 0) kc_9_44 rfl rfl ?_
                refine xi_cmt (pc' := 55) kc_9_45 rfl (xc_ge_t (X := a8.toInt) (Y := 0) rfl (by decide) (by omega)) ?_
                refine xi_iload_n (pc' := 56) (x := a8) kc_9_55 rfl rfl ?_
                refine xi_iload_n (pc' := 57) (x := 3) kc_9_56 rfl rfl ?_
                refine xi_ift (pc' := 65) kc_9_57 rfl rfl ?_
                refine xi_iload_n (pc' := 66) (x := 3) kc_9_65 rfl rfl ?_
                refine xi_iconst (pc' := 67) (v := 1) kc_9_66 rfl rfl ?_
                refine xi_cmt (pc' := 75) kc_9_67 rfl rfl ?_
                refine xi_iload_n (pc' := 76) (x := 3) kc_9_75 rfl rfl ?_
                refine xi_iconst (pc' := 77) (v := 4) kc_9_76 rfl rfl ?_
                refine xi_cmf (pc' := 80) kc_9_77 rfl rfl ?_
                refine xi_bipush (pc' := 82) (v := 50) kc_9_80 rfl rfl ?_
                refine xi_goto (pc' := 96) kc_9_82 rfl ?_
                refine xi_cmf (pc' := 99) kc_9_96 rfl (xc_le_f (X := a8.toInt) (Y := 50) rfl (by decide) (by omega)) ?_
                refine xi_aload_n (pc' := 100) (x := 115) kc_9_99 rfl rfl ?_
                refine xi_bipush (pc' := 102) (v := (-6)) kc_9_100 rfl rfl ?_
                refine xi_virtual (mj := 12) (as := [.int (-6)]) (st1 := []) (lv0 := [(0, .ref 115), (1, .int (-6))]) kc_9_102 rfl rfl rfl rfl rfl eh710.1 (Nat.le_of_ble_eq_true rfl) (hJ _ _ _ _ (by decide)) (xm_le ml_12 rfl) rfl ?_
                refine xi_aload_n (pc' := 1) (x := 115) kc_12_0 rfl rfl ?_
                refine xi_getfield (pc' := 4) (v := .ref 140) kc_12_1 rfl rfl rfl eh710.1 rfl ?_
                refine xi_iload_n (pc' := 5) (x := (-6)) kc_12_4 rfl rfl ?_
                refine xi_ineg (pc' := 6) (v := 6) kc_12_5 rfl rfl ?_
                refine xi_dup2 (pc' := 7) kc_12_6 rfl ⟨rfl, rfl⟩ ?_
                obtain ⟨y714, A714, hy714, ry714⟩ := xk_arr K.1 xD_140
                obtain ⟨v715, ev715, bv715, dv715⟩ := xj_get hy714 ry714 (i := 6) (by decide) (by decide)
                have A716 := ((eh710.2.1 140 (by decide)).trans ((eh692.2.1 140 (by decide)).trans A714))
                refine xi_iaload (pc' := 8) (v := v715) kc_12_7 rfl A716 (by decide) rfl (xi_in (by decide) (by rw [hy714]; decide)) ev715 ?_
                refine xi_iconst (pc' := 9) (v := 1) kc_12_8 rfl rfl ?_
                obtain ⟨v717, ev717⟩ : ∃ q : Int32, (v715 : Int32) + 1 = q := ⟨_, rfl⟩
                have rv717 := xc_rng v717
                refine xi_iadd (pc' := 10) (v := v717) kc_12_9 rfl ev717 ?_
                obtain ⟨y718, s718, hy718, ry718⟩ := xj_set (v := v717) hy714 ry714 6 (by first | omega | decide) (by first | omega | decide)
                refine xi_iastore (pc' := 11) (x' := y718) kc_12_10 rfl A716 rfl (xi_in (by decide) (by rw [hy714]; decide)) s718 (fun hh718 eh718 => ?_)
                have K719 := xk_pa K712 (xk_wa (by decide +kernel)) xD_140 hy718 ry718 eh718
                have KR720 := xk_pa KR713 (xk_wa (by decide +kernel)) xD_140 hy718 ry718 eh718
                refine xi_iload_n (pc' := 12) (x := (-6)) kc_12_11 rfl rfl ?_
                refine xi_ireturn kc_12_12 mr_12 rfl ?_
                show xw J ov 99 9 (105, [(0, .ref 115), (1, .int a4), (2, .int 3), (3, .int a8)], [.int (-6)], hh718) _
                refine xi_ireturn kc_9_105 mr_9 rfl ?_
                show xw J ov 100 195 (236, [(4, .int x4), (3, .ref 167), (2, .ref 115), (1, .ref 0), (0, .ref 1000000)], [.int (-6), .int (-6)], hh718) _
                refine xi_cmt (pc' := 1501) kc_195_236 rfl rfl ?_
                obtain ⟨v721, ev721⟩ : ∃ q : Int32, x4 + 6 = q := ⟨_, rfl⟩
                have zv721 : v721.toInt = (x4.toInt + 6) := by rw [← ev721]; exact (xz_add (X := x4.toInt) (Y := 6) rfl (by decide) (by omega) (by omega)).trans (by omega)
                refine xi_iinc (pc' := 1504) (x := x4) (v := v721) (lv' := [(4, .int v721), (3, .ref 167), (2, .ref 115), (1, .ref 0), (0, .ref 1000000)]) kc_195_1501 rfl rfl ev721 rfl (xm_lt ml_195 rfl) ?_
                refine xi_goto (pc' := 23) kc_195_1504 rfl ?_
                exact kk v721 hh718 (by omega) K719 (xI_kept I KR720.2.1)
            · refine xi_cmf (pc' := 38) kc_88_35 rfl (xc_ge_f (X := a8.toInt) (Y := 0) rfl (by decide) (by omega)) ?_
              refine xi_aload_n (pc' := 39) (x := 0) kc_88_38 rfl rfl ?_
              refine xi_bipush (pc' := 41) (v := (-4)) kc_88_39 rfl rfl ?_
              refine xi_virtual (mj := 90) (as := [.int (-4)]) (st1 := []) (lv0 := [(0, .ref 0), (1, .int (-4))]) kc_88_41 rfl rfl rfl rfl rfl A11 (Nat.le_of_ble_eq_true rfl) (hJ _ _ _ _ (by decide)) (xm_le ml_90 rfl) rfl ?_
              refine xi_iload_n (pc' := 1) (x := (-4)) kc_90_0 rfl rfl ?_
              refine xi_ineg (pc' := 2) (v := 4) kc_90_1 rfl rfl ?_
              refine xi_istore_n (pc' := 3) (lv' := [(2, .int 4), (0, .ref 0), (1, .int (-4))]) kc_90_2 rfl rfl (xm_lt ml_90 rfl) ?_
              refine xi_iload_n (pc' := 4) (x := 4) kc_90_3 rfl rfl ?_
              refine xi_iff (pc' := 7) kc_90_4 rfl rfl ?_
              refine xi_iload_n (pc' := 8) (x := 4) kc_90_7 rfl rfl ?_
              refine xi_aload_n (pc' := 9) (x := 0) kc_90_8 rfl rfl ?_
              refine xi_getfield (pc' := 12) (v := .ref 94) kc_90_9 rfl rfl rfl A11 rfl ?_
              obtain ⟨y722, A722, hy722, ry722⟩ := xk_arr K.1 xD_94
              refine xi_arraylength (pc' := 13) (n := 7) (v := 7) kc_90_12 rfl (xl_lenI (by decide) (by decide) A722 hy722) rfl ?_
              refine xi_cmf (pc' := 16) kc_90_13 rfl rfl ?_
              refine xi_aload_n (pc' := 17) (x := 0) kc_90_16 rfl rfl ?_
              refine xi_getfield (pc' := 20) (v := .ref 94) kc_90_17 rfl rfl rfl A11 rfl ?_
              refine xi_iload_n (pc' := 21) (x := 4) kc_90_20 rfl rfl ?_
              refine xi_dup2 (pc' := 22) kc_90_21 rfl ⟨rfl, rfl⟩ ?_
              obtain ⟨v723, ev723, bv723, dv723⟩ := xj_get hy722 ry722 (i := 4) (by decide) (by decide)
              refine xi_iaload (pc' := 23) (v := v723) kc_90_22 rfl A722 (by decide) rfl (xi_in (by decide) (by rw [hy722]; decide)) ev723 ?_
              refine xi_iconst (pc' := 24) (v := 1) kc_90_23 rfl rfl ?_
              obtain ⟨v724, ev724⟩ : ∃ q : Int32, (v723 : Int32) + 1 = q := ⟨_, rfl⟩
              have rv724 := xc_rng v724
              refine xi_iadd (pc' := 25) (v := v724) kc_90_24 rfl ev724 ?_
              obtain ⟨y725, s725, hy725, ry725⟩ := xj_set (v := v724) hy722 ry722 4 (by first | omega | decide) (by first | omega | decide)
              refine xi_iastore (pc' := 26) (x' := y725) kc_90_25 rfl A722 rfl (xi_in (by decide) (by rw [hy722]; decide)) s725 (fun hh725 eh725 => ?_)
              have K726 := xk_pa K (xk_wa (by decide +kernel)) xD_94 hy725 ry725 eh725
              have KR727 := xk_pa KR (xk_wa (by decide +kernel)) xD_94 hy725 ry725 eh725
              refine xi_iload_n (pc' := 27) (x := (-4)) kc_90_26 rfl rfl ?_
              refine xi_ireturn kc_90_27 mr_90 rfl ?_
              show xw J ov 99 88 (44, [(0, .ref 0), (1, .int a4), (2, .int 3), (3, .int a8)], [.int (-4)], hh725) _
              refine xi_ireturn kc_88_44 mr_88 rfl ?_
              show xw J ov 100 195 (214, [(4, .int x4), (3, .ref 167), (2, .ref 115), (1, .ref 0), (0, .ref 1000000)], [.int (-4)], hh725) _
              refine xi_aload_n (pc' := 215) (x := 115) kc_195_214 rfl rfl ?_
              refine xi_aload_n (pc' := 216) (x := 1000000) kc_195_215 rfl rfl ?_
              refine xi_iload (pc' := 218) (x := x4) kc_195_216 rfl rfl ?_
              refine xi_iconst (pc' := 219) (v := 1) kc_195_218 rfl rfl ?_
              refine xi_iadd (pc' := 220) (v := v3) kc_195_219 rfl ev3 ?_
              refine xi_ialoadO (pc' := 221) (v := a4) kc_195_220 rfl (by decide) hov0 (xi_in (by omega) (by omega)) ea4 ?_
              refine xi_aload_n (pc' := 222) (x := 1000000) kc_195_221 rfl rfl ?_
              refine xi_iload (pc' := 224) (x := x4) kc_195_222 rfl rfl ?_
              refine xi_iconst (pc' := 225) (v := 2) kc_195_224 rfl rfl ?_
              refine xi_iadd (pc' := 226) (v := v5) kc_195_225 rfl ev5 ?_
              refine xi_ialoadO (pc' := 227) (v := 3) kc_195_226 rfl (by decide) hov0 (xi_in (by omega) (by omega)) ea6 ?_
              refine xi_aload_n (pc' := 228) (x := 1000000) kc_195_227 rfl rfl ?_
              refine xi_iload (pc' := 230) (x := x4) kc_195_228 rfl rfl ?_
              refine xi_iconst (pc' := 231) (v := 3) kc_195_230 rfl rfl ?_
              refine xi_iadd (pc' := 232) (v := v7) kc_195_231 rfl ev7 ?_
              refine xi_ialoadO (pc' := 233) (v := a8) kc_195_232 rfl (by decide) hov0 (xi_in (by omega) (by omega)) ea8 ?_
              obtain ⟨u728, u729, u730, u731, u732, u733, u734, u735, u736, u737, u738, u739, u740, bu728, bu729, bu730, bu731, bu732, bu733, bu734, bu735, bu736, bu737, bu738, bu739, bu740, A741⟩ := xq_115 K.1
              have A742 := ((eh725.2.1 115 (by decide)).trans A741)
              refine xi_virtual (mj := 9) (as := [.int a4, .int 3, .int a8]) (st1 := [.int (-4)]) (lv0 := [(0, .ref 115), (1, .int a4), (2, .int 3), (3, .int a8)]) kc_195_233 rfl rfl rfl rfl rfl A742 (Nat.le_of_ble_eq_true rfl) (hJ _ _ _ _ (by decide)) (xm_le ml_9 rfl) rfl ?_
              refine xi_aload_n (pc' := 1) (x := 115) kc_9_0 rfl rfl ?_
              refine xi_iconst (pc' := 2) (v := 0) kc_9_1 rfl rfl ?_
              refine xi_putfield (pc' := 5) (fs' := [.int 0, .int u729, .ref 116, .ref 117, .ref 118, .ref 119, .ref 120, .ref 121, .ref 122, .ref 123, .ref 124, .ref 125, .ref 126, .ref 127, .ref 128, .ref 129, .int u730, .ref 130, .int u731, .ref 131, .ref 132, .ref 133, .ref 134, .int u732, .ref 135, .ref 136, .ref 137, .ref 138, .ref 139, .ref 140, .ref 141, .ref 142, .int u733, .int u734, .int u735, .ref 143, .ref 144, .ref 145, .ref 146, .ref 147, .ref 148, .int u736, .ref 149, .ref 150, .ref 151, .int u737, .ref 152, .ref 153, .ref 154, .ref 155, .ref 156, .ref 157, .ref 158, .ref 159, .int u738, .ref 160, .int u739, .ref 161, .ref 162, .ref 163, .ref 164, .int u740, .ref 165, .ref 166]) kc_9_2 rfl rfl rfl A742 rfl rfl rfl (Nat.le_of_ble_eq_true rfl) rfl (fun hh744 eh743 => ?_)
              have K745 := xk_pf (k := 0) (v := 0) K726 (xk_wf (by decide +kernel)) xD_115 A742 rfl (by first | omega | decide) (by first | omega | decide) eh743 rfl
              have KR746 := xk_pf (k := 0) (v := 0) KR727 (xk_wf (by decide +kernel)) xD_115 A742 rfl (by first | omega | decide) (by first | omega | decide) eh743 rfl
              refine xi_iload_n (pc' := 6) (x := a4) kc_9_5 rfl rfl ?_
              refine xi_static (mj := 10) (as := [.int a4]) (st1 := []) (lv0 := [(0, .int a4)]) kc_9_6 rfl rfl (Nat.le_of_ble_eq_true rfl) rfl rfl (Nat.le_of_ble_eq_true rfl) (hJ _ _ _ _ (by decide)) (xm_le ml_10 rfl) rfl ?_
              refine xi_iload_n (pc' := 1) (x := a4) kc_10_0 rfl rfl ?_
              refine xi_iconst (pc' := 2) (v := 0) kc_10_1 rfl rfl ?_
              refine xi_iconst (pc' := 3) (v := 5) kc_10_2 rfl rfl ?_
              refine xi_static (mj := 11) (as := [.int a4, .int 0, .int 5]) (st1 := []) (lv0 := [(0, .int a4), (1, .int 0), (2, .int 5)]) kc_10_3 rfl rfl (Nat.le_of_ble_eq_true rfl) rfl rfl (Nat.le_of_ble_eq_true rfl) (hJ _ _ _ _ (by decide)) (xm_le ml_11 rfl) rfl ?_
              refine xi_iload_n (pc' := 1) (x := a4) kc_11_0 rfl rfl ?_
              refine xi_iload_n (pc' := 2) (x := 0) kc_11_1 rfl rfl ?_
              refine xi_cmf (pc' := 5) kc_11_2 rfl (xc_lt_f (X := a4.toInt) (Y := 0) rfl (by decide) (by omega)) ?_
              refine xi_iload_n (pc' := 6) (x := a4) kc_11_5 rfl rfl ?_
              refine xi_iload_n (pc' := 7) (x := 5) kc_11_6 rfl rfl ?_
              refine xi_cmf (pc' := 10) kc_11_7 rfl (xc_gt_f (X := a4.toInt) (Y := 5) rfl (by decide) (by omega)) ?_
              refine xi_iconst (pc' := 11) (v := 1) kc_11_10 rfl rfl ?_
              refine xi_goto (pc' := 15) kc_11_11 rfl ?_
              refine xi_ireturn kc_11_15 mr_11 rfl ?_
              show xw J ov 98 10 (6, [(0, .int a4)], [.int 1], hh744) _
              refine xi_ireturn kc_10_6 mr_10 rfl ?_
              show xw J ov 99 9 (9, [(0, .ref 115), (1, .int a4), (2, .int 3), (3, .int a8)], [.int 1], hh744) _
              refine xi_ift (pc' := 18) kc_9_9 rfl rfl ?_
              refine xi_iload_n (pc' := 19) (x := 3) kc_9_18 rfl rfl ?_
              refine xi_iconst (pc' := 20) (v := 0) kc_9_19 rfl rfl ?_
              refine xi_iconst (pc' := 21) (v := 5) kc_9_20 rfl rfl ?_
              refine xi_static (mj := 11) (as := [.int 3, .int 0, .int 5]) (st1 := []) (lv0 := [(0, .int 3), (1, .int 0), (2, .int 5)]) kc_9_21 rfl rfl (Nat.le_of_ble_eq_true rfl) rfl rfl (Nat.le_of_ble_eq_true rfl) (hJ _ _ _ _ (by decide)) (xm_le ml_11 rfl) rfl ?_
              refine xi_iload_n (pc' := 1) (x := 3) kc_11_0 rfl rfl ?_
              refine xi_iload_n (pc' := 2) (x := 0) kc_11_1 rfl rfl ?_
              refine xi_cmf (pc' := 5) kc_11_2 rfl rfl ?_
              refine xi_iload_n (pc' := 6) (x := 3) kc_11_5 rfl rfl ?_
              refine xi_iload_n (pc' := 7) (x := 5) kc_11_6 rfl rfl ?_
              refine xi_cmf (pc' := 10) kc_11_7 rfl rfl ?_
              refine xi_iconst (pc' := 11) (v := 1) kc_11_10 rfl rfl ?_
              refine xi_goto (pc' := 15) kc_11_11 rfl ?_
              refine xi_ireturn kc_11_15 mr_11 rfl ?_
              show xw J ov 99 9 (24, [(0, .ref 115), (1, .int a4), (2, .int 3), (3, .int a8)], [.int 1], hh744) _
              refine xi_ift (pc' := 34) kc_9_24 rfl rfl ?_
              refine xi_iload_n (pc' := 35) (x := a8) kc_9_34 rfl rfl ?_
              refine xi_iload_n (pc' := 36) (x := 3) kc_9_35 rfl rfl ?_
              refine xi_ift (pc' := 44) kc_9_36 rfl rfl ?_
              refine xi_iconst (pc' := 45) (v := 0) kc_9_44 rfl rfl ?_
              refine xi_cmf (pc' := 48) kc_9_45 rfl (xc_ge_f (X := a8.toInt) (Y := 0) rfl (by decide) (by omega)) ?_
              refine xi_aload_n (pc' := 49) (x := 115) kc_9_48 rfl rfl ?_
              refine xi_bipush (pc' := 51) (v := (-4)) kc_9_49 rfl rfl ?_
              refine xi_virtual (mj := 12) (as := [.int (-4)]) (st1 := []) (lv0 := [(0, .ref 115), (1, .int (-4))]) kc_9_51 rfl rfl rfl rfl rfl eh743.1 (Nat.le_of_ble_eq_true rfl) (hJ _ _ _ _ (by decide)) (xm_le ml_12 rfl) rfl ?_
              refine xi_aload_n (pc' := 1) (x := 115) kc_12_0 rfl rfl ?_
              refine xi_getfield (pc' := 4) (v := .ref 140) kc_12_1 rfl rfl rfl eh743.1 rfl ?_
              refine xi_iload_n (pc' := 5) (x := (-4)) kc_12_4 rfl rfl ?_
              refine xi_ineg (pc' := 6) (v := 4) kc_12_5 rfl rfl ?_
              refine xi_dup2 (pc' := 7) kc_12_6 rfl ⟨rfl, rfl⟩ ?_
              obtain ⟨y747, A747, hy747, ry747⟩ := xk_arr K.1 xD_140
              obtain ⟨v748, ev748, bv748, dv748⟩ := xj_get hy747 ry747 (i := 4) (by decide) (by decide)
              have A749 := ((eh743.2.1 140 (by decide)).trans ((eh725.2.1 140 (by decide)).trans A747))
              refine xi_iaload (pc' := 8) (v := v748) kc_12_7 rfl A749 (by decide) rfl (xi_in (by decide) (by rw [hy747]; decide)) ev748 ?_
              refine xi_iconst (pc' := 9) (v := 1) kc_12_8 rfl rfl ?_
              obtain ⟨v750, ev750⟩ : ∃ q : Int32, (v748 : Int32) + 1 = q := ⟨_, rfl⟩
              have rv750 := xc_rng v750
              refine xi_iadd (pc' := 10) (v := v750) kc_12_9 rfl ev750 ?_
              obtain ⟨y751, s751, hy751, ry751⟩ := xj_set (v := v750) hy747 ry747 4 (by first | omega | decide) (by first | omega | decide)
              refine xi_iastore (pc' := 11) (x' := y751) kc_12_10 rfl A749 rfl (xi_in (by decide) (by rw [hy747]; decide)) s751 (fun hh751 eh751 => ?_)
              have K752 := xk_pa K745 (xk_wa (by decide +kernel)) xD_140 hy751 ry751 eh751
              have KR753 := xk_pa KR746 (xk_wa (by decide +kernel)) xD_140 hy751 ry751 eh751
              refine xi_iload_n (pc' := 12) (x := (-4)) kc_12_11 rfl rfl ?_
              refine xi_ireturn kc_12_12 mr_12 rfl ?_
              show xw J ov 99 9 (54, [(0, .ref 115), (1, .int a4), (2, .int 3), (3, .int a8)], [.int (-4)], hh751) _
              refine xi_ireturn kc_9_54 mr_9 rfl ?_
              show xw J ov 100 195 (236, [(4, .int x4), (3, .ref 167), (2, .ref 115), (1, .ref 0), (0, .ref 1000000)], [.int (-4), .int (-4)], hh751) _
              refine xi_cmt (pc' := 1501) kc_195_236 rfl rfl ?_
              obtain ⟨v754, ev754⟩ : ∃ q : Int32, x4 + 6 = q := ⟨_, rfl⟩
              have zv754 : v754.toInt = (x4.toInt + 6) := by rw [← ev754]; exact (xz_add (X := x4.toInt) (Y := 6) rfl (by decide) (by omega) (by omega)).trans (by omega)
              refine xi_iinc (pc' := 1504) (x := x4) (v := v754) (lv' := [(4, .int v754), (3, .ref 167), (2, .ref 115), (1, .ref 0), (0, .ref 1000000)]) kc_195_1501 rfl rfl ev754 rfl (xm_lt ml_195 rfl) ?_
              refine xi_goto (pc' := 23) kc_195_1504 rfl ?_
              exact kk v754 hh751 (by omega) K752 (xI_kept I KR753.2.1)
          by_cases c755 : a6.toInt = 4
          · have qa6 : a6 = 4 := xc_of (Eq.trans (by omega) (show (4 : Int) = (4 : Int32).toInt by decide))
            subst qa6
            refine xi_ialoadO (pc' := 35) (v := 0) kc_88_34 rfl (by decide) hov1 (xi_in (n := 6) (by decide) (by decide)) rfl ?_
            by_cases c756 : 0 ≤ a8.toInt
            · refine xi_cmt (pc' := 45) kc_88_35 rfl (xc_ge_t (X := a8.toInt) (Y := 0) rfl (by decide) (by omega)) ?_
              refine xi_iload_n (pc' := 46) (x := a8) kc_88_45 rfl rfl ?_
              refine xi_getstatic (pc' := 49) (j := 1000002) kc_88_46 rfl rfl ?_
              refine xi_iload_n (pc' := 50) (x := 4) kc_88_49 rfl rfl ?_
              refine xi_ialoadO (pc' := 51) (v := 1) kc_88_50 rfl (by decide) hov2 (xi_in (n := 6) (by decide) (by decide)) rfl ?_
              by_cases c757 : a8.toInt ≤ 1
              · refine xi_cmt (pc' := 61) kc_88_51 rfl (xc_le_t (X := a8.toInt) (Y := 1) rfl (by decide) (by omega)) ?_
                refine xi_iload_n (pc' := 62) (x := 4) kc_88_61 rfl rfl ?_
                refine xi_iconst (pc' := 63) (v := 5) kc_88_62 rfl rfl ?_
                refine xi_cmt (pc' := 90) kc_88_63 rfl rfl ?_
                refine xi_aload_n (pc' := 91) (x := 0) kc_88_90 rfl rfl ?_
                refine xi_getfield (pc' := 94) (v := .ref 66) kc_88_91 rfl rfl rfl A11 rfl ?_
                obtain ⟨u759, wl758, bu759, A760⟩ := xq_66 K.1
                refine xi_virtual (mj := 91) (as := []) (st1 := []) (lv0 := [(0, .ref 66)]) kc_88_94 rfl rfl rfl rfl rfl A760 (Nat.le_of_ble_eq_true rfl) (hJ _ _ _ _ (by decide)) (xm_le ml_91 rfl) rfl ?_
                refine xi_aload_n (pc' := 1) (x := 66) kc_91_0 rfl rfl ?_
                refine xi_lconst (pc' := 2) (v := 0) kc_91_1 rfl rfl ?_
                refine xi_putfield (pc' := 5) (fs' := [.ref 1, .ref 67, .ref 70, .ref 71, .ref 72, .ref 73, .ref 74, .long 0, .int u759]) kc_91_2 rfl rfl rfl A760 rfl rfl rfl (Nat.le_of_ble_eq_true rfl) rfl (fun hh762 eh761 => ?_)
                have K763 := xk_pl (k := 7) (v := 0) K (xk_wf (by decide +kernel)) xD_66 A760 rfl eh761 rfl
                have KR764 := xk_pl (k := 7) (v := 0) KR (xk_wf (by decide +kernel)) xD_66 A760 rfl eh761 rfl
                refine xi_return kc_91_5 mr_91 ?_
                show xw J ov 99 88 (97, [(0, .ref 0), (1, .int a4), (2, .int 4), (3, .int a8)], [], hh762) _
                refine xi_aload_n (pc' := 98) (x := 0) kc_88_97 rfl rfl ?_
                have A765 := ((eh761.2.1 0 (by decide)).trans A11)
                refine xi_getfield (pc' := 101) (v := .ref 1) kc_88_98 rfl rfl rfl A765 rfl ?_
                refine xi_iload_n (pc' := 102) (x := a4) kc_88_101 rfl rfl ?_
                refine xi_iload_n (pc' := 103) (x := 4) kc_88_102 rfl rfl ?_
                refine xi_iload_n (pc' := 104) (x := a8) kc_88_103 rfl rfl ?_
                obtain ⟨u766, u767, bu766, bu767, A768⟩ := xq_1 K.1
                have A769 := ((eh761.2.1 1 (by decide)).trans A768)
                refine xi_virtual (mj := 92) (as := [.int a4, .int 4, .int a8]) (st1 := []) (lv0 := [(0, .ref 1), (1, .int a4), (2, .int 4), (3, .int a8)]) kc_88_104 rfl rfl rfl rfl rfl A769 (Nat.le_of_ble_eq_true rfl) (hJ _ _ _ _ (by decide)) (xm_le ml_92 rfl) rfl ?_
                have F770 := xra_fr WWb (xl_c (eh761.2.1 121 (by decide)))
                have F771 := xg6_c I6 (fun c hc => eh761.2.1 c (Ne.symm (xk_nc hc rfl)))
                have F772 := xr5_c I5 (fun c hc => eh761.2.1 c (Ne.symm (xk_nc hc rfl)))
                have zc4 : (4 : Int32).toInt = 4 := by decide
                refine xw_chg hJ hov1 hov2 (d := 96) (x1 := a4) (x2 := 4) (x3 := a8) K763.1 F771 (by omega) (by omega) (fun r773 hh774 hr773 K775 I776 => ?_)
                have rr773 := xc_rng r773
                have nqr773 : Int32.toNatClampNeg 4 = 4 := by decide
                rw [nqr773] at hr773 I776
                have I7765 := xr5_k F772 K775 (by decide +kernel)
                have I776W := xra_fr F770 (K775.2.1 (121, 0) (by decide +kernel))
                have A777 := ((eh761.2.1 64 (by decide)).trans A1)
                have K778 := xk_tr K763 K775 (xsb_ok _ _ (by decide +kernel))
                have A779 := xk_eqa (q := 0) K775 (by decide +kernel) A777
                obtain ⟨u780, u781, bu780, bu781, A782⟩ := xq_0 K778.1
                have e783 : u10 = u781 := xk_eqi (q := 9) K775 (by decide +kernel) A765 A782 rfl rfl
                subst e783
                have e784 : u9 = u780 := xk_eqi (q := 8) K775 (by decide +kernel) A765 A782 rfl rfl
                subst e784
                obtain ⟨u785, u786, bu785, bu786, A787⟩ := xq_1 K778.1
                have e788 : u766 = u785 := xk_eqi (q := 5) K775 (by decide +kernel) A769 A787 rfl rfl
                subst e788
                show xw J ov 99 88 (107, [(0, .ref 0), (1, .int a4), (2, .int 4), (3, .int a8)], [.int r773], hh774) _
                refine xi_ireturn kc_88_107 mr_88 rfl ?_
                show xw J ov 100 195 (214, [(4, .int x4), (3, .ref 167), (2, .ref 115), (1, .ref 0), (0, .ref 1000000)], [.int r773], hh774) _
                refine xi_aload_n (pc' := 215) (x := 115) kc_195_214 rfl rfl ?_
                refine xi_aload_n (pc' := 216) (x := 1000000) kc_195_215 rfl rfl ?_
                refine xi_iload (pc' := 218) (x := x4) kc_195_216 rfl rfl ?_
                refine xi_iconst (pc' := 219) (v := 1) kc_195_218 rfl rfl ?_
                refine xi_iadd (pc' := 220) (v := v3) kc_195_219 rfl ev3 ?_
                refine xi_ialoadO (pc' := 221) (v := a4) kc_195_220 rfl (by decide) hov0 (xi_in (by omega) (by omega)) ea4 ?_
                refine xi_aload_n (pc' := 222) (x := 1000000) kc_195_221 rfl rfl ?_
                refine xi_iload (pc' := 224) (x := x4) kc_195_222 rfl rfl ?_
                refine xi_iconst (pc' := 225) (v := 2) kc_195_224 rfl rfl ?_
                refine xi_iadd (pc' := 226) (v := v5) kc_195_225 rfl ev5 ?_
                refine xi_ialoadO (pc' := 227) (v := 4) kc_195_226 rfl (by decide) hov0 (xi_in (by omega) (by omega)) ea6 ?_
                refine xi_aload_n (pc' := 228) (x := 1000000) kc_195_227 rfl rfl ?_
                refine xi_iload (pc' := 230) (x := x4) kc_195_228 rfl rfl ?_
                refine xi_iconst (pc' := 231) (v := 3) kc_195_230 rfl rfl ?_
                refine xi_iadd (pc' := 232) (v := v7) kc_195_231 rfl ev7 ?_
                refine xi_ialoadO (pc' := 233) (v := a8) kc_195_232 rfl (by decide) hov0 (xi_in (by omega) (by omega)) ea8 ?_
                obtain ⟨u789, u790, u791, u792, u793, u794, u795, u796, u797, u798, u799, u800, u801, bu789, bu790, bu791, bu792, bu793, bu794, bu795, bu796, bu797, bu798, bu799, bu800, bu801, A802⟩ := xq_115 K778.1
                refine xi_virtual (mj := 9) (as := [.int a4, .int 4, .int a8]) (st1 := [.int r773]) (lv0 := [(0, .ref 115), (1, .int a4), (2, .int 4), (3, .int a8)]) kc_195_233 rfl rfl rfl rfl rfl A802 (Nat.le_of_ble_eq_true rfl) (hJ _ _ _ _ (by decide)) (xm_le ml_9 rfl) rfl ?_
                refine xi_aload_n (pc' := 1) (x := 115) kc_9_0 rfl rfl ?_
                refine xi_iconst (pc' := 2) (v := 0) kc_9_1 rfl rfl ?_
                refine xi_putfield (pc' := 5) (fs' := [.int 0, .int u790, .ref 116, .ref 117, .ref 118, .ref 119, .ref 120, .ref 121, .ref 122, .ref 123, .ref 124, .ref 125, .ref 126, .ref 127, .ref 128, .ref 129, .int u791, .ref 130, .int u792, .ref 131, .ref 132, .ref 133, .ref 134, .int u793, .ref 135, .ref 136, .ref 137, .ref 138, .ref 139, .ref 140, .ref 141, .ref 142, .int u794, .int u795, .int u796, .ref 143, .ref 144, .ref 145, .ref 146, .ref 147, .ref 148, .int u797, .ref 149, .ref 150, .ref 151, .int u798, .ref 152, .ref 153, .ref 154, .ref 155, .ref 156, .ref 157, .ref 158, .ref 159, .int u799, .ref 160, .int u800, .ref 161, .ref 162, .ref 163, .ref 164, .int u801, .ref 165, .ref 166]) kc_9_2 rfl rfl rfl A802 rfl rfl rfl (Nat.le_of_ble_eq_true rfl) rfl (fun hh804 eh803 => ?_)
                have K805 := xk_pf (k := 0) (v := 0) K778 (xk_wf (by decide +kernel)) xD_115 A802 rfl (by first | omega | decide) (by first | omega | decide) eh803 rfl
                refine xi_iload_n (pc' := 6) (x := a4) kc_9_5 rfl rfl ?_
                refine xi_static (mj := 10) (as := [.int a4]) (st1 := []) (lv0 := [(0, .int a4)]) kc_9_6 rfl rfl (Nat.le_of_ble_eq_true rfl) rfl rfl (Nat.le_of_ble_eq_true rfl) (hJ _ _ _ _ (by decide)) (xm_le ml_10 rfl) rfl ?_
                refine xi_iload_n (pc' := 1) (x := a4) kc_10_0 rfl rfl ?_
                refine xi_iconst (pc' := 2) (v := 0) kc_10_1 rfl rfl ?_
                refine xi_iconst (pc' := 3) (v := 5) kc_10_2 rfl rfl ?_
                refine xi_static (mj := 11) (as := [.int a4, .int 0, .int 5]) (st1 := []) (lv0 := [(0, .int a4), (1, .int 0), (2, .int 5)]) kc_10_3 rfl rfl (Nat.le_of_ble_eq_true rfl) rfl rfl (Nat.le_of_ble_eq_true rfl) (hJ _ _ _ _ (by decide)) (xm_le ml_11 rfl) rfl ?_
                refine xi_iload_n (pc' := 1) (x := a4) kc_11_0 rfl rfl ?_
                refine xi_iload_n (pc' := 2) (x := 0) kc_11_1 rfl rfl ?_
                refine xi_cmf (pc' := 5) kc_11_2 rfl (xc_lt_f (X := a4.toInt) (Y := 0) rfl (by decide) (by omega)) ?_
                refine xi_iload_n (pc' := 6) (x := a4) kc_11_5 rfl rfl ?_
                refine xi_iload_n (pc' := 7) (x := 5) kc_11_6 rfl rfl ?_
                refine xi_cmf (pc' := 10) kc_11_7 rfl (xc_gt_f (X := a4.toInt) (Y := 5) rfl (by decide) (by omega)) ?_
                refine xi_iconst (pc' := 11) (v := 1) kc_11_10 rfl rfl ?_
                refine xi_goto (pc' := 15) kc_11_11 rfl ?_
                refine xi_ireturn kc_11_15 mr_11 rfl ?_
                show xw J ov 98 10 (6, [(0, .int a4)], [.int 1], hh804) _
                refine xi_ireturn kc_10_6 mr_10 rfl ?_
                show xw J ov 99 9 (9, [(0, .ref 115), (1, .int a4), (2, .int 4), (3, .int a8)], [.int 1], hh804) _
                refine xi_ift (pc' := 18) kc_9_9 rfl rfl ?_
                refine xi_iload_n (pc' := 19) (x := 4) kc_9_18 rfl rfl ?_
                refine xi_iconst (pc' := 20) (v := 0) kc_9_19 rfl rfl ?_
                refine xi_iconst (pc' := 21) (v := 5) kc_9_20 rfl rfl ?_
                refine xi_static (mj := 11) (as := [.int 4, .int 0, .int 5]) (st1 := []) (lv0 := [(0, .int 4), (1, .int 0), (2, .int 5)]) kc_9_21 rfl rfl (Nat.le_of_ble_eq_true rfl) rfl rfl (Nat.le_of_ble_eq_true rfl) (hJ _ _ _ _ (by decide)) (xm_le ml_11 rfl) rfl ?_
                refine xi_iload_n (pc' := 1) (x := 4) kc_11_0 rfl rfl ?_
                refine xi_iload_n (pc' := 2) (x := 0) kc_11_1 rfl rfl ?_
                refine xi_cmf (pc' := 5) kc_11_2 rfl rfl ?_
                refine xi_iload_n (pc' := 6) (x := 4) kc_11_5 rfl rfl ?_
                refine xi_iload_n (pc' := 7) (x := 5) kc_11_6 rfl rfl ?_
                refine xi_cmf (pc' := 10) kc_11_7 rfl rfl ?_
                refine xi_iconst (pc' := 11) (v := 1) kc_11_10 rfl rfl ?_
                refine xi_goto (pc' := 15) kc_11_11 rfl ?_
                refine xi_ireturn kc_11_15 mr_11 rfl ?_
                show xw J ov 99 9 (24, [(0, .ref 115), (1, .int a4), (2, .int 4), (3, .int a8)], [.int 1], hh804) _
                refine xi_ift (pc' := 34) kc_9_24 rfl rfl ?_
                refine xi_iload_n (pc' := 35) (x := a8) kc_9_34 rfl rfl ?_
                refine xi_iload_n (pc' := 36) (x := 4) kc_9_35 rfl rfl ?_
                refine xi_ift (pc' := 44) kc_9_36 rfl rfl ?_
                refine xi_iconst (pc' := 45) (v := 0) kc_9_44 rfl rfl ?_
                refine xi_cmt (pc' := 55) kc_9_45 rfl (xc_ge_t (X := a8.toInt) (Y := 0) rfl (by decide) (by omega)) ?_
                refine xi_iload_n (pc' := 56) (x := a8) kc_9_55 rfl rfl ?_
                refine xi_iload_n (pc' := 57) (x := 4) kc_9_56 rfl rfl ?_
                refine xi_ift (pc' := 65) kc_9_57 rfl rfl ?_
                refine xi_iload_n (pc' := 66) (x := 4) kc_9_65 rfl rfl ?_
                refine xi_iconst (pc' := 67) (v := 1) kc_9_66 rfl rfl ?_
                refine xi_cmt (pc' := 75) kc_9_67 rfl rfl ?_
                refine xi_iload_n (pc' := 76) (x := 4) kc_9_75 rfl rfl ?_
                refine xi_iconst (pc' := 77) (v := 4) kc_9_76 rfl rfl ?_
                refine xi_cmt (pc' := 85) kc_9_77 rfl rfl ?_
                refine xi_iload_n (pc' := 86) (x := 4) kc_9_85 rfl rfl ?_
                refine xi_iconst (pc' := 87) (v := 4) kc_9_86 rfl rfl ?_
                refine xi_cmf (pc' := 90) kc_9_87 rfl rfl ?_
                refine xi_iconst (pc' := 91) (v := 1) kc_9_90 rfl rfl ?_
                refine xi_goto (pc' := 96) kc_9_91 rfl ?_
                refine xi_cmt (pc' := 106) kc_9_96 rfl (xc_le_t (X := a8.toInt) (Y := 1) rfl (by decide) (by omega)) ?_
                refine xi_aload_n (pc' := 107) (x := 115) kc_9_106 rfl rfl ?_
                refine xi_iload_n (pc' := 108) (x := a4) kc_9_107 rfl rfl ?_
                refine xi_iload_n (pc' := 109) (x := 4) kc_9_108 rfl rfl ?_
                refine xi_virtual (mj := 13) (as := [.int a4, .int 4]) (st1 := []) (lv0 := [(0, .ref 115), (1, .int a4), (2, .int 4)]) kc_9_109 rfl rfl rfl rfl rfl eh803.1 (Nat.le_of_ble_eq_true rfl) (hJ _ _ _ _ (by decide)) (xm_le ml_13 rfl) rfl ?_
                have F806 := xg6_c I776 (fun c hc => eh803.2.1 c (Ne.symm (xk_nc hc rfl)))
                have F807 := xr5_c I7765 (fun c hc => eh803.2.1 c (Ne.symm (xk_nc hc rfl)))
                have F808 := xra_fr I776W (xl_c (eh803.2.1 121 (by decide)))
                have zc4 : (4 : Int32).toInt = 4 := by decide
                refine xw_rn hJ hov1 hov2 (d := 97) (x1 := a4) (x2 := 4) K805.1 F807 (by omega) (by omega) (fun r809 hr809 => ?_)
                have rr809 := xc_rng r809
                have nqr809 : Int32.toNatClampNeg 4 = 4 := by decide
                rw [nqr809] at hr809
                show xw J ov 99 9 (112, [(0, .ref 115), (1, .int a4), (2, .int 4), (3, .int a8)], [.int r809], hh804) _
                refine xi_istore (pc' := 114) (lv' := [(4, .int r809), (0, .ref 115), (1, .int a4), (2, .int 4), (3, .int a8)]) kc_9_112 rfl rfl (xm_lt ml_9 rfl) ?_
                refine xi_aload_n (pc' := 115) (x := 115) kc_9_114 rfl rfl ?_
                refine xi_iload_n (pc' := 116) (x := a4) kc_9_115 rfl rfl ?_
                refine xi_iload_n (pc' := 117) (x := 4) kc_9_116 rfl rfl ?_
                refine xi_iload_n (pc' := 118) (x := a8) kc_9_117 rfl rfl ?_
                refine xi_virtual (mj := 14) (as := [.int a4, .int 4, .int a8]) (st1 := []) (lv0 := [(0, .ref 115), (1, .int a4), (2, .int 4), (3, .int a8)]) kc_9_118 rfl rfl rfl rfl rfl eh803.1 (Nat.le_of_ble_eq_true rfl) (hJ _ _ _ _ (by decide)) (xm_le ml_14 rfl) rfl ?_
                refine xw_te4 hJ hov1 hov2 (d := 97) (x1 := a4) (x3 := a8) K805.1 F807 F808 (by omega) (by omega) (fun hh810 K811 F812 F813 => ?_)
                have F814 := xg6_k F806 K811 (by decide +kernel)
                have A815 := ((eh803.2.1 64 (by decide)).trans A779)
                have A816 := ((eh803.2.1 0 (by decide)).trans A782)
                have A817 := ((eh803.2.1 1 (by decide)).trans A787)
                have K818 := xk_tr K805 K811 (xsb_ok _ _ (by decide +kernel))
                have A819 := xk_eqa (q := 0) K811 (by decide +kernel) A815
                obtain ⟨u820, u821, bu820, bu821, A822⟩ := xq_0 K818.1
                have e823 : u10 = u821 := xk_eqi (q := 9) K811 (by decide +kernel) A816 A822 rfl rfl
                subst e823
                have e824 : u9 = u820 := xk_eqi (q := 8) K811 (by decide +kernel) A816 A822 rfl rfl
                subst e824
                obtain ⟨u825, u826, bu825, bu826, A827⟩ := xq_1 K818.1
                have e828 : u766 = u825 := xk_eqi (q := 5) K811 (by decide +kernel) A817 A827 rfl rfl
                subst e828
                obtain ⟨u829, u830, u831, u832, u833, u834, u835, u836, u837, u838, u839, u840, u841, bu829, bu830, bu831, bu832, bu833, bu834, bu835, bu836, bu837, bu838, bu839, bu840, bu841, A842⟩ := xq_115 K818.1
                have e843 : u790 = u830 := xk_eqi (q := 1) K811 (by decide +kernel) eh803.1 A842 rfl rfl
                subst e843
                have e844 : u793 = u833 := xk_eqi (q := 23) K811 (by decide +kernel) eh803.1 A842 rfl rfl
                subst e844
                have e845 : u796 = u836 := xk_eqi (q := 34) K811 (by decide +kernel) eh803.1 A842 rfl rfl
                subst e845
                have e846 : u794 = u834 := xk_eqi (q := 32) K811 (by decide +kernel) eh803.1 A842 rfl rfl
                subst e846
                show xw J ov 99 9 (121, [(4, .int r809), (0, .ref 115), (1, .int a4), (2, .int 4), (3, .int a8)], [], hh810) _
                refine xi_iload (pc' := 123) (x := r809) kc_9_121 rfl rfl ?_
                refine xi_ireturn kc_9_123 mr_9 rfl ?_
                show xw J ov 100 195 (236, [(4, .int x4), (3, .ref 167), (2, .ref 115), (1, .ref 0), (0, .ref 1000000)], [.int r809, .int r773], hh810) _
                by_cases c847 : r773.toInt = r809.toInt
                · refine xi_cmt (pc' := 1501) kc_195_236 rfl (xc_eq_t (X := r773.toInt) (Y := r809.toInt) rfl rfl (by omega)) ?_
                  obtain ⟨v848, ev848⟩ : ∃ q : Int32, x4 + 6 = q := ⟨_, rfl⟩
                  have zv848 : v848.toInt = (x4.toInt + 6) := by rw [← ev848]; exact (xz_add (X := x4.toInt) (Y := 6) rfl (by decide) (by omega) (by omega)).trans (by omega)
                  refine xi_iinc (pc' := 1504) (x := x4) (v := v848) (lv' := [(4, .int v848), (3, .ref 167), (2, .ref 115), (1, .ref 0), (0, .ref 1000000)]) kc_195_1501 rfl rfl ev848 rfl (xm_lt ml_195 rfl) ?_
                  refine xi_goto (pc' := 23) kc_195_1504 rfl ?_
                  exact kk v848 hh810 (by omega) K818 ⟨((K818.2.1 (0, 9) (by decide +kernel)).trans (I.1.trans (K818.2.1 (115, 1) (by decide +kernel)).symm)), ⟨w, xra_mk A819 R2, F813, WWr⟩, ⟨_, F814, F812⟩, (by rw [(K818.2.1 (13, 0) (by decide +kernel)), (K818.2.1 (122, 0) (by decide +kernel))]; exact I.2.2.2.1), (by rw [(K818.2.1 (16, 0) (by decide +kernel)), (K818.2.1 (122, 0) (by decide +kernel))]; exact I.2.2.2.2.1), (by rw [(K818.2.1 (19, 0) (by decide +kernel)), (K818.2.1 (122, 0) (by decide +kernel))]; exact I.2.2.2.2.2.1), (by rw [(K818.2.1 (22, 0) (by decide +kernel)), (K818.2.1 (122, 0) (by decide +kernel))]; exact I.2.2.2.2.2.2.1), (by rw [(K818.2.1 (25, 0) (by decide +kernel)), (K818.2.1 (122, 0) (by decide +kernel))]; exact I.2.2.2.2.2.2.2.1), (by rw [(K818.2.1 (28, 0) (by decide +kernel)), (K818.2.1 (122, 0) (by decide +kernel))]; exact I.2.2.2.2.2.2.2.2.1), (by rw [(K818.2.1 (6, 0) (by decide +kernel)), (K818.2.1 (123, 0) (by decide +kernel))]; exact I.2.2.2.2.2.2.2.2.2.1), (by rw [(K818.2.1 (9, 0) (by decide +kernel)), (K818.2.1 (124, 0) (by decide +kernel))]; exact I.2.2.2.2.2.2.2.2.2.2.1), (by rw [(K818.2.1 (7, 0) (by decide +kernel)), (K818.2.1 (6, 0) (by decide +kernel))]; exact I.2.2.2.2.2.2.2.2.2.2.2.1), (by rw [(K818.2.1 (10, 0) (by decide +kernel)), (K818.2.1 (9, 0) (by decide +kernel))]; exact I.2.2.2.2.2.2.2.2.2.2.2.2.1), ((K818.2.1 (5, 0) (by decide +kernel)).trans I.2.2.2.2.2.2.2.2.2.2.2.2.2.1), ((K818.2.1 (8, 0) (by decide +kernel)).trans I.2.2.2.2.2.2.2.2.2.2.2.2.2.2.1), (xGR_fr I.2.2.2.2.2.2.2.2.2.2.2.2.2.2.2.1 K818.2.1 (by decide +kernel) (by decide +kernel)), (xGR_fr I.2.2.2.2.2.2.2.2.2.2.2.2.2.2.2.2.1 K818.2.1 (by decide +kernel) (by decide +kernel)), ((K818.2.1 (1, 5) (by decide +kernel)).trans (I.2.2.2.2.2.2.2.2.2.2.2.2.2.2.2.2.2.1.trans (K818.2.1 (115, 23) (by decide +kernel)).symm)), (xGR_fr I.2.2.2.2.2.2.2.2.2.2.2.2.2.2.2.2.2.2.1 K818.2.1 (by decide +kernel) (by decide +kernel)), (xGR_fr I.2.2.2.2.2.2.2.2.2.2.2.2.2.2.2.2.2.2.2.1 K818.2.1 (by decide +kernel) (by decide +kernel)), (xGR_fr I.2.2.2.2.2.2.2.2.2.2.2.2.2.2.2.2.2.2.2.2.1 K818.2.1 (by decide +kernel) (by decide +kernel)), (xGR_fr I.2.2.2.2.2.2.2.2.2.2.2.2.2.2.2.2.2.2.2.2.2.1 K818.2.1 (by decide +kernel) (by decide +kernel)), (by rw [(K818.2.1 (63, 2) (by decide +kernel)), (K818.2.1 (139, 0) (by decide +kernel)), (K818.2.1 (1, 5) (by decide +kernel))]; exact I.2.2.2.2.2.2.2.2.2.2.2.2.2.2.2.2.2.2.2.2.2.2.1), ((K818.2.1 (0, 8) (by decide +kernel)).trans (I.2.2.2.2.2.2.2.2.2.2.2.2.2.2.2.2.2.2.2.2.2.2.2.1.trans (K818.2.1 (115, 34) (by decide +kernel)).symm)), (xGR_fr I.2.2.2.2.2.2.2.2.2.2.2.2.2.2.2.2.2.2.2.2.2.2.2.2.1 K818.2.1 (by decide +kernel) (by decide +kernel)), (xGR_fr I.2.2.2.2.2.2.2.2.2.2.2.2.2.2.2.2.2.2.2.2.2.2.2.2.2.1 K818.2.1 (by decide +kernel) (by decide +kernel)), (xGR_fr I.2.2.2.2.2.2.2.2.2.2.2.2.2.2.2.2.2.2.2.2.2.2.2.2.2.2.1 K818.2.1 (by decide +kernel) (by decide +kernel)), (xGR_fr I.2.2.2.2.2.2.2.2.2.2.2.2.2.2.2.2.2.2.2.2.2.2.2.2.2.2.2.1 K818.2.1 (by decide +kernel) (by decide +kernel)), (xts_fr I.2.2.2.2.2.2.2.2.2.2.2.2.2.2.2.2.2.2.2.2.2.2.2.2.2.2.2.2.1 (fun l hl => K818.2.1 l (xk_el (by decide +kernel) hl))), ((K818.2.1 (63, 3) (by decide +kernel)).trans I.2.2.2.2.2.2.2.2.2.2.2.2.2.2.2.2.2.2.2.2.2.2.2.2.2.2.2.2.2)⟩
                · refine xi_cmf (pc' := 239) kc_195_236 rfl (xc_eq_f (X := r773.toInt) (Y := r809.toInt) rfl rfl (by omega)) ?_
                  refine xi_iconst (pc' := 240) (v := 0) kc_195_239 rfl rfl ?_
                  refine xi_ireturn kc_195_240 mr_195 rfl ?_
                  exfalso; omega
              · refine xi_cmf (pc' := 54) kc_88_51 rfl (xc_le_f (X := a8.toInt) (Y := 1) rfl (by decide) (by omega)) ?_
                refine xi_aload_n (pc' := 55) (x := 0) kc_88_54 rfl rfl ?_
                refine xi_bipush (pc' := 57) (v := (-6)) kc_88_55 rfl rfl ?_
                refine xi_virtual (mj := 90) (as := [.int (-6)]) (st1 := []) (lv0 := [(0, .ref 0), (1, .int (-6))]) kc_88_57 rfl rfl rfl rfl rfl A11 (Nat.le_of_ble_eq_true rfl) (hJ _ _ _ _ (by decide)) (xm_le ml_90 rfl) rfl ?_
                refine xi_iload_n (pc' := 1) (x := (-6)) kc_90_0 rfl rfl ?_
                refine xi_ineg (pc' := 2) (v := 6) kc_90_1 rfl rfl ?_
                refine xi_istore_n (pc' := 3) (lv' := [(2, .int 6), (0, .ref 0), (1, .int (-6))]) kc_90_2 rfl rfl (xm_lt ml_90 rfl) ?_
                refine xi_iload_n (pc' := 4) (x := 6) kc_90_3 rfl rfl ?_
                refine xi_iff (pc' := 7) kc_90_4 rfl rfl ?_
                refine xi_iload_n (pc' := 8) (x := 6) kc_90_7 rfl rfl ?_
                refine xi_aload_n (pc' := 9) (x := 0) kc_90_8 rfl rfl ?_
                refine xi_getfield (pc' := 12) (v := .ref 94) kc_90_9 rfl rfl rfl A11 rfl ?_
                obtain ⟨y849, A849, hy849, ry849⟩ := xk_arr K.1 xD_94
                refine xi_arraylength (pc' := 13) (n := 7) (v := 7) kc_90_12 rfl (xl_lenI (by decide) (by decide) A849 hy849) rfl ?_
                refine xi_cmf (pc' := 16) kc_90_13 rfl rfl ?_
                refine xi_aload_n (pc' := 17) (x := 0) kc_90_16 rfl rfl ?_
                refine xi_getfield (pc' := 20) (v := .ref 94) kc_90_17 rfl rfl rfl A11 rfl ?_
                refine xi_iload_n (pc' := 21) (x := 6) kc_90_20 rfl rfl ?_
                refine xi_dup2 (pc' := 22) kc_90_21 rfl ⟨rfl, rfl⟩ ?_
                obtain ⟨v850, ev850, bv850, dv850⟩ := xj_get hy849 ry849 (i := 6) (by decide) (by decide)
                refine xi_iaload (pc' := 23) (v := v850) kc_90_22 rfl A849 (by decide) rfl (xi_in (by decide) (by rw [hy849]; decide)) ev850 ?_
                refine xi_iconst (pc' := 24) (v := 1) kc_90_23 rfl rfl ?_
                obtain ⟨v851, ev851⟩ : ∃ q : Int32, (v850 : Int32) + 1 = q := ⟨_, rfl⟩
                have rv851 := xc_rng v851
                refine xi_iadd (pc' := 25) (v := v851) kc_90_24 rfl ev851 ?_
                obtain ⟨y852, s852, hy852, ry852⟩ := xj_set (v := v851) hy849 ry849 6 (by first | omega | decide) (by first | omega | decide)
                refine xi_iastore (pc' := 26) (x' := y852) kc_90_25 rfl A849 rfl (xi_in (by decide) (by rw [hy849]; decide)) s852 (fun hh852 eh852 => ?_)
                have K853 := xk_pa K (xk_wa (by decide +kernel)) xD_94 hy852 ry852 eh852
                have KR854 := xk_pa KR (xk_wa (by decide +kernel)) xD_94 hy852 ry852 eh852
                refine xi_iload_n (pc' := 27) (x := (-6)) kc_90_26 rfl rfl ?_
                refine xi_ireturn kc_90_27 mr_90 rfl ?_
                show xw J ov 99 88 (60, [(0, .ref 0), (1, .int a4), (2, .int 4), (3, .int a8)], [.int (-6)], hh852) _
                refine xi_ireturn kc_88_60 mr_88 rfl ?_
                show xw J ov 100 195 (214, [(4, .int x4), (3, .ref 167), (2, .ref 115), (1, .ref 0), (0, .ref 1000000)], [.int (-6)], hh852) _
                refine xi_aload_n (pc' := 215) (x := 115) kc_195_214 rfl rfl ?_
                refine xi_aload_n (pc' := 216) (x := 1000000) kc_195_215 rfl rfl ?_
                refine xi_iload (pc' := 218) (x := x4) kc_195_216 rfl rfl ?_
                refine xi_iconst (pc' := 219) (v := 1) kc_195_218 rfl rfl ?_
                refine xi_iadd (pc' := 220) (v := v3) kc_195_219 rfl ev3 ?_
                refine xi_ialoadO (pc' := 221) (v := a4) kc_195_220 rfl (by decide) hov0 (xi_in (by omega) (by omega)) ea4 ?_
                refine xi_aload_n (pc' := 222) (x := 1000000) kc_195_221 rfl rfl ?_
                refine xi_iload (pc' := 224) (x := x4) kc_195_222 rfl rfl ?_
                refine xi_iconst (pc' := 225) (v := 2) kc_195_224 rfl rfl ?_
                refine xi_iadd (pc' := 226) (v := v5) kc_195_225 rfl ev5 ?_
                refine xi_ialoadO (pc' := 227) (v := 4) kc_195_226 rfl (by decide) hov0 (xi_in (by omega) (by omega)) ea6 ?_
                refine xi_aload_n (pc' := 228) (x := 1000000) kc_195_227 rfl rfl ?_
                refine xi_iload (pc' := 230) (x := x4) kc_195_228 rfl rfl ?_
                refine xi_iconst (pc' := 231) (v := 3) kc_195_230 rfl rfl ?_
                refine xi_iadd (pc' := 232) (v := v7) kc_195_231 rfl ev7 ?_
                refine xi_ialoadO (pc' := 233) (v := a8) kc_195_232 rfl (by decide) hov0 (xi_in (by omega) (by omega)) ea8 ?_
                obtain ⟨u855, u856, u857, u858, u859, u860, u861, u862, u863, u864, u865, u866, u867, bu855, bu856, bu857, bu858, bu859, bu860, bu861, bu862, bu863, bu864, bu865, bu866, bu867, A868⟩ := xq_115 K.1
                have A869 := ((eh852.2.1 115 (by decide)).trans A868)
                refine xi_virtual (mj := 9) (as := [.int a4, .int 4, .int a8]) (st1 := [.int (-6)]) (lv0 := [(0, .ref 115), (1, .int a4), (2, .int 4), (3, .int a8)]) kc_195_233 rfl rfl rfl rfl rfl A869 (Nat.le_of_ble_eq_true rfl) (hJ _ _ _ _ (by decide)) (xm_le ml_9 rfl) rfl ?_
                refine xi_aload_n (pc' := 1) (x := 115) kc_9_0 rfl rfl ?_
                refine xi_iconst (pc' := 2) (v := 0) kc_9_1 rfl rfl ?_
                refine xi_putfield (pc' := 5) (fs' := [.int 0, .int u856, .ref 116, .ref 117, .ref 118, .ref 119, .ref 120, .ref 121, .ref 122, .ref 123, .ref 124, .ref 125, .ref 126, .ref 127, .ref 128, .ref 129, .int u857, .ref 130, .int u858, .ref 131, .ref 132, .ref 133, .ref 134, .int u859, .ref 135, .ref 136, .ref 137, .ref 138, .ref 139, .ref 140, .ref 141, .ref 142, .int u860, .int u861, .int u862, .ref 143, .ref 144, .ref 145, .ref 146, .ref 147, .ref 148, .int u863, .ref 149, .ref 150, .ref 151, .int u864, .ref 152, .ref 153, .ref 154, .ref 155, .ref 156, .ref 157, .ref 158, .ref 159, .int u865, .ref 160, .int u866, .ref 161, .ref 162, .ref 163, .ref 164, .int u867, .ref 165, .ref 166]) kc_9_2 rfl rfl rfl A869 rfl rfl rfl (Nat.le_of_ble_eq_true rfl) rfl (fun hh871 eh870 => ?_)
                have K872 := xk_pf (k := 0) (v := 0) K853 (xk_wf (by decide +kernel)) xD_115 A869 rfl (by first | omega | decide) (by first | omega | decide) eh870 rfl
                have KR873 := xk_pf (k := 0) (v := 0) KR854 (xk_wf (by decide +kernel)) xD_115 A869 rfl (by first | omega | decide) (by first | omega | decide) eh870 rfl
                refine xi_iload_n (pc' := 6) (x := a4) kc_9_5 rfl rfl ?_
                refine xi_static (mj := 10) (as := [.int a4]) (st1 := []) (lv0 := [(0, .int a4)]) kc_9_6 rfl rfl (Nat.le_of_ble_eq_true rfl) rfl rfl (Nat.le_of_ble_eq_true rfl) (hJ _ _ _ _ (by decide)) (xm_le ml_10 rfl) rfl ?_
                refine xi_iload_n (pc' := 1) (x := a4) kc_10_0 rfl rfl ?_
                refine xi_iconst (pc' := 2) (v := 0) kc_10_1 rfl rfl ?_
                refine xi_iconst (pc' := 3) (v := 5) kc_10_2 rfl rfl ?_
                refine xi_static (mj := 11) (as := [.int a4, .int 0, .int 5]) (st1 := []) (lv0 := [(0, .int a4), (1, .int 0), (2, .int 5)]) kc_10_3 rfl rfl (Nat.le_of_ble_eq_true rfl) rfl rfl (Nat.le_of_ble_eq_true rfl) (hJ _ _ _ _ (by decide)) (xm_le ml_11 rfl) rfl ?_
                refine xi_iload_n (pc' := 1) (x := a4) kc_11_0 rfl rfl ?_
                refine xi_iload_n (pc' := 2) (x := 0) kc_11_1 rfl rfl ?_
                refine xi_cmf (pc' := 5) kc_11_2 rfl (xc_lt_f (X := a4.toInt) (Y := 0) rfl (by decide) (by omega)) ?_
                refine xi_iload_n (pc' := 6) (x := a4) kc_11_5 rfl rfl ?_
                refine xi_iload_n (pc' := 7) (x := 5) kc_11_6 rfl rfl ?_
                refine xi_cmf (pc' := 10) kc_11_7 rfl (xc_gt_f (X := a4.toInt) (Y := 5) rfl (by decide) (by omega)) ?_
                refine xi_iconst (pc' := 11) (v := 1) kc_11_10 rfl rfl ?_
                refine xi_goto (pc' := 15) kc_11_11 rfl ?_
                refine xi_ireturn kc_11_15 mr_11 rfl ?_
                show xw J ov 98 10 (6, [(0, .int a4)], [.int 1], hh871) _
                refine xi_ireturn kc_10_6 mr_10 rfl ?_
                show xw J ov 99 9 (9, [(0, .ref 115), (1, .int a4), (2, .int 4), (3, .int a8)], [.int 1], hh871) _
                refine xi_ift (pc' := 18) kc_9_9 rfl rfl ?_
                refine xi_iload_n (pc' := 19) (x := 4) kc_9_18 rfl rfl ?_
                refine xi_iconst (pc' := 20) (v := 0) kc_9_19 rfl rfl ?_
                refine xi_iconst (pc' := 21) (v := 5) kc_9_20 rfl rfl ?_
                refine xi_static (mj := 11) (as := [.int 4, .int 0, .int 5]) (st1 := []) (lv0 := [(0, .int 4), (1, .int 0), (2, .int 5)]) kc_9_21 rfl rfl (Nat.le_of_ble_eq_true rfl) rfl rfl (Nat.le_of_ble_eq_true rfl) (hJ _ _ _ _ (by decide)) (xm_le ml_11 rfl) rfl ?_
                refine xi_iload_n (pc' := 1) (x := 4) kc_11_0 rfl rfl ?_
                refine xi_iload_n (pc' := 2) (x := 0) kc_11_1 rfl rfl ?_
                refine xi_cmf (pc' := 5) kc_11_2 rfl rfl ?_
                refine xi_iload_n (pc' := 6) (x := 4) kc_11_5 rfl rfl ?_
                refine xi_iload_n (pc' := 7) (x := 5) kc_11_6 rfl rfl ?_
                refine xi_cmf (pc' := 10) kc_11_7 rfl rfl ?_
                refine xi_iconst (pc' := 11) (v := 1) kc_11_10 rfl rfl ?_
                refine xi_goto (pc' := 15) kc_11_11 rfl ?_
                refine xi_ireturn kc_11_15 mr_11 rfl ?_
                show xw J ov 99 9 (24, [(0, .ref 115), (1, .int a4), (2, .int 4), (3, .int a8)], [.int 1], hh871) _
                refine xi_ift (pc' := 34) kc_9_24 rfl rfl ?_
                refine xi_iload_n (pc' := 35) (x := a8) kc_9_34 rfl rfl ?_
                refine xi_iload_n (pc' := 36) (x := 4) kc_9_35 rfl rfl ?_
                refine xi_ift (pc' := 44) kc_9_36 rfl rfl ?_
                refine xi_iconst (pc' := 45) (v := 0) kc_9_44 rfl rfl ?_
                refine xi_cmt (pc' := 55) kc_9_45 rfl (xc_ge_t (X := a8.toInt) (Y := 0) rfl (by decide) (by omega)) ?_
                refine xi_iload_n (pc' := 56) (x := a8) kc_9_55 rfl rfl ?_
                refine xi_iload_n (pc' := 57) (x := 4) kc_9_56 rfl rfl ?_
                refine xi_ift (pc' := 65) kc_9_57 rfl rfl ?_
                refine xi_iload_n (pc' := 66) (x := 4) kc_9_65 rfl rfl ?_
                refine xi_iconst (pc' := 67) (v := 1) kc_9_66 rfl rfl ?_
                refine xi_cmt (pc' := 75) kc_9_67 rfl rfl ?_
                refine xi_iload_n (pc' := 76) (x := 4) kc_9_75 rfl rfl ?_
                refine xi_iconst (pc' := 77) (v := 4) kc_9_76 rfl rfl ?_
                refine xi_cmt (pc' := 85) kc_9_77 rfl rfl ?_
                refine xi_iload_n (pc' := 86) (x := 4) kc_9_85 rfl rfl ?_
                refine xi_iconst (pc' := 87) (v := 4) kc_9_86 rfl rfl ?_
                refine xi_cmf (pc' := 90) kc_9_87 rfl rfl ?_
                refine xi_iconst (pc' := 91) (v := 1) kc_9_90 rfl rfl ?_
                refine xi_goto (pc' := 96) kc_9_91 rfl ?_
                refine xi_cmf (pc' := 99) kc_9_96 rfl (xc_le_f (X := a8.toInt) (Y := 1) rfl (by decide) (by omega)) ?_
                refine xi_aload_n (pc' := 100) (x := 115) kc_9_99 rfl rfl ?_
                refine xi_bipush (pc' := 102) (v := (-6)) kc_9_100 rfl rfl ?_
                refine xi_virtual (mj := 12) (as := [.int (-6)]) (st1 := []) (lv0 := [(0, .ref 115), (1, .int (-6))]) kc_9_102 rfl rfl rfl rfl rfl eh870.1 (Nat.le_of_ble_eq_true rfl) (hJ _ _ _ _ (by decide)) (xm_le ml_12 rfl) rfl ?_
                refine xi_aload_n (pc' := 1) (x := 115) kc_12_0 rfl rfl ?_
                refine xi_getfield (pc' := 4) (v := .ref 140) kc_12_1 rfl rfl rfl eh870.1 rfl ?_
                refine xi_iload_n (pc' := 5) (x := (-6)) kc_12_4 rfl rfl ?_
                refine xi_ineg (pc' := 6) (v := 6) kc_12_5 rfl rfl ?_
                refine xi_dup2 (pc' := 7) kc_12_6 rfl ⟨rfl, rfl⟩ ?_
                obtain ⟨y874, A874, hy874, ry874⟩ := xk_arr K.1 xD_140
                obtain ⟨v875, ev875, bv875, dv875⟩ := xj_get hy874 ry874 (i := 6) (by decide) (by decide)
                have A876 := ((eh870.2.1 140 (by decide)).trans ((eh852.2.1 140 (by decide)).trans A874))
                refine xi_iaload (pc' := 8) (v := v875) kc_12_7 rfl A876 (by decide) rfl (xi_in (by decide) (by rw [hy874]; decide)) ev875 ?_
                refine xi_iconst (pc' := 9) (v := 1) kc_12_8 rfl rfl ?_
                obtain ⟨v877, ev877⟩ : ∃ q : Int32, (v875 : Int32) + 1 = q := ⟨_, rfl⟩
                have rv877 := xc_rng v877
                refine xi_iadd (pc' := 10) (v := v877) kc_12_9 rfl ev877 ?_
                obtain ⟨y878, s878, hy878, ry878⟩ := xj_set (v := v877) hy874 ry874 6 (by first | omega | decide) (by first | omega | decide)
                refine xi_iastore (pc' := 11) (x' := y878) kc_12_10 rfl A876 rfl (xi_in (by decide) (by rw [hy874]; decide)) s878 (fun hh878 eh878 => ?_)
                have K879 := xk_pa K872 (xk_wa (by decide +kernel)) xD_140 hy878 ry878 eh878
                have KR880 := xk_pa KR873 (xk_wa (by decide +kernel)) xD_140 hy878 ry878 eh878
                refine xi_iload_n (pc' := 12) (x := (-6)) kc_12_11 rfl rfl ?_
                refine xi_ireturn kc_12_12 mr_12 rfl ?_
                show xw J ov 99 9 (105, [(0, .ref 115), (1, .int a4), (2, .int 4), (3, .int a8)], [.int (-6)], hh878) _
                refine xi_ireturn kc_9_105 mr_9 rfl ?_
                show xw J ov 100 195 (236, [(4, .int x4), (3, .ref 167), (2, .ref 115), (1, .ref 0), (0, .ref 1000000)], [.int (-6), .int (-6)], hh878) _
                refine xi_cmt (pc' := 1501) kc_195_236 rfl rfl ?_
                obtain ⟨v881, ev881⟩ : ∃ q : Int32, x4 + 6 = q := ⟨_, rfl⟩
                have zv881 : v881.toInt = (x4.toInt + 6) := by rw [← ev881]; exact (xz_add (X := x4.toInt) (Y := 6) rfl (by decide) (by omega) (by omega)).trans (by omega)
                refine xi_iinc (pc' := 1504) (x := x4) (v := v881) (lv' := [(4, .int v881), (3, .ref 167), (2, .ref 115), (1, .ref 0), (0, .ref 1000000)]) kc_195_1501 rfl rfl ev881 rfl (xm_lt ml_195 rfl) ?_
                refine xi_goto (pc' := 23) kc_195_1504 rfl ?_
                exact kk v881 hh878 (by omega) K879 (xI_kept I KR880.2.1)
            · refine xi_cmf (pc' := 38) kc_88_35 rfl (xc_ge_f (X := a8.toInt) (Y := 0) rfl (by decide) (by omega)) ?_
              refine xi_aload_n (pc' := 39) (x := 0) kc_88_38 rfl rfl ?_
              refine xi_bipush (pc' := 41) (v := (-4)) kc_88_39 rfl rfl ?_
              refine xi_virtual (mj := 90) (as := [.int (-4)]) (st1 := []) (lv0 := [(0, .ref 0), (1, .int (-4))]) kc_88_41 rfl rfl rfl rfl rfl A11 (Nat.le_of_ble_eq_true rfl) (hJ _ _ _ _ (by decide)) (xm_le ml_90 rfl) rfl ?_
              refine xi_iload_n (pc' := 1) (x := (-4)) kc_90_0 rfl rfl ?_
              refine xi_ineg (pc' := 2) (v := 4) kc_90_1 rfl rfl ?_
              refine xi_istore_n (pc' := 3) (lv' := [(2, .int 4), (0, .ref 0), (1, .int (-4))]) kc_90_2 rfl rfl (xm_lt ml_90 rfl) ?_
              refine xi_iload_n (pc' := 4) (x := 4) kc_90_3 rfl rfl ?_
              refine xi_iff (pc' := 7) kc_90_4 rfl rfl ?_
              refine xi_iload_n (pc' := 8) (x := 4) kc_90_7 rfl rfl ?_
              refine xi_aload_n (pc' := 9) (x := 0) kc_90_8 rfl rfl ?_
              refine xi_getfield (pc' := 12) (v := .ref 94) kc_90_9 rfl rfl rfl A11 rfl ?_
              obtain ⟨y882, A882, hy882, ry882⟩ := xk_arr K.1 xD_94
              refine xi_arraylength (pc' := 13) (n := 7) (v := 7) kc_90_12 rfl (xl_lenI (by decide) (by decide) A882 hy882) rfl ?_
              refine xi_cmf (pc' := 16) kc_90_13 rfl rfl ?_
              refine xi_aload_n (pc' := 17) (x := 0) kc_90_16 rfl rfl ?_
              refine xi_getfield (pc' := 20) (v := .ref 94) kc_90_17 rfl rfl rfl A11 rfl ?_
              refine xi_iload_n (pc' := 21) (x := 4) kc_90_20 rfl rfl ?_
              refine xi_dup2 (pc' := 22) kc_90_21 rfl ⟨rfl, rfl⟩ ?_
              obtain ⟨v883, ev883, bv883, dv883⟩ := xj_get hy882 ry882 (i := 4) (by decide) (by decide)
              refine xi_iaload (pc' := 23) (v := v883) kc_90_22 rfl A882 (by decide) rfl (xi_in (by decide) (by rw [hy882]; decide)) ev883 ?_
              refine xi_iconst (pc' := 24) (v := 1) kc_90_23 rfl rfl ?_
              obtain ⟨v884, ev884⟩ : ∃ q : Int32, (v883 : Int32) + 1 = q := ⟨_, rfl⟩
              have rv884 := xc_rng v884
              refine xi_iadd (pc' := 25) (v := v884) kc_90_24 rfl ev884 ?_
              obtain ⟨y885, s885, hy885, ry885⟩ := xj_set (v := v884) hy882 ry882 4 (by first | omega | decide) (by first | omega | decide)
              refine xi_iastore (pc' := 26) (x' := y885) kc_90_25 rfl A882 rfl (xi_in (by decide) (by rw [hy882]; decide)) s885 (fun hh885 eh885 => ?_)
              have K886 := xk_pa K (xk_wa (by decide +kernel)) xD_94 hy885 ry885 eh885
              have KR887 := xk_pa KR (xk_wa (by decide +kernel)) xD_94 hy885 ry885 eh885
              refine xi_iload_n (pc' := 27) (x := (-4)) kc_90_26 rfl rfl ?_
              refine xi_ireturn kc_90_27 mr_90 rfl ?_
              show xw J ov 99 88 (44, [(0, .ref 0), (1, .int a4), (2, .int 4), (3, .int a8)], [.int (-4)], hh885) _
              refine xi_ireturn kc_88_44 mr_88 rfl ?_
              show xw J ov 100 195 (214, [(4, .int x4), (3, .ref 167), (2, .ref 115), (1, .ref 0), (0, .ref 1000000)], [.int (-4)], hh885) _
              refine xi_aload_n (pc' := 215) (x := 115) kc_195_214 rfl rfl ?_
              refine xi_aload_n (pc' := 216) (x := 1000000) kc_195_215 rfl rfl ?_
              refine xi_iload (pc' := 218) (x := x4) kc_195_216 rfl rfl ?_
              refine xi_iconst (pc' := 219) (v := 1) kc_195_218 rfl rfl ?_
              refine xi_iadd (pc' := 220) (v := v3) kc_195_219 rfl ev3 ?_
              refine xi_ialoadO (pc' := 221) (v := a4) kc_195_220 rfl (by decide) hov0 (xi_in (by omega) (by omega)) ea4 ?_
              refine xi_aload_n (pc' := 222) (x := 1000000) kc_195_221 rfl rfl ?_
              refine xi_iload (pc' := 224) (x := x4) kc_195_222 rfl rfl ?_
              refine xi_iconst (pc' := 225) (v := 2) kc_195_224 rfl rfl ?_
              refine xi_iadd (pc' := 226) (v := v5) kc_195_225 rfl ev5 ?_
              refine xi_ialoadO (pc' := 227) (v := 4) kc_195_226 rfl (by decide) hov0 (xi_in (by omega) (by omega)) ea6 ?_
              refine xi_aload_n (pc' := 228) (x := 1000000) kc_195_227 rfl rfl ?_
              refine xi_iload (pc' := 230) (x := x4) kc_195_228 rfl rfl ?_
              refine xi_iconst (pc' := 231) (v := 3) kc_195_230 rfl rfl ?_
              refine xi_iadd (pc' := 232) (v := v7) kc_195_231 rfl ev7 ?_
              refine xi_ialoadO (pc' := 233) (v := a8) kc_195_232 rfl (by decide) hov0 (xi_in (by omega) (by omega)) ea8 ?_
              obtain ⟨u888, u889, u890, u891, u892, u893, u894, u895, u896, u897, u898, u899, u900, bu888, bu889, bu890, bu891, bu892, bu893, bu894, bu895, bu896, bu897, bu898, bu899, bu900, A901⟩ := xq_115 K.1
              have A902 := ((eh885.2.1 115 (by decide)).trans A901)
              refine xi_virtual (mj := 9) (as := [.int a4, .int 4, .int a8]) (st1 := [.int (-4)]) (lv0 := [(0, .ref 115), (1, .int a4), (2, .int 4), (3, .int a8)]) kc_195_233 rfl rfl rfl rfl rfl A902 (Nat.le_of_ble_eq_true rfl) (hJ _ _ _ _ (by decide)) (xm_le ml_9 rfl) rfl ?_
              refine xi_aload_n (pc' := 1) (x := 115) kc_9_0 rfl rfl ?_
              refine xi_iconst (pc' := 2) (v := 0) kc_9_1 rfl rfl ?_
              refine xi_putfield (pc' := 5) (fs' := [.int 0, .int u889, .ref 116, .ref 117, .ref 118, .ref 119, .ref 120, .ref 121, .ref 122, .ref 123, .ref 124, .ref 125, .ref 126, .ref 127, .ref 128, .ref 129, .int u890, .ref 130, .int u891, .ref 131, .ref 132, .ref 133, .ref 134, .int u892, .ref 135, .ref 136, .ref 137, .ref 138, .ref 139, .ref 140, .ref 141, .ref 142, .int u893, .int u894, .int u895, .ref 143, .ref 144, .ref 145, .ref 146, .ref 147, .ref 148, .int u896, .ref 149, .ref 150, .ref 151, .int u897, .ref 152, .ref 153, .ref 154, .ref 155, .ref 156, .ref 157, .ref 158, .ref 159, .int u898, .ref 160, .int u899, .ref 161, .ref 162, .ref 163, .ref 164, .int u900, .ref 165, .ref 166]) kc_9_2 rfl rfl rfl A902 rfl rfl rfl (Nat.le_of_ble_eq_true rfl) rfl (fun hh904 eh903 => ?_)
              have K905 := xk_pf (k := 0) (v := 0) K886 (xk_wf (by decide +kernel)) xD_115 A902 rfl (by first | omega | decide) (by first | omega | decide) eh903 rfl
              have KR906 := xk_pf (k := 0) (v := 0) KR887 (xk_wf (by decide +kernel)) xD_115 A902 rfl (by first | omega | decide) (by first | omega | decide) eh903 rfl
              refine xi_iload_n (pc' := 6) (x := a4) kc_9_5 rfl rfl ?_
              refine xi_static (mj := 10) (as := [.int a4]) (st1 := []) (lv0 := [(0, .int a4)]) kc_9_6 rfl rfl (Nat.le_of_ble_eq_true rfl) rfl rfl (Nat.le_of_ble_eq_true rfl) (hJ _ _ _ _ (by decide)) (xm_le ml_10 rfl) rfl ?_
              refine xi_iload_n (pc' := 1) (x := a4) kc_10_0 rfl rfl ?_
              refine xi_iconst (pc' := 2) (v := 0) kc_10_1 rfl rfl ?_
              refine xi_iconst (pc' := 3) (v := 5) kc_10_2 rfl rfl ?_
              refine xi_static (mj := 11) (as := [.int a4, .int 0, .int 5]) (st1 := []) (lv0 := [(0, .int a4), (1, .int 0), (2, .int 5)]) kc_10_3 rfl rfl (Nat.le_of_ble_eq_true rfl) rfl rfl (Nat.le_of_ble_eq_true rfl) (hJ _ _ _ _ (by decide)) (xm_le ml_11 rfl) rfl ?_
              refine xi_iload_n (pc' := 1) (x := a4) kc_11_0 rfl rfl ?_
              refine xi_iload_n (pc' := 2) (x := 0) kc_11_1 rfl rfl ?_
              refine xi_cmf (pc' := 5) kc_11_2 rfl (xc_lt_f (X := a4.toInt) (Y := 0) rfl (by decide) (by omega)) ?_
              refine xi_iload_n (pc' := 6) (x := a4) kc_11_5 rfl rfl ?_
              refine xi_iload_n (pc' := 7) (x := 5) kc_11_6 rfl rfl ?_
              refine xi_cmf (pc' := 10) kc_11_7 rfl (xc_gt_f (X := a4.toInt) (Y := 5) rfl (by decide) (by omega)) ?_
              refine xi_iconst (pc' := 11) (v := 1) kc_11_10 rfl rfl ?_
              refine xi_goto (pc' := 15) kc_11_11 rfl ?_
              refine xi_ireturn kc_11_15 mr_11 rfl ?_
              show xw J ov 98 10 (6, [(0, .int a4)], [.int 1], hh904) _
              refine xi_ireturn kc_10_6 mr_10 rfl ?_
              show xw J ov 99 9 (9, [(0, .ref 115), (1, .int a4), (2, .int 4), (3, .int a8)], [.int 1], hh904) _
              refine xi_ift (pc' := 18) kc_9_9 rfl rfl ?_
              refine xi_iload_n (pc' := 19) (x := 4) kc_9_18 rfl rfl ?_
              refine xi_iconst (pc' := 20) (v := 0) kc_9_19 rfl rfl ?_
              refine xi_iconst (pc' := 21) (v := 5) kc_9_20 rfl rfl ?_
              refine xi_static (mj := 11) (as := [.int 4, .int 0, .int 5]) (st1 := []) (lv0 := [(0, .int 4), (1, .int 0), (2, .int 5)]) kc_9_21 rfl rfl (Nat.le_of_ble_eq_true rfl) rfl rfl (Nat.le_of_ble_eq_true rfl) (hJ _ _ _ _ (by decide)) (xm_le ml_11 rfl) rfl ?_
              refine xi_iload_n (pc' := 1) (x := 4) kc_11_0 rfl rfl ?_
              refine xi_iload_n (pc' := 2) (x := 0) kc_11_1 rfl rfl ?_
              refine xi_cmf (pc' := 5) kc_11_2 rfl rfl ?_
              refine xi_iload_n (pc' := 6) (x := 4) kc_11_5 rfl rfl ?_
              refine xi_iload_n (pc' := 7) (x := 5) kc_11_6 rfl rfl ?_
              refine xi_cmf (pc' := 10) kc_11_7 rfl rfl ?_
              refine xi_iconst (pc' := 11) (v := 1) kc_11_10 rfl rfl ?_
              refine xi_goto (pc' := 15) kc_11_11 rfl ?_
              refine xi_ireturn kc_11_15 mr_11 rfl ?_
              show xw J ov 99 9 (24, [(0, .ref 115), (1, .int a4), (2, .int 4), (3, .int a8)], [.int 1], hh904) _
              refine xi_ift (pc' := 34) kc_9_24 rfl rfl ?_
              refine xi_iload_n (pc' := 35) (x := a8) kc_9_34 rfl rfl ?_
              refine xi_iload_n (pc' := 36) (x := 4) kc_9_35 rfl rfl ?_
              refine xi_ift (pc' := 44) kc_9_36 rfl rfl ?_
              refine xi_iconst (pc' := 45) (v := 0) kc_9_44 rfl rfl ?_
              refine xi_cmf (pc' := 48) kc_9_45 rfl (xc_ge_f (X := a8.toInt) (Y := 0) rfl (by decide) (by omega)) ?_
              refine xi_aload_n (pc' := 49) (x := 115) kc_9_48 rfl rfl ?_
              refine xi_bipush (pc' := 51) (v := (-4)) kc_9_49 rfl rfl ?_
              refine xi_virtual (mj := 12) (as := [.int (-4)]) (st1 := []) (lv0 := [(0, .ref 115), (1, .int (-4))]) kc_9_51 rfl rfl rfl rfl rfl eh903.1 (Nat.le_of_ble_eq_true rfl) (hJ _ _ _ _ (by decide)) (xm_le ml_12 rfl) rfl ?_
              refine xi_aload_n (pc' := 1) (x := 115) kc_12_0 rfl rfl ?_
              refine xi_getfield (pc' := 4) (v := .ref 140) kc_12_1 rfl rfl rfl eh903.1 rfl ?_
              refine xi_iload_n (pc' := 5) (x := (-4)) kc_12_4 rfl rfl ?_
              refine xi_ineg (pc' := 6) (v := 4) kc_12_5 rfl rfl ?_
              refine xi_dup2 (pc' := 7) kc_12_6 rfl ⟨rfl, rfl⟩ ?_
              obtain ⟨y907, A907, hy907, ry907⟩ := xk_arr K.1 xD_140
              obtain ⟨v908, ev908, bv908, dv908⟩ := xj_get hy907 ry907 (i := 4) (by decide) (by decide)
              have A909 := ((eh903.2.1 140 (by decide)).trans ((eh885.2.1 140 (by decide)).trans A907))
              refine xi_iaload (pc' := 8) (v := v908) kc_12_7 rfl A909 (by decide) rfl (xi_in (by decide) (by rw [hy907]; decide)) ev908 ?_
              refine xi_iconst (pc' := 9) (v := 1) kc_12_8 rfl rfl ?_
              obtain ⟨v910, ev910⟩ : ∃ q : Int32, (v908 : Int32) + 1 = q := ⟨_, rfl⟩
              have rv910 := xc_rng v910
              refine xi_iadd (pc' := 10) (v := v910) kc_12_9 rfl ev910 ?_
              obtain ⟨y911, s911, hy911, ry911⟩ := xj_set (v := v910) hy907 ry907 4 (by first | omega | decide) (by first | omega | decide)
              refine xi_iastore (pc' := 11) (x' := y911) kc_12_10 rfl A909 rfl (xi_in (by decide) (by rw [hy907]; decide)) s911 (fun hh911 eh911 => ?_)
              have K912 := xk_pa K905 (xk_wa (by decide +kernel)) xD_140 hy911 ry911 eh911
              have KR913 := xk_pa KR906 (xk_wa (by decide +kernel)) xD_140 hy911 ry911 eh911
              refine xi_iload_n (pc' := 12) (x := (-4)) kc_12_11 rfl rfl ?_
              refine xi_ireturn kc_12_12 mr_12 rfl ?_
              show xw J ov 99 9 (54, [(0, .ref 115), (1, .int a4), (2, .int 4), (3, .int a8)], [.int (-4)], hh911) _
              refine xi_ireturn kc_9_54 mr_9 rfl ?_
              show xw J ov 100 195 (236, [(4, .int x4), (3, .ref 167), (2, .ref 115), (1, .ref 0), (0, .ref 1000000)], [.int (-4), .int (-4)], hh911) _
              refine xi_cmt (pc' := 1501) kc_195_236 rfl rfl ?_
              obtain ⟨v914, ev914⟩ : ∃ q : Int32, x4 + 6 = q := ⟨_, rfl⟩
              have zv914 : v914.toInt = (x4.toInt + 6) := by rw [← ev914]; exact (xz_add (X := x4.toInt) (Y := 6) rfl (by decide) (by omega) (by omega)).trans (by omega)
              refine xi_iinc (pc' := 1504) (x := x4) (v := v914) (lv' := [(4, .int v914), (3, .ref 167), (2, .ref 115), (1, .ref 0), (0, .ref 1000000)]) kc_195_1501 rfl rfl ev914 rfl (xm_lt ml_195 rfl) ?_
              refine xi_goto (pc' := 23) kc_195_1504 rfl ?_
              exact kk v914 hh911 (by omega) K912 (xI_kept I KR913.2.1)
          have qa6 : a6 = 5 := xc_of (Eq.trans (by omega) (show (5 : Int) = (5 : Int32).toInt by decide))
          subst qa6
          refine xi_ialoadO (pc' := 35) (v := 0) kc_88_34 rfl (by decide) hov1 (xi_in (n := 6) (by decide) (by decide)) rfl ?_
          by_cases c915 : 0 ≤ a8.toInt
          · refine xi_cmt (pc' := 45) kc_88_35 rfl (xc_ge_t (X := a8.toInt) (Y := 0) rfl (by decide) (by omega)) ?_
            refine xi_iload_n (pc' := 46) (x := a8) kc_88_45 rfl rfl ?_
            refine xi_getstatic (pc' := 49) (j := 1000002) kc_88_46 rfl rfl ?_
            refine xi_iload_n (pc' := 50) (x := 5) kc_88_49 rfl rfl ?_
            refine xi_ialoadO (pc' := 51) (v := 99999) kc_88_50 rfl (by decide) hov2 (xi_in (n := 6) (by decide) (by decide)) rfl ?_
            by_cases c916 : a8.toInt ≤ 99999
            · refine xi_cmt (pc' := 61) kc_88_51 rfl (xc_le_t (X := a8.toInt) (Y := 99999) rfl (by decide) (by omega)) ?_
              refine xi_iload_n (pc' := 62) (x := 5) kc_88_61 rfl rfl ?_
              refine xi_iconst (pc' := 63) (v := 5) kc_88_62 rfl rfl ?_
              refine xi_cmf (pc' := 66) kc_88_63 rfl rfl ?_
              refine xi_aload_n (pc' := 67) (x := 0) kc_88_66 rfl rfl ?_
              refine xi_getfield (pc' := 70) (v := .ref 63) kc_88_67 rfl rfl rfl A11 rfl ?_
              obtain ⟨u917, u918, bu917, bu918, A919⟩ := xq_63 K.1
              refine xi_getfield (pc' := 73) (v := .ref 64) kc_88_70 rfl rfl rfl A919 rfl ?_
              refine xi_iload_n (pc' := 74) (x := a4) kc_88_73 rfl rfl ?_
              obtain ⟨v920, ev920, bv920, dv920⟩ := xj_get hy1 ry1 (i := a4) (by omega) (by omega)
              refine xi_iaload (pc' := 75) (v := v920) kc_88_74 rfl A1 (by decide) rfl (xi_in (by omega) (by rw [hy1]; omega)) ev920 ?_
              have hlv920 : v920.toInt = w (Int32.toNatClampNeg a4) := xrp_ld R2 (by omega) (by omega) ev920
              refine xi_istore (pc' := 77) (lv' := [(4, .int v920), (0, .ref 0), (1, .int a4), (2, .int 5), (3, .int a8)]) kc_88_75 rfl rfl (xm_lt ml_88 rfl) ?_
              refine xi_aload_n (pc' := 78) (x := 0) kc_88_77 rfl rfl ?_
              refine xi_getfield (pc' := 81) (v := .ref 63) kc_88_78 rfl rfl rfl A11 rfl ?_
              refine xi_getfield (pc' := 84) (v := .ref 64) kc_88_81 rfl rfl rfl A919 rfl ?_
              refine xi_iload_n (pc' := 85) (x := a4) kc_88_84 rfl rfl ?_
              refine xi_iload_n (pc' := 86) (x := a8) kc_88_85 rfl rfl ?_
              obtain ⟨y921, s921, hy921, ry921⟩ := xj_set (v := a8) hy1 ry1 a4 (by first | omega | decide) (by first | omega | decide)
              refine xi_iastore (pc' := 87) (x' := y921) kc_88_86 rfl A1 rfl (xi_in (by omega) (by rw [hy1]; omega)) s921 (fun hh921 eh921 => ?_)
              have K922 := xk_pa K (xk_wa (by decide +kernel)) xD_64 hy921 ry921 eh921
              have R923 : xrp y921 6 (xup w (Int32.toNatClampNeg a4) (a8 : Int32).toInt) := xrp_set R2 s921
              refine xi_iload (pc' := 89) (x := v920) kc_88_87 rfl rfl ?_
              refine xi_ireturn kc_88_89 mr_88 rfl ?_
              show xw J ov 100 195 (214, [(4, .int x4), (3, .ref 167), (2, .ref 115), (1, .ref 0), (0, .ref 1000000)], [.int v920], hh921) _
              refine xi_aload_n (pc' := 215) (x := 115) kc_195_214 rfl rfl ?_
              refine xi_aload_n (pc' := 216) (x := 1000000) kc_195_215 rfl rfl ?_
              refine xi_iload (pc' := 218) (x := x4) kc_195_216 rfl rfl ?_
              refine xi_iconst (pc' := 219) (v := 1) kc_195_218 rfl rfl ?_
              refine xi_iadd (pc' := 220) (v := v3) kc_195_219 rfl ev3 ?_
              refine xi_ialoadO (pc' := 221) (v := a4) kc_195_220 rfl (by decide) hov0 (xi_in (by omega) (by omega)) ea4 ?_
              refine xi_aload_n (pc' := 222) (x := 1000000) kc_195_221 rfl rfl ?_
              refine xi_iload (pc' := 224) (x := x4) kc_195_222 rfl rfl ?_
              refine xi_iconst (pc' := 225) (v := 2) kc_195_224 rfl rfl ?_
              refine xi_iadd (pc' := 226) (v := v5) kc_195_225 rfl ev5 ?_
              refine xi_ialoadO (pc' := 227) (v := 5) kc_195_226 rfl (by decide) hov0 (xi_in (by omega) (by omega)) ea6 ?_
              refine xi_aload_n (pc' := 228) (x := 1000000) kc_195_227 rfl rfl ?_
              refine xi_iload (pc' := 230) (x := x4) kc_195_228 rfl rfl ?_
              refine xi_iconst (pc' := 231) (v := 3) kc_195_230 rfl rfl ?_
              refine xi_iadd (pc' := 232) (v := v7) kc_195_231 rfl ev7 ?_
              refine xi_ialoadO (pc' := 233) (v := a8) kc_195_232 rfl (by decide) hov0 (xi_in (by omega) (by omega)) ea8 ?_
              obtain ⟨u924, u925, u926, u927, u928, u929, u930, u931, u932, u933, u934, u935, u936, bu924, bu925, bu926, bu927, bu928, bu929, bu930, bu931, bu932, bu933, bu934, bu935, bu936, A937⟩ := xq_115 K.1
              have A938 := ((eh921.2.1 115 (by decide)).trans A937)
              refine xi_virtual (mj := 9) (as := [.int a4, .int 5, .int a8]) (st1 := [.int v920]) (lv0 := [(0, .ref 115), (1, .int a4), (2, .int 5), (3, .int a8)]) kc_195_233 rfl rfl rfl rfl rfl A938 (Nat.le_of_ble_eq_true rfl) (hJ _ _ _ _ (by decide)) (xm_le ml_9 rfl) rfl ?_
              refine xi_aload_n (pc' := 1) (x := 115) kc_9_0 rfl rfl ?_
              refine xi_iconst (pc' := 2) (v := 0) kc_9_1 rfl rfl ?_
              refine xi_putfield (pc' := 5) (fs' := [.int 0, .int u925, .ref 116, .ref 117, .ref 118, .ref 119, .ref 120, .ref 121, .ref 122, .ref 123, .ref 124, .ref 125, .ref 126, .ref 127, .ref 128, .ref 129, .int u926, .ref 130, .int u927, .ref 131, .ref 132, .ref 133, .ref 134, .int u928, .ref 135, .ref 136, .ref 137, .ref 138, .ref 139, .ref 140, .ref 141, .ref 142, .int u929, .int u930, .int u931, .ref 143, .ref 144, .ref 145, .ref 146, .ref 147, .ref 148, .int u932, .ref 149, .ref 150, .ref 151, .int u933, .ref 152, .ref 153, .ref 154, .ref 155, .ref 156, .ref 157, .ref 158, .ref 159, .int u934, .ref 160, .int u935, .ref 161, .ref 162, .ref 163, .ref 164, .int u936, .ref 165, .ref 166]) kc_9_2 rfl rfl rfl A938 rfl rfl rfl (Nat.le_of_ble_eq_true rfl) rfl (fun hh940 eh939 => ?_)
              have K941 := xk_pf (k := 0) (v := 0) K922 (xk_wf (by decide +kernel)) xD_115 A938 rfl (by first | omega | decide) (by first | omega | decide) eh939 rfl
              refine xi_iload_n (pc' := 6) (x := a4) kc_9_5 rfl rfl ?_
              refine xi_static (mj := 10) (as := [.int a4]) (st1 := []) (lv0 := [(0, .int a4)]) kc_9_6 rfl rfl (Nat.le_of_ble_eq_true rfl) rfl rfl (Nat.le_of_ble_eq_true rfl) (hJ _ _ _ _ (by decide)) (xm_le ml_10 rfl) rfl ?_
              refine xi_iload_n (pc' := 1) (x := a4) kc_10_0 rfl rfl ?_
              refine xi_iconst (pc' := 2) (v := 0) kc_10_1 rfl rfl ?_
              refine xi_iconst (pc' := 3) (v := 5) kc_10_2 rfl rfl ?_
              refine xi_static (mj := 11) (as := [.int a4, .int 0, .int 5]) (st1 := []) (lv0 := [(0, .int a4), (1, .int 0), (2, .int 5)]) kc_10_3 rfl rfl (Nat.le_of_ble_eq_true rfl) rfl rfl (Nat.le_of_ble_eq_true rfl) (hJ _ _ _ _ (by decide)) (xm_le ml_11 rfl) rfl ?_
              refine xi_iload_n (pc' := 1) (x := a4) kc_11_0 rfl rfl ?_
              refine xi_iload_n (pc' := 2) (x := 0) kc_11_1 rfl rfl ?_
              refine xi_cmf (pc' := 5) kc_11_2 rfl (xc_lt_f (X := a4.toInt) (Y := 0) rfl (by decide) (by omega)) ?_
              refine xi_iload_n (pc' := 6) (x := a4) kc_11_5 rfl rfl ?_
              refine xi_iload_n (pc' := 7) (x := 5) kc_11_6 rfl rfl ?_
              refine xi_cmf (pc' := 10) kc_11_7 rfl (xc_gt_f (X := a4.toInt) (Y := 5) rfl (by decide) (by omega)) ?_
              refine xi_iconst (pc' := 11) (v := 1) kc_11_10 rfl rfl ?_
              refine xi_goto (pc' := 15) kc_11_11 rfl ?_
              refine xi_ireturn kc_11_15 mr_11 rfl ?_
              show xw J ov 98 10 (6, [(0, .int a4)], [.int 1], hh940) _
              refine xi_ireturn kc_10_6 mr_10 rfl ?_
              show xw J ov 99 9 (9, [(0, .ref 115), (1, .int a4), (2, .int 5), (3, .int a8)], [.int 1], hh940) _
              refine xi_ift (pc' := 18) kc_9_9 rfl rfl ?_
              refine xi_iload_n (pc' := 19) (x := 5) kc_9_18 rfl rfl ?_
              refine xi_iconst (pc' := 20) (v := 0) kc_9_19 rfl rfl ?_
              refine xi_iconst (pc' := 21) (v := 5) kc_9_20 rfl rfl ?_
              refine xi_static (mj := 11) (as := [.int 5, .int 0, .int 5]) (st1 := []) (lv0 := [(0, .int 5), (1, .int 0), (2, .int 5)]) kc_9_21 rfl rfl (Nat.le_of_ble_eq_true rfl) rfl rfl (Nat.le_of_ble_eq_true rfl) (hJ _ _ _ _ (by decide)) (xm_le ml_11 rfl) rfl ?_
              refine xi_iload_n (pc' := 1) (x := 5) kc_11_0 rfl rfl ?_
              refine xi_iload_n (pc' := 2) (x := 0) kc_11_1 rfl rfl ?_
              refine xi_cmf (pc' := 5) kc_11_2 rfl rfl ?_
              refine xi_iload_n (pc' := 6) (x := 5) kc_11_5 rfl rfl ?_
              refine xi_iload_n (pc' := 7) (x := 5) kc_11_6 rfl rfl ?_
              refine xi_cmf (pc' := 10) kc_11_7 rfl rfl ?_
              refine xi_iconst (pc' := 11) (v := 1) kc_11_10 rfl rfl ?_
              refine xi_goto (pc' := 15) kc_11_11 rfl ?_
              refine xi_ireturn kc_11_15 mr_11 rfl ?_
              show xw J ov 99 9 (24, [(0, .ref 115), (1, .int a4), (2, .int 5), (3, .int a8)], [.int 1], hh940) _
              refine xi_ift (pc' := 34) kc_9_24 rfl rfl ?_
              refine xi_iload_n (pc' := 35) (x := a8) kc_9_34 rfl rfl ?_
              refine xi_iload_n (pc' := 36) (x := 5) kc_9_35 rfl rfl ?_
              refine xi_ift (pc' := 44) kc_9_36 rfl rfl ?_
              refine xi_iconst (pc' := 45) (v := 0) kc_9_44 rfl rfl ?_
              refine xi_cmt (pc' := 55) kc_9_45 rfl (xc_ge_t (X := a8.toInt) (Y := 0) rfl (by decide) (by omega)) ?_
              refine xi_iload_n (pc' := 56) (x := a8) kc_9_55 rfl rfl ?_
              refine xi_iload_n (pc' := 57) (x := 5) kc_9_56 rfl rfl ?_
              refine xi_ift (pc' := 65) kc_9_57 rfl rfl ?_
              refine xi_iload_n (pc' := 66) (x := 5) kc_9_65 rfl rfl ?_
              refine xi_iconst (pc' := 67) (v := 1) kc_9_66 rfl rfl ?_
              refine xi_cmt (pc' := 75) kc_9_67 rfl rfl ?_
              refine xi_iload_n (pc' := 76) (x := 5) kc_9_75 rfl rfl ?_
              refine xi_iconst (pc' := 77) (v := 4) kc_9_76 rfl rfl ?_
              refine xi_cmt (pc' := 85) kc_9_77 rfl rfl ?_
              refine xi_iload_n (pc' := 86) (x := 5) kc_9_85 rfl rfl ?_
              refine xi_iconst (pc' := 87) (v := 4) kc_9_86 rfl rfl ?_
              refine xi_cmt (pc' := 94) kc_9_87 rfl rfl ?_
              refine xi_ldc (pc' := 96) (v := 99999) kc_9_94 rfl rfl ?_
              refine xi_cmt (pc' := 106) kc_9_96 rfl (xc_le_t (X := a8.toInt) (Y := 99999) rfl (by decide) (by omega)) ?_
              refine xi_aload_n (pc' := 107) (x := 115) kc_9_106 rfl rfl ?_
              refine xi_iload_n (pc' := 108) (x := a4) kc_9_107 rfl rfl ?_
              refine xi_iload_n (pc' := 109) (x := 5) kc_9_108 rfl rfl ?_
              refine xi_virtual (mj := 13) (as := [.int a4, .int 5]) (st1 := []) (lv0 := [(0, .ref 115), (1, .int a4), (2, .int 5)]) kc_9_109 rfl rfl rfl rfl rfl eh939.1 (Nat.le_of_ble_eq_true rfl) (hJ _ _ _ _ (by decide)) (xm_le ml_13 rfl) rfl ?_
              have F942 := xra_fr WWb (xl_c (eh921.2.1 121 (by decide)))
              have F943 := xg6_c I6 (fun c hc => eh921.2.1 c (Ne.symm (xk_nc hc rfl)))
              have F944 := xr5_c I5 (fun c hc => eh921.2.1 c (Ne.symm (xk_nc hc rfl)))
              have F945 := xra_fr F942 (xl_c (eh939.2.1 121 (by decide)))
              have F946 := xg6_c F943 (fun c hc => eh939.2.1 c (Ne.symm (xk_nc hc rfl)))
              have F947 := xr5_c F944 (fun c hc => eh939.2.1 c (Ne.symm (xk_nc hc rfl)))
              refine xw_rn5 hJ hov1 hov2 (d := 97) (x1 := a4) K941.1 F945 (by omega) (fun r948 hr948 => ?_)
              have rr948 := xc_rng r948
              show xw J ov 99 9 (112, [(0, .ref 115), (1, .int a4), (2, .int 5), (3, .int a8)], [.int r948], hh940) _
              refine xi_istore (pc' := 114) (lv' := [(4, .int r948), (0, .ref 115), (1, .int a4), (2, .int 5), (3, .int a8)]) kc_9_112 rfl rfl (xm_lt ml_9 rfl) ?_
              refine xi_aload_n (pc' := 115) (x := 115) kc_9_114 rfl rfl ?_
              refine xi_iload_n (pc' := 116) (x := a4) kc_9_115 rfl rfl ?_
              refine xi_iload_n (pc' := 117) (x := 5) kc_9_116 rfl rfl ?_
              refine xi_iload_n (pc' := 118) (x := a8) kc_9_117 rfl rfl ?_
              refine xi_virtual (mj := 14) (as := [.int a4, .int 5, .int a8]) (st1 := []) (lv0 := [(0, .ref 115), (1, .int a4), (2, .int 5), (3, .int a8)]) kc_9_118 rfl rfl rfl rfl rfl eh939.1 (Nat.le_of_ble_eq_true rfl) (hJ _ _ _ _ (by decide)) (xm_le ml_14 rfl) rfl ?_
              refine xw_te5 hJ hov1 hov2 (d := 97) (x1 := a4) (x3 := a8) K941.1 F947 F945 (by omega) (by omega) (fun hh949 K950 F951 F952 => ?_)
              have F953 := xg6_k F946 K950 (by decide +kernel)
              have A954 := ((eh939.2.1 64 (by decide)).trans eh921.1)
              have A955 := ((eh939.2.1 0 (by decide)).trans ((eh921.2.1 0 (by decide)).trans A11))
              have A956 := ((eh939.2.1 63 (by decide)).trans ((eh921.2.1 63 (by decide)).trans A919))
              have K957 := xk_tr K941 K950 (xsb_ok _ _ (by decide +kernel))
              have A958 := xk_eqa (q := 0) K950 (by decide +kernel) A954
              obtain ⟨u959, u960, bu959, bu960, A961⟩ := xq_0 K957.1
              have e962 : u10 = u960 := xk_eqi (q := 9) K950 (by decide +kernel) A955 A961 rfl rfl
              subst e962
              have e963 : u9 = u959 := xk_eqi (q := 8) K950 (by decide +kernel) A955 A961 rfl rfl
              subst e963
              obtain ⟨u964, u965, bu964, bu965, A966⟩ := xq_63 K957.1
              have e967 : u917 = u964 := xk_eqi (q := 2) K950 (by decide +kernel) A956 A966 rfl rfl
              subst e967
              have e968 : u918 = u965 := xk_eqi (q := 3) K950 (by decide +kernel) A956 A966 rfl rfl
              subst e968
              obtain ⟨u969, u970, u971, u972, u973, u974, u975, u976, u977, u978, u979, u980, u981, bu969, bu970, bu971, bu972, bu973, bu974, bu975, bu976, bu977, bu978, bu979, bu980, bu981, A982⟩ := xq_115 K957.1
              have e983 : u925 = u970 := xk_eqi (q := 1) K950 (by decide +kernel) eh939.1 A982 rfl rfl
              subst e983
              have e984 : u928 = u973 := xk_eqi (q := 23) K950 (by decide +kernel) eh939.1 A982 rfl rfl
              subst e984
              have e985 : u931 = u976 := xk_eqi (q := 34) K950 (by decide +kernel) eh939.1 A982 rfl rfl
              subst e985
              have e986 : u929 = u974 := xk_eqi (q := 32) K950 (by decide +kernel) eh939.1 A982 rfl rfl
              subst e986
              show xw J ov 99 9 (121, [(4, .int r948), (0, .ref 115), (1, .int a4), (2, .int 5), (3, .int a8)], [], hh949) _
              refine xi_iload (pc' := 123) (x := r948) kc_9_121 rfl rfl ?_
              refine xi_ireturn kc_9_123 mr_9 rfl ?_
              show xw J ov 100 195 (236, [(4, .int x4), (3, .ref 167), (2, .ref 115), (1, .ref 0), (0, .ref 1000000)], [.int r948, .int v920], hh949) _
              by_cases c987 : v920.toInt = r948.toInt
              · refine xi_cmt (pc' := 1501) kc_195_236 rfl (xc_eq_t (X := v920.toInt) (Y := r948.toInt) rfl rfl (by omega)) ?_
                obtain ⟨v988, ev988⟩ : ∃ q : Int32, x4 + 6 = q := ⟨_, rfl⟩
                have zv988 : v988.toInt = (x4.toInt + 6) := by rw [← ev988]; exact (xz_add (X := x4.toInt) (Y := 6) rfl (by decide) (by omega) (by omega)).trans (by omega)
                refine xi_iinc (pc' := 1504) (x := x4) (v := v988) (lv' := [(4, .int v988), (3, .ref 167), (2, .ref 115), (1, .ref 0), (0, .ref 1000000)]) kc_195_1501 rfl rfl ev988 rfl (xm_lt ml_195 rfl) ?_
                refine xi_goto (pc' := 23) kc_195_1504 rfl ?_
                exact kk v988 hh949 (by omega) K957 ⟨((K957.2.1 (0, 9) (by decide +kernel)).trans (I.1.trans (K957.2.1 (115, 1) (by decide +kernel)).symm)), ⟨(xup w (Int32.toNatClampNeg a4) (a8 : Int32).toInt), xra_mk A958 R923, F952, (xwr_up WWr (by omega) (by omega))⟩, ⟨_, F953, F951⟩, (by rw [(K957.2.1 (13, 0) (by decide +kernel)), (K957.2.1 (122, 0) (by decide +kernel))]; exact I.2.2.2.1), (by rw [(K957.2.1 (16, 0) (by decide +kernel)), (K957.2.1 (122, 0) (by decide +kernel))]; exact I.2.2.2.2.1), (by rw [(K957.2.1 (19, 0) (by decide +kernel)), (K957.2.1 (122, 0) (by decide +kernel))]; exact I.2.2.2.2.2.1), (by rw [(K957.2.1 (22, 0) (by decide +kernel)), (K957.2.1 (122, 0) (by decide +kernel))]; exact I.2.2.2.2.2.2.1), (by rw [(K957.2.1 (25, 0) (by decide +kernel)), (K957.2.1 (122, 0) (by decide +kernel))]; exact I.2.2.2.2.2.2.2.1), (by rw [(K957.2.1 (28, 0) (by decide +kernel)), (K957.2.1 (122, 0) (by decide +kernel))]; exact I.2.2.2.2.2.2.2.2.1), (by rw [(K957.2.1 (6, 0) (by decide +kernel)), (K957.2.1 (123, 0) (by decide +kernel))]; exact I.2.2.2.2.2.2.2.2.2.1), (by rw [(K957.2.1 (9, 0) (by decide +kernel)), (K957.2.1 (124, 0) (by decide +kernel))]; exact I.2.2.2.2.2.2.2.2.2.2.1), (by rw [(K957.2.1 (7, 0) (by decide +kernel)), (K957.2.1 (6, 0) (by decide +kernel))]; exact I.2.2.2.2.2.2.2.2.2.2.2.1), (by rw [(K957.2.1 (10, 0) (by decide +kernel)), (K957.2.1 (9, 0) (by decide +kernel))]; exact I.2.2.2.2.2.2.2.2.2.2.2.2.1), ((K957.2.1 (5, 0) (by decide +kernel)).trans I.2.2.2.2.2.2.2.2.2.2.2.2.2.1), ((K957.2.1 (8, 0) (by decide +kernel)).trans I.2.2.2.2.2.2.2.2.2.2.2.2.2.2.1), (xGR_fr I.2.2.2.2.2.2.2.2.2.2.2.2.2.2.2.1 K957.2.1 (by decide +kernel) (by decide +kernel)), (xGR_fr I.2.2.2.2.2.2.2.2.2.2.2.2.2.2.2.2.1 K957.2.1 (by decide +kernel) (by decide +kernel)), ((K957.2.1 (1, 5) (by decide +kernel)).trans (I.2.2.2.2.2.2.2.2.2.2.2.2.2.2.2.2.2.1.trans (K957.2.1 (115, 23) (by decide +kernel)).symm)), (xGR_fr I.2.2.2.2.2.2.2.2.2.2.2.2.2.2.2.2.2.2.1 K957.2.1 (by decide +kernel) (by decide +kernel)), (xGR_fr I.2.2.2.2.2.2.2.2.2.2.2.2.2.2.2.2.2.2.2.1 K957.2.1 (by decide +kernel) (by decide +kernel)), (xGR_fr I.2.2.2.2.2.2.2.2.2.2.2.2.2.2.2.2.2.2.2.2.1 K957.2.1 (by decide +kernel) (by decide +kernel)), (xGR_fr I.2.2.2.2.2.2.2.2.2.2.2.2.2.2.2.2.2.2.2.2.2.1 K957.2.1 (by decide +kernel) (by decide +kernel)), (by rw [(K957.2.1 (63, 2) (by decide +kernel)), (K957.2.1 (139, 0) (by decide +kernel)), (K957.2.1 (1, 5) (by decide +kernel))]; exact I.2.2.2.2.2.2.2.2.2.2.2.2.2.2.2.2.2.2.2.2.2.2.1), ((K957.2.1 (0, 8) (by decide +kernel)).trans (I.2.2.2.2.2.2.2.2.2.2.2.2.2.2.2.2.2.2.2.2.2.2.2.1.trans (K957.2.1 (115, 34) (by decide +kernel)).symm)), (xGR_fr I.2.2.2.2.2.2.2.2.2.2.2.2.2.2.2.2.2.2.2.2.2.2.2.2.1 K957.2.1 (by decide +kernel) (by decide +kernel)), (xGR_fr I.2.2.2.2.2.2.2.2.2.2.2.2.2.2.2.2.2.2.2.2.2.2.2.2.2.1 K957.2.1 (by decide +kernel) (by decide +kernel)), (xGR_fr I.2.2.2.2.2.2.2.2.2.2.2.2.2.2.2.2.2.2.2.2.2.2.2.2.2.2.1 K957.2.1 (by decide +kernel) (by decide +kernel)), (xGR_fr I.2.2.2.2.2.2.2.2.2.2.2.2.2.2.2.2.2.2.2.2.2.2.2.2.2.2.2.1 K957.2.1 (by decide +kernel) (by decide +kernel)), (xts_fr I.2.2.2.2.2.2.2.2.2.2.2.2.2.2.2.2.2.2.2.2.2.2.2.2.2.2.2.2.1 (fun l hl => K957.2.1 l (xk_el (by decide +kernel) hl))), ((K957.2.1 (63, 3) (by decide +kernel)).trans I.2.2.2.2.2.2.2.2.2.2.2.2.2.2.2.2.2.2.2.2.2.2.2.2.2.2.2.2.2)⟩
              · refine xi_cmf (pc' := 239) kc_195_236 rfl (xc_eq_f (X := v920.toInt) (Y := r948.toInt) rfl rfl (by omega)) ?_
                refine xi_iconst (pc' := 240) (v := 0) kc_195_239 rfl rfl ?_
                refine xi_ireturn kc_195_240 mr_195 rfl ?_
                exfalso; omega
            · refine xi_cmf (pc' := 54) kc_88_51 rfl (xc_le_f (X := a8.toInt) (Y := 99999) rfl (by decide) (by omega)) ?_
              refine xi_aload_n (pc' := 55) (x := 0) kc_88_54 rfl rfl ?_
              refine xi_bipush (pc' := 57) (v := (-6)) kc_88_55 rfl rfl ?_
              refine xi_virtual (mj := 90) (as := [.int (-6)]) (st1 := []) (lv0 := [(0, .ref 0), (1, .int (-6))]) kc_88_57 rfl rfl rfl rfl rfl A11 (Nat.le_of_ble_eq_true rfl) (hJ _ _ _ _ (by decide)) (xm_le ml_90 rfl) rfl ?_
              refine xi_iload_n (pc' := 1) (x := (-6)) kc_90_0 rfl rfl ?_
              refine xi_ineg (pc' := 2) (v := 6) kc_90_1 rfl rfl ?_
              refine xi_istore_n (pc' := 3) (lv' := [(2, .int 6), (0, .ref 0), (1, .int (-6))]) kc_90_2 rfl rfl (xm_lt ml_90 rfl) ?_
              refine xi_iload_n (pc' := 4) (x := 6) kc_90_3 rfl rfl ?_
              refine xi_iff (pc' := 7) kc_90_4 rfl rfl ?_
              refine xi_iload_n (pc' := 8) (x := 6) kc_90_7 rfl rfl ?_
              refine xi_aload_n (pc' := 9) (x := 0) kc_90_8 rfl rfl ?_
              refine xi_getfield (pc' := 12) (v := .ref 94) kc_90_9 rfl rfl rfl A11 rfl ?_
              obtain ⟨y989, A989, hy989, ry989⟩ := xk_arr K.1 xD_94
              refine xi_arraylength (pc' := 13) (n := 7) (v := 7) kc_90_12 rfl (xl_lenI (by decide) (by decide) A989 hy989) rfl ?_
              refine xi_cmf (pc' := 16) kc_90_13 rfl rfl ?_
              refine xi_aload_n (pc' := 17) (x := 0) kc_90_16 rfl rfl ?_
              refine xi_getfield (pc' := 20) (v := .ref 94) kc_90_17 rfl rfl rfl A11 rfl ?_
              refine xi_iload_n (pc' := 21) (x := 6) kc_90_20 rfl rfl ?_
              refine xi_dup2 (pc' := 22) kc_90_21 rfl ⟨rfl, rfl⟩ ?_
              obtain ⟨v990, ev990, bv990, dv990⟩ := xj_get hy989 ry989 (i := 6) (by decide) (by decide)
              refine xi_iaload (pc' := 23) (v := v990) kc_90_22 rfl A989 (by decide) rfl (xi_in (by decide) (by rw [hy989]; decide)) ev990 ?_
              refine xi_iconst (pc' := 24) (v := 1) kc_90_23 rfl rfl ?_
              obtain ⟨v991, ev991⟩ : ∃ q : Int32, (v990 : Int32) + 1 = q := ⟨_, rfl⟩
              have rv991 := xc_rng v991
              refine xi_iadd (pc' := 25) (v := v991) kc_90_24 rfl ev991 ?_
              obtain ⟨y992, s992, hy992, ry992⟩ := xj_set (v := v991) hy989 ry989 6 (by first | omega | decide) (by first | omega | decide)
              refine xi_iastore (pc' := 26) (x' := y992) kc_90_25 rfl A989 rfl (xi_in (by decide) (by rw [hy989]; decide)) s992 (fun hh992 eh992 => ?_)
              have K993 := xk_pa K (xk_wa (by decide +kernel)) xD_94 hy992 ry992 eh992
              have KR994 := xk_pa KR (xk_wa (by decide +kernel)) xD_94 hy992 ry992 eh992
              refine xi_iload_n (pc' := 27) (x := (-6)) kc_90_26 rfl rfl ?_
              refine xi_ireturn kc_90_27 mr_90 rfl ?_
              show xw J ov 99 88 (60, [(0, .ref 0), (1, .int a4), (2, .int 5), (3, .int a8)], [.int (-6)], hh992) _
              refine xi_ireturn kc_88_60 mr_88 rfl ?_
              show xw J ov 100 195 (214, [(4, .int x4), (3, .ref 167), (2, .ref 115), (1, .ref 0), (0, .ref 1000000)], [.int (-6)], hh992) _
              refine xi_aload_n (pc' := 215) (x := 115) kc_195_214 rfl rfl ?_
              refine xi_aload_n (pc' := 216) (x := 1000000) kc_195_215 rfl rfl ?_
              refine xi_iload (pc' := 218) (x := x4) kc_195_216 rfl rfl ?_
              refine xi_iconst (pc' := 219) (v := 1) kc_195_218 rfl rfl ?_
              refine xi_iadd (pc' := 220) (v := v3) kc_195_219 rfl ev3 ?_
              refine xi_ialoadO (pc' := 221) (v := a4) kc_195_220 rfl (by decide) hov0 (xi_in (by omega) (by omega)) ea4 ?_
              refine xi_aload_n (pc' := 222) (x := 1000000) kc_195_221 rfl rfl ?_
              refine xi_iload (pc' := 224) (x := x4) kc_195_222 rfl rfl ?_
              refine xi_iconst (pc' := 225) (v := 2) kc_195_224 rfl rfl ?_
              refine xi_iadd (pc' := 226) (v := v5) kc_195_225 rfl ev5 ?_
              refine xi_ialoadO (pc' := 227) (v := 5) kc_195_226 rfl (by decide) hov0 (xi_in (by omega) (by omega)) ea6 ?_
              refine xi_aload_n (pc' := 228) (x := 1000000) kc_195_227 rfl rfl ?_
              refine xi_iload (pc' := 230) (x := x4) kc_195_228 rfl rfl ?_
              refine xi_iconst (pc' := 231) (v := 3) kc_195_230 rfl rfl ?_
              refine xi_iadd (pc' := 232) (v := v7) kc_195_231 rfl ev7 ?_
              refine xi_ialoadO (pc' := 233) (v := a8) kc_195_232 rfl (by decide) hov0 (xi_in (by omega) (by omega)) ea8 ?_
              obtain ⟨u995, u996, u997, u998, u999, u1000, u1001, u1002, u1003, u1004, u1005, u1006, u1007, bu995, bu996, bu997, bu998, bu999, bu1000, bu1001, bu1002, bu1003, bu1004, bu1005, bu1006, bu1007, A1008⟩ := xq_115 K.1
              have A1009 := ((eh992.2.1 115 (by decide)).trans A1008)
              refine xi_virtual (mj := 9) (as := [.int a4, .int 5, .int a8]) (st1 := [.int (-6)]) (lv0 := [(0, .ref 115), (1, .int a4), (2, .int 5), (3, .int a8)]) kc_195_233 rfl rfl rfl rfl rfl A1009 (Nat.le_of_ble_eq_true rfl) (hJ _ _ _ _ (by decide)) (xm_le ml_9 rfl) rfl ?_
              refine xi_aload_n (pc' := 1) (x := 115) kc_9_0 rfl rfl ?_
              refine xi_iconst (pc' := 2) (v := 0) kc_9_1 rfl rfl ?_
              refine xi_putfield (pc' := 5) (fs' := [.int 0, .int u996, .ref 116, .ref 117, .ref 118, .ref 119, .ref 120, .ref 121, .ref 122, .ref 123, .ref 124, .ref 125, .ref 126, .ref 127, .ref 128, .ref 129, .int u997, .ref 130, .int u998, .ref 131, .ref 132, .ref 133, .ref 134, .int u999, .ref 135, .ref 136, .ref 137, .ref 138, .ref 139, .ref 140, .ref 141, .ref 142, .int u1000, .int u1001, .int u1002, .ref 143, .ref 144, .ref 145, .ref 146, .ref 147, .ref 148, .int u1003, .ref 149, .ref 150, .ref 151, .int u1004, .ref 152, .ref 153, .ref 154, .ref 155, .ref 156, .ref 157, .ref 158, .ref 159, .int u1005, .ref 160, .int u1006, .ref 161, .ref 162, .ref 163, .ref 164, .int u1007, .ref 165, .ref 166]) kc_9_2 rfl rfl rfl A1009 rfl rfl rfl (Nat.le_of_ble_eq_true rfl) rfl (fun hh1011 eh1010 => ?_)
              have K1012 := xk_pf (k := 0) (v := 0) K993 (xk_wf (by decide +kernel)) xD_115 A1009 rfl (by first | omega | decide) (by first | omega | decide) eh1010 rfl
              have KR1013 := xk_pf (k := 0) (v := 0) KR994 (xk_wf (by decide +kernel)) xD_115 A1009 rfl (by first | omega | decide) (by first | omega | decide) eh1010 rfl
              refine xi_iload_n (pc' := 6) (x := a4) kc_9_5 rfl rfl ?_
              refine xi_static (mj := 10) (as := [.int a4]) (st1 := []) (lv0 := [(0, .int a4)]) kc_9_6 rfl rfl (Nat.le_of_ble_eq_true rfl) rfl rfl (Nat.le_of_ble_eq_true rfl) (hJ _ _ _ _ (by decide)) (xm_le ml_10 rfl) rfl ?_
              refine xi_iload_n (pc' := 1) (x := a4) kc_10_0 rfl rfl ?_
              refine xi_iconst (pc' := 2) (v := 0) kc_10_1 rfl rfl ?_
              refine xi_iconst (pc' := 3) (v := 5) kc_10_2 rfl rfl ?_
              refine xi_static (mj := 11) (as := [.int a4, .int 0, .int 5]) (st1 := []) (lv0 := [(0, .int a4), (1, .int 0), (2, .int 5)]) kc_10_3 rfl rfl (Nat.le_of_ble_eq_true rfl) rfl rfl (Nat.le_of_ble_eq_true rfl) (hJ _ _ _ _ (by decide)) (xm_le ml_11 rfl) rfl ?_
              refine xi_iload_n (pc' := 1) (x := a4) kc_11_0 rfl rfl ?_
              refine xi_iload_n (pc' := 2) (x := 0) kc_11_1 rfl rfl ?_
              refine xi_cmf (pc' := 5) kc_11_2 rfl (xc_lt_f (X := a4.toInt) (Y := 0) rfl (by decide) (by omega)) ?_
              refine xi_iload_n (pc' := 6) (x := a4) kc_11_5 rfl rfl ?_
              refine xi_iload_n (pc' := 7) (x := 5) kc_11_6 rfl rfl ?_
              refine xi_cmf (pc' := 10) kc_11_7 rfl (xc_gt_f (X := a4.toInt) (Y := 5) rfl (by decide) (by omega)) ?_
              refine xi_iconst (pc' := 11) (v := 1) kc_11_10 rfl rfl ?_
              refine xi_goto (pc' := 15) kc_11_11 rfl ?_
              refine xi_ireturn kc_11_15 mr_11 rfl ?_
              show xw J ov 98 10 (6, [(0, .int a4)], [.int 1], hh1011) _
              refine xi_ireturn kc_10_6 mr_10 rfl ?_
              show xw J ov 99 9 (9, [(0, .ref 115), (1, .int a4), (2, .int 5), (3, .int a8)], [.int 1], hh1011) _
              refine xi_ift (pc' := 18) kc_9_9 rfl rfl ?_
              refine xi_iload_n (pc' := 19) (x := 5) kc_9_18 rfl rfl ?_
              refine xi_iconst (pc' := 20) (v := 0) kc_9_19 rfl rfl ?_
              refine xi_iconst (pc' := 21) (v := 5) kc_9_20 rfl rfl ?_
              refine xi_static (mj := 11) (as := [.int 5, .int 0, .int 5]) (st1 := []) (lv0 := [(0, .int 5), (1, .int 0), (2, .int 5)]) kc_9_21 rfl rfl (Nat.le_of_ble_eq_true rfl) rfl rfl (Nat.le_of_ble_eq_true rfl) (hJ _ _ _ _ (by decide)) (xm_le ml_11 rfl) rfl ?_
              refine xi_iload_n (pc' := 1) (x := 5) kc_11_0 rfl rfl ?_
              refine xi_iload_n (pc' := 2) (x := 0) kc_11_1 rfl rfl ?_
              refine xi_cmf (pc' := 5) kc_11_2 rfl rfl ?_
              refine xi_iload_n (pc' := 6) (x := 5) kc_11_5 rfl rfl ?_
              refine xi_iload_n (pc' := 7) (x := 5) kc_11_6 rfl rfl ?_
              refine xi_cmf (pc' := 10) kc_11_7 rfl rfl ?_
              refine xi_iconst (pc' := 11) (v := 1) kc_11_10 rfl rfl ?_
              refine xi_goto (pc' := 15) kc_11_11 rfl ?_
              refine xi_ireturn kc_11_15 mr_11 rfl ?_
              show xw J ov 99 9 (24, [(0, .ref 115), (1, .int a4), (2, .int 5), (3, .int a8)], [.int 1], hh1011) _
              refine xi_ift (pc' := 34) kc_9_24 rfl rfl ?_
              refine xi_iload_n (pc' := 35) (x := a8) kc_9_34 rfl rfl ?_
              refine xi_iload_n (pc' := 36) (x := 5) kc_9_35 rfl rfl ?_
              refine xi_ift (pc' := 44) kc_9_36 rfl rfl ?_
              refine xi_iconst (pc' := 45) (v := 0) kc_9_44 rfl rfl ?_
              refine xi_cmt (pc' := 55) kc_9_45 rfl (xc_ge_t (X := a8.toInt) (Y := 0) rfl (by decide) (by omega)) ?_
              refine xi_iload_n (pc' := 56) (x := a8) kc_9_55 rfl rfl ?_
              refine xi_iload_n (pc' := 57) (x := 5) kc_9_56 rfl rfl ?_
              refine xi_ift (pc' := 65) kc_9_57 rfl rfl ?_
              refine xi_iload_n (pc' := 66) (x := 5) kc_9_65 rfl rfl ?_
              refine xi_iconst (pc' := 67) (v := 1) kc_9_66 rfl rfl ?_
              refine xi_cmt (pc' := 75) kc_9_67 rfl rfl ?_
              refine xi_iload_n (pc' := 76) (x := 5) kc_9_75 rfl rfl ?_
              refine xi_iconst (pc' := 77) (v := 4) kc_9_76 rfl rfl ?_
              refine xi_cmt (pc' := 85) kc_9_77 rfl rfl ?_
              refine xi_iload_n (pc' := 86) (x := 5) kc_9_85 rfl rfl ?_
              refine xi_iconst (pc' := 87) (v := 4) kc_9_86 rfl rfl ?_
              refine xi_cmt (pc' := 94) kc_9_87 rfl rfl ?_
              refine xi_ldc (pc' := 96) (v := 99999) kc_9_94 rfl rfl ?_
              refine xi_cmf (pc' := 99) kc_9_96 rfl (xc_le_f (X := a8.toInt) (Y := 99999) rfl (by decide) (by omega)) ?_
              refine xi_aload_n (pc' := 100) (x := 115) kc_9_99 rfl rfl ?_
              refine xi_bipush (pc' := 102) (v := (-6)) kc_9_100 rfl rfl ?_
              refine xi_virtual (mj := 12) (as := [.int (-6)]) (st1 := []) (lv0 := [(0, .ref 115), (1, .int (-6))]) kc_9_102 rfl rfl rfl rfl rfl eh1010.1 (Nat.le_of_ble_eq_true rfl) (hJ _ _ _ _ (by decide)) (xm_le ml_12 rfl) rfl ?_
              refine xi_aload_n (pc' := 1) (x := 115) kc_12_0 rfl rfl ?_
              refine xi_getfield (pc' := 4) (v := .ref 140) kc_12_1 rfl rfl rfl eh1010.1 rfl ?_
              refine xi_iload_n (pc' := 5) (x := (-6)) kc_12_4 rfl rfl ?_
              refine xi_ineg (pc' := 6) (v := 6) kc_12_5 rfl rfl ?_
              refine xi_dup2 (pc' := 7) kc_12_6 rfl ⟨rfl, rfl⟩ ?_
              obtain ⟨y1014, A1014, hy1014, ry1014⟩ := xk_arr K.1 xD_140
              obtain ⟨v1015, ev1015, bv1015, dv1015⟩ := xj_get hy1014 ry1014 (i := 6) (by decide) (by decide)
              have A1016 := ((eh1010.2.1 140 (by decide)).trans ((eh992.2.1 140 (by decide)).trans A1014))
              refine xi_iaload (pc' := 8) (v := v1015) kc_12_7 rfl A1016 (by decide) rfl (xi_in (by decide) (by rw [hy1014]; decide)) ev1015 ?_
              refine xi_iconst (pc' := 9) (v := 1) kc_12_8 rfl rfl ?_
              obtain ⟨v1017, ev1017⟩ : ∃ q : Int32, (v1015 : Int32) + 1 = q := ⟨_, rfl⟩
              have rv1017 := xc_rng v1017
              refine xi_iadd (pc' := 10) (v := v1017) kc_12_9 rfl ev1017 ?_
              obtain ⟨y1018, s1018, hy1018, ry1018⟩ := xj_set (v := v1017) hy1014 ry1014 6 (by first | omega | decide) (by first | omega | decide)
              refine xi_iastore (pc' := 11) (x' := y1018) kc_12_10 rfl A1016 rfl (xi_in (by decide) (by rw [hy1014]; decide)) s1018 (fun hh1018 eh1018 => ?_)
              have K1019 := xk_pa K1012 (xk_wa (by decide +kernel)) xD_140 hy1018 ry1018 eh1018
              have KR1020 := xk_pa KR1013 (xk_wa (by decide +kernel)) xD_140 hy1018 ry1018 eh1018
              refine xi_iload_n (pc' := 12) (x := (-6)) kc_12_11 rfl rfl ?_
              refine xi_ireturn kc_12_12 mr_12 rfl ?_
              show xw J ov 99 9 (105, [(0, .ref 115), (1, .int a4), (2, .int 5), (3, .int a8)], [.int (-6)], hh1018) _
              refine xi_ireturn kc_9_105 mr_9 rfl ?_
              show xw J ov 100 195 (236, [(4, .int x4), (3, .ref 167), (2, .ref 115), (1, .ref 0), (0, .ref 1000000)], [.int (-6), .int (-6)], hh1018) _
              refine xi_cmt (pc' := 1501) kc_195_236 rfl rfl ?_
              obtain ⟨v1021, ev1021⟩ : ∃ q : Int32, x4 + 6 = q := ⟨_, rfl⟩
              have zv1021 : v1021.toInt = (x4.toInt + 6) := by rw [← ev1021]; exact (xz_add (X := x4.toInt) (Y := 6) rfl (by decide) (by omega) (by omega)).trans (by omega)
              refine xi_iinc (pc' := 1504) (x := x4) (v := v1021) (lv' := [(4, .int v1021), (3, .ref 167), (2, .ref 115), (1, .ref 0), (0, .ref 1000000)]) kc_195_1501 rfl rfl ev1021 rfl (xm_lt ml_195 rfl) ?_
              refine xi_goto (pc' := 23) kc_195_1504 rfl ?_
              exact kk v1021 hh1018 (by omega) K1019 (xI_kept I KR1020.2.1)
          · refine xi_cmf (pc' := 38) kc_88_35 rfl (xc_ge_f (X := a8.toInt) (Y := 0) rfl (by decide) (by omega)) ?_
            refine xi_aload_n (pc' := 39) (x := 0) kc_88_38 rfl rfl ?_
            refine xi_bipush (pc' := 41) (v := (-4)) kc_88_39 rfl rfl ?_
            refine xi_virtual (mj := 90) (as := [.int (-4)]) (st1 := []) (lv0 := [(0, .ref 0), (1, .int (-4))]) kc_88_41 rfl rfl rfl rfl rfl A11 (Nat.le_of_ble_eq_true rfl) (hJ _ _ _ _ (by decide)) (xm_le ml_90 rfl) rfl ?_
            refine xi_iload_n (pc' := 1) (x := (-4)) kc_90_0 rfl rfl ?_
            refine xi_ineg (pc' := 2) (v := 4) kc_90_1 rfl rfl ?_
            refine xi_istore_n (pc' := 3) (lv' := [(2, .int 4), (0, .ref 0), (1, .int (-4))]) kc_90_2 rfl rfl (xm_lt ml_90 rfl) ?_
            refine xi_iload_n (pc' := 4) (x := 4) kc_90_3 rfl rfl ?_
            refine xi_iff (pc' := 7) kc_90_4 rfl rfl ?_
            refine xi_iload_n (pc' := 8) (x := 4) kc_90_7 rfl rfl ?_
            refine xi_aload_n (pc' := 9) (x := 0) kc_90_8 rfl rfl ?_
            refine xi_getfield (pc' := 12) (v := .ref 94) kc_90_9 rfl rfl rfl A11 rfl ?_
            obtain ⟨y1022, A1022, hy1022, ry1022⟩ := xk_arr K.1 xD_94
            refine xi_arraylength (pc' := 13) (n := 7) (v := 7) kc_90_12 rfl (xl_lenI (by decide) (by decide) A1022 hy1022) rfl ?_
            refine xi_cmf (pc' := 16) kc_90_13 rfl rfl ?_
            refine xi_aload_n (pc' := 17) (x := 0) kc_90_16 rfl rfl ?_
            refine xi_getfield (pc' := 20) (v := .ref 94) kc_90_17 rfl rfl rfl A11 rfl ?_
            refine xi_iload_n (pc' := 21) (x := 4) kc_90_20 rfl rfl ?_
            refine xi_dup2 (pc' := 22) kc_90_21 rfl ⟨rfl, rfl⟩ ?_
            obtain ⟨v1023, ev1023, bv1023, dv1023⟩ := xj_get hy1022 ry1022 (i := 4) (by decide) (by decide)
            refine xi_iaload (pc' := 23) (v := v1023) kc_90_22 rfl A1022 (by decide) rfl (xi_in (by decide) (by rw [hy1022]; decide)) ev1023 ?_
            refine xi_iconst (pc' := 24) (v := 1) kc_90_23 rfl rfl ?_
            obtain ⟨v1024, ev1024⟩ : ∃ q : Int32, (v1023 : Int32) + 1 = q := ⟨_, rfl⟩
            have rv1024 := xc_rng v1024
            refine xi_iadd (pc' := 25) (v := v1024) kc_90_24 rfl ev1024 ?_
            obtain ⟨y1025, s1025, hy1025, ry1025⟩ := xj_set (v := v1024) hy1022 ry1022 4 (by first | omega | decide) (by first | omega | decide)
            refine xi_iastore (pc' := 26) (x' := y1025) kc_90_25 rfl A1022 rfl (xi_in (by decide) (by rw [hy1022]; decide)) s1025 (fun hh1025 eh1025 => ?_)
            have K1026 := xk_pa K (xk_wa (by decide +kernel)) xD_94 hy1025 ry1025 eh1025
            have KR1027 := xk_pa KR (xk_wa (by decide +kernel)) xD_94 hy1025 ry1025 eh1025
            refine xi_iload_n (pc' := 27) (x := (-4)) kc_90_26 rfl rfl ?_
            refine xi_ireturn kc_90_27 mr_90 rfl ?_
            show xw J ov 99 88 (44, [(0, .ref 0), (1, .int a4), (2, .int 5), (3, .int a8)], [.int (-4)], hh1025) _
            refine xi_ireturn kc_88_44 mr_88 rfl ?_
            show xw J ov 100 195 (214, [(4, .int x4), (3, .ref 167), (2, .ref 115), (1, .ref 0), (0, .ref 1000000)], [.int (-4)], hh1025) _
            refine xi_aload_n (pc' := 215) (x := 115) kc_195_214 rfl rfl ?_
            refine xi_aload_n (pc' := 216) (x := 1000000) kc_195_215 rfl rfl ?_
            refine xi_iload (pc' := 218) (x := x4) kc_195_216 rfl rfl ?_
            refine xi_iconst (pc' := 219) (v := 1) kc_195_218 rfl rfl ?_
            refine xi_iadd (pc' := 220) (v := v3) kc_195_219 rfl ev3 ?_
            refine xi_ialoadO (pc' := 221) (v := a4) kc_195_220 rfl (by decide) hov0 (xi_in (by omega) (by omega)) ea4 ?_
            refine xi_aload_n (pc' := 222) (x := 1000000) kc_195_221 rfl rfl ?_
            refine xi_iload (pc' := 224) (x := x4) kc_195_222 rfl rfl ?_
            refine xi_iconst (pc' := 225) (v := 2) kc_195_224 rfl rfl ?_
            refine xi_iadd (pc' := 226) (v := v5) kc_195_225 rfl ev5 ?_
            refine xi_ialoadO (pc' := 227) (v := 5) kc_195_226 rfl (by decide) hov0 (xi_in (by omega) (by omega)) ea6 ?_
            refine xi_aload_n (pc' := 228) (x := 1000000) kc_195_227 rfl rfl ?_
            refine xi_iload (pc' := 230) (x := x4) kc_195_228 rfl rfl ?_
            refine xi_iconst (pc' := 231) (v := 3) kc_195_230 rfl rfl ?_
            refine xi_iadd (pc' := 232) (v := v7) kc_195_231 rfl ev7 ?_
            refine xi_ialoadO (pc' := 233) (v := a8) kc_195_232 rfl (by decide) hov0 (xi_in (by omega) (by omega)) ea8 ?_
            obtain ⟨u1028, u1029, u1030, u1031, u1032, u1033, u1034, u1035, u1036, u1037, u1038, u1039, u1040, bu1028, bu1029, bu1030, bu1031, bu1032, bu1033, bu1034, bu1035, bu1036, bu1037, bu1038, bu1039, bu1040, A1041⟩ := xq_115 K.1
            have A1042 := ((eh1025.2.1 115 (by decide)).trans A1041)
            refine xi_virtual (mj := 9) (as := [.int a4, .int 5, .int a8]) (st1 := [.int (-4)]) (lv0 := [(0, .ref 115), (1, .int a4), (2, .int 5), (3, .int a8)]) kc_195_233 rfl rfl rfl rfl rfl A1042 (Nat.le_of_ble_eq_true rfl) (hJ _ _ _ _ (by decide)) (xm_le ml_9 rfl) rfl ?_
            refine xi_aload_n (pc' := 1) (x := 115) kc_9_0 rfl rfl ?_
            refine xi_iconst (pc' := 2) (v := 0) kc_9_1 rfl rfl ?_
            refine xi_putfield (pc' := 5) (fs' := [.int 0, .int u1029, .ref 116, .ref 117, .ref 118, .ref 119, .ref 120, .ref 121, .ref 122, .ref 123, .ref 124, .ref 125, .ref 126, .ref 127, .ref 128, .ref 129, .int u1030, .ref 130, .int u1031, .ref 131, .ref 132, .ref 133, .ref 134, .int u1032, .ref 135, .ref 136, .ref 137, .ref 138, .ref 139, .ref 140, .ref 141, .ref 142, .int u1033, .int u1034, .int u1035, .ref 143, .ref 144, .ref 145, .ref 146, .ref 147, .ref 148, .int u1036, .ref 149, .ref 150, .ref 151, .int u1037, .ref 152, .ref 153, .ref 154, .ref 155, .ref 156, .ref 157, .ref 158, .ref 159, .int u1038, .ref 160, .int u1039, .ref 161, .ref 162, .ref 163, .ref 164, .int u1040, .ref 165, .ref 166]) kc_9_2 rfl rfl rfl A1042 rfl rfl rfl (Nat.le_of_ble_eq_true rfl) rfl (fun hh1044 eh1043 => ?_)
            have K1045 := xk_pf (k := 0) (v := 0) K1026 (xk_wf (by decide +kernel)) xD_115 A1042 rfl (by first | omega | decide) (by first | omega | decide) eh1043 rfl
            have KR1046 := xk_pf (k := 0) (v := 0) KR1027 (xk_wf (by decide +kernel)) xD_115 A1042 rfl (by first | omega | decide) (by first | omega | decide) eh1043 rfl
            refine xi_iload_n (pc' := 6) (x := a4) kc_9_5 rfl rfl ?_
            refine xi_static (mj := 10) (as := [.int a4]) (st1 := []) (lv0 := [(0, .int a4)]) kc_9_6 rfl rfl (Nat.le_of_ble_eq_true rfl) rfl rfl (Nat.le_of_ble_eq_true rfl) (hJ _ _ _ _ (by decide)) (xm_le ml_10 rfl) rfl ?_
            refine xi_iload_n (pc' := 1) (x := a4) kc_10_0 rfl rfl ?_
            refine xi_iconst (pc' := 2) (v := 0) kc_10_1 rfl rfl ?_
            refine xi_iconst (pc' := 3) (v := 5) kc_10_2 rfl rfl ?_
            refine xi_static (mj := 11) (as := [.int a4, .int 0, .int 5]) (st1 := []) (lv0 := [(0, .int a4), (1, .int 0), (2, .int 5)]) kc_10_3 rfl rfl (Nat.le_of_ble_eq_true rfl) rfl rfl (Nat.le_of_ble_eq_true rfl) (hJ _ _ _ _ (by decide)) (xm_le ml_11 rfl) rfl ?_
            refine xi_iload_n (pc' := 1) (x := a4) kc_11_0 rfl rfl ?_
            refine xi_iload_n (pc' := 2) (x := 0) kc_11_1 rfl rfl ?_
            refine xi_cmf (pc' := 5) kc_11_2 rfl (xc_lt_f (X := a4.toInt) (Y := 0) rfl (by decide) (by omega)) ?_
            refine xi_iload_n (pc' := 6) (x := a4) kc_11_5 rfl rfl ?_
            refine xi_iload_n (pc' := 7) (x := 5) kc_11_6 rfl rfl ?_
            refine xi_cmf (pc' := 10) kc_11_7 rfl (xc_gt_f (X := a4.toInt) (Y := 5) rfl (by decide) (by omega)) ?_
            refine xi_iconst (pc' := 11) (v := 1) kc_11_10 rfl rfl ?_
            refine xi_goto (pc' := 15) kc_11_11 rfl ?_
            refine xi_ireturn kc_11_15 mr_11 rfl ?_
            show xw J ov 98 10 (6, [(0, .int a4)], [.int 1], hh1044) _
            refine xi_ireturn kc_10_6 mr_10 rfl ?_
            show xw J ov 99 9 (9, [(0, .ref 115), (1, .int a4), (2, .int 5), (3, .int a8)], [.int 1], hh1044) _
            refine xi_ift (pc' := 18) kc_9_9 rfl rfl ?_
            refine xi_iload_n (pc' := 19) (x := 5) kc_9_18 rfl rfl ?_
            refine xi_iconst (pc' := 20) (v := 0) kc_9_19 rfl rfl ?_
            refine xi_iconst (pc' := 21) (v := 5) kc_9_20 rfl rfl ?_
            refine xi_static (mj := 11) (as := [.int 5, .int 0, .int 5]) (st1 := []) (lv0 := [(0, .int 5), (1, .int 0), (2, .int 5)]) kc_9_21 rfl rfl (Nat.le_of_ble_eq_true rfl) rfl rfl (Nat.le_of_ble_eq_true rfl) (hJ _ _ _ _ (by decide)) (xm_le ml_11 rfl) rfl ?_
            refine xi_iload_n (pc' := 1) (x := 5) kc_11_0 rfl rfl ?_
            refine xi_iload_n (pc' := 2) (x := 0) kc_11_1 rfl rfl ?_
            refine xi_cmf (pc' := 5) kc_11_2 rfl rfl ?_
            refine xi_iload_n (pc' := 6) (x := 5) kc_11_5 rfl rfl ?_
            refine xi_iload_n (pc' := 7) (x := 5) kc_11_6 rfl rfl ?_
            refine xi_cmf (pc' := 10) kc_11_7 rfl rfl ?_
            refine xi_iconst (pc' := 11) (v := 1) kc_11_10 rfl rfl ?_
            refine xi_goto (pc' := 15) kc_11_11 rfl ?_
            refine xi_ireturn kc_11_15 mr_11 rfl ?_
            show xw J ov 99 9 (24, [(0, .ref 115), (1, .int a4), (2, .int 5), (3, .int a8)], [.int 1], hh1044) _
            refine xi_ift (pc' := 34) kc_9_24 rfl rfl ?_
            refine xi_iload_n (pc' := 35) (x := a8) kc_9_34 rfl rfl ?_
            refine xi_iload_n (pc' := 36) (x := 5) kc_9_35 rfl rfl ?_
            refine xi_ift (pc' := 44) kc_9_36 rfl rfl ?_
            refine xi_iconst (pc' := 45) (v := 0) kc_9_44 rfl rfl ?_
            refine xi_cmf (pc' := 48) kc_9_45 rfl (xc_ge_f (X := a8.toInt) (Y := 0) rfl (by decide) (by omega)) ?_
            refine xi_aload_n (pc' := 49) (x := 115) kc_9_48 rfl rfl ?_
            refine xi_bipush (pc' := 51) (v := (-4)) kc_9_49 rfl rfl ?_
            refine xi_virtual (mj := 12) (as := [.int (-4)]) (st1 := []) (lv0 := [(0, .ref 115), (1, .int (-4))]) kc_9_51 rfl rfl rfl rfl rfl eh1043.1 (Nat.le_of_ble_eq_true rfl) (hJ _ _ _ _ (by decide)) (xm_le ml_12 rfl) rfl ?_
            refine xi_aload_n (pc' := 1) (x := 115) kc_12_0 rfl rfl ?_
            refine xi_getfield (pc' := 4) (v := .ref 140) kc_12_1 rfl rfl rfl eh1043.1 rfl ?_
            refine xi_iload_n (pc' := 5) (x := (-4)) kc_12_4 rfl rfl ?_
            refine xi_ineg (pc' := 6) (v := 4) kc_12_5 rfl rfl ?_
            refine xi_dup2 (pc' := 7) kc_12_6 rfl ⟨rfl, rfl⟩ ?_
            obtain ⟨y1047, A1047, hy1047, ry1047⟩ := xk_arr K.1 xD_140
            obtain ⟨v1048, ev1048, bv1048, dv1048⟩ := xj_get hy1047 ry1047 (i := 4) (by decide) (by decide)
            have A1049 := ((eh1043.2.1 140 (by decide)).trans ((eh1025.2.1 140 (by decide)).trans A1047))
            refine xi_iaload (pc' := 8) (v := v1048) kc_12_7 rfl A1049 (by decide) rfl (xi_in (by decide) (by rw [hy1047]; decide)) ev1048 ?_
            refine xi_iconst (pc' := 9) (v := 1) kc_12_8 rfl rfl ?_
            obtain ⟨v1050, ev1050⟩ : ∃ q : Int32, (v1048 : Int32) + 1 = q := ⟨_, rfl⟩
            have rv1050 := xc_rng v1050
            refine xi_iadd (pc' := 10) (v := v1050) kc_12_9 rfl ev1050 ?_
            obtain ⟨y1051, s1051, hy1051, ry1051⟩ := xj_set (v := v1050) hy1047 ry1047 4 (by first | omega | decide) (by first | omega | decide)
            refine xi_iastore (pc' := 11) (x' := y1051) kc_12_10 rfl A1049 rfl (xi_in (by decide) (by rw [hy1047]; decide)) s1051 (fun hh1051 eh1051 => ?_)
            have K1052 := xk_pa K1045 (xk_wa (by decide +kernel)) xD_140 hy1051 ry1051 eh1051
            have KR1053 := xk_pa KR1046 (xk_wa (by decide +kernel)) xD_140 hy1051 ry1051 eh1051
            refine xi_iload_n (pc' := 12) (x := (-4)) kc_12_11 rfl rfl ?_
            refine xi_ireturn kc_12_12 mr_12 rfl ?_
            show xw J ov 99 9 (54, [(0, .ref 115), (1, .int a4), (2, .int 5), (3, .int a8)], [.int (-4)], hh1051) _
            refine xi_ireturn kc_9_54 mr_9 rfl ?_
            show xw J ov 100 195 (236, [(4, .int x4), (3, .ref 167), (2, .ref 115), (1, .ref 0), (0, .ref 1000000)], [.int (-4), .int (-4)], hh1051) _
            refine xi_cmt (pc' := 1501) kc_195_236 rfl rfl ?_
            obtain ⟨v1054, ev1054⟩ : ∃ q : Int32, x4 + 6 = q := ⟨_, rfl⟩
            have zv1054 : v1054.toInt = (x4.toInt + 6) := by rw [← ev1054]; exact (xz_add (X := x4.toInt) (Y := 6) rfl (by decide) (by omega) (by omega)).trans (by omega)
            refine xi_iinc (pc' := 1504) (x := x4) (v := v1054) (lv' := [(4, .int v1054), (3, .ref 167), (2, .ref 115), (1, .ref 0), (0, .ref 1000000)]) kc_195_1501 rfl rfl ev1054 rfl (xm_lt ml_195 rfl) ?_
            refine xi_goto (pc' := 23) kc_195_1504 rfl ?_
            exact kk v1054 hh1051 (by omega) K1052 (xI_kept I KR1053.2.1)
        · refine xi_cmf (pc' := 22) kc_88_19 rfl (xc_le_f (X := a6.toInt) (Y := 5) rfl (by decide) (by omega)) ?_
          refine xi_aload_n (pc' := 23) (x := 0) kc_88_22 rfl rfl ?_
          refine xi_bipush (pc' := 25) (v := (-2)) kc_88_23 rfl rfl ?_
          refine xi_virtual (mj := 90) (as := [.int (-2)]) (st1 := []) (lv0 := [(0, .ref 0), (1, .int (-2))]) kc_88_25 rfl rfl rfl rfl rfl A11 (Nat.le_of_ble_eq_true rfl) (hJ _ _ _ _ (by decide)) (xm_le ml_90 rfl) rfl ?_
          refine xi_iload_n (pc' := 1) (x := (-2)) kc_90_0 rfl rfl ?_
          refine xi_ineg (pc' := 2) (v := 2) kc_90_1 rfl rfl ?_
          refine xi_istore_n (pc' := 3) (lv' := [(2, .int 2), (0, .ref 0), (1, .int (-2))]) kc_90_2 rfl rfl (xm_lt ml_90 rfl) ?_
          refine xi_iload_n (pc' := 4) (x := 2) kc_90_3 rfl rfl ?_
          refine xi_iff (pc' := 7) kc_90_4 rfl rfl ?_
          refine xi_iload_n (pc' := 8) (x := 2) kc_90_7 rfl rfl ?_
          refine xi_aload_n (pc' := 9) (x := 0) kc_90_8 rfl rfl ?_
          refine xi_getfield (pc' := 12) (v := .ref 94) kc_90_9 rfl rfl rfl A11 rfl ?_
          obtain ⟨y1055, A1055, hy1055, ry1055⟩ := xk_arr K.1 xD_94
          refine xi_arraylength (pc' := 13) (n := 7) (v := 7) kc_90_12 rfl (xl_lenI (by decide) (by decide) A1055 hy1055) rfl ?_
          refine xi_cmf (pc' := 16) kc_90_13 rfl rfl ?_
          refine xi_aload_n (pc' := 17) (x := 0) kc_90_16 rfl rfl ?_
          refine xi_getfield (pc' := 20) (v := .ref 94) kc_90_17 rfl rfl rfl A11 rfl ?_
          refine xi_iload_n (pc' := 21) (x := 2) kc_90_20 rfl rfl ?_
          refine xi_dup2 (pc' := 22) kc_90_21 rfl ⟨rfl, rfl⟩ ?_
          obtain ⟨v1056, ev1056, bv1056, dv1056⟩ := xj_get hy1055 ry1055 (i := 2) (by decide) (by decide)
          refine xi_iaload (pc' := 23) (v := v1056) kc_90_22 rfl A1055 (by decide) rfl (xi_in (by decide) (by rw [hy1055]; decide)) ev1056 ?_
          refine xi_iconst (pc' := 24) (v := 1) kc_90_23 rfl rfl ?_
          obtain ⟨v1057, ev1057⟩ : ∃ q : Int32, (v1056 : Int32) + 1 = q := ⟨_, rfl⟩
          have rv1057 := xc_rng v1057
          refine xi_iadd (pc' := 25) (v := v1057) kc_90_24 rfl ev1057 ?_
          obtain ⟨y1058, s1058, hy1058, ry1058⟩ := xj_set (v := v1057) hy1055 ry1055 2 (by first | omega | decide) (by first | omega | decide)
          refine xi_iastore (pc' := 26) (x' := y1058) kc_90_25 rfl A1055 rfl (xi_in (by decide) (by rw [hy1055]; decide)) s1058 (fun hh1058 eh1058 => ?_)
          have K1059 := xk_pa K (xk_wa (by decide +kernel)) xD_94 hy1058 ry1058 eh1058
          have KR1060 := xk_pa KR (xk_wa (by decide +kernel)) xD_94 hy1058 ry1058 eh1058
          refine xi_iload_n (pc' := 27) (x := (-2)) kc_90_26 rfl rfl ?_
          refine xi_ireturn kc_90_27 mr_90 rfl ?_
          show xw J ov 99 88 (28, [(0, .ref 0), (1, .int a4), (2, .int a6), (3, .int a8)], [.int (-2)], hh1058) _
          refine xi_ireturn kc_88_28 mr_88 rfl ?_
          show xw J ov 100 195 (214, [(4, .int x4), (3, .ref 167), (2, .ref 115), (1, .ref 0), (0, .ref 1000000)], [.int (-2)], hh1058) _
          refine xi_aload_n (pc' := 215) (x := 115) kc_195_214 rfl rfl ?_
          refine xi_aload_n (pc' := 216) (x := 1000000) kc_195_215 rfl rfl ?_
          refine xi_iload (pc' := 218) (x := x4) kc_195_216 rfl rfl ?_
          refine xi_iconst (pc' := 219) (v := 1) kc_195_218 rfl rfl ?_
          refine xi_iadd (pc' := 220) (v := v3) kc_195_219 rfl ev3 ?_
          refine xi_ialoadO (pc' := 221) (v := a4) kc_195_220 rfl (by decide) hov0 (xi_in (by omega) (by omega)) ea4 ?_
          refine xi_aload_n (pc' := 222) (x := 1000000) kc_195_221 rfl rfl ?_
          refine xi_iload (pc' := 224) (x := x4) kc_195_222 rfl rfl ?_
          refine xi_iconst (pc' := 225) (v := 2) kc_195_224 rfl rfl ?_
          refine xi_iadd (pc' := 226) (v := v5) kc_195_225 rfl ev5 ?_
          refine xi_ialoadO (pc' := 227) (v := a6) kc_195_226 rfl (by decide) hov0 (xi_in (by omega) (by omega)) ea6 ?_
          refine xi_aload_n (pc' := 228) (x := 1000000) kc_195_227 rfl rfl ?_
          refine xi_iload (pc' := 230) (x := x4) kc_195_228 rfl rfl ?_
          refine xi_iconst (pc' := 231) (v := 3) kc_195_230 rfl rfl ?_
          refine xi_iadd (pc' := 232) (v := v7) kc_195_231 rfl ev7 ?_
          refine xi_ialoadO (pc' := 233) (v := a8) kc_195_232 rfl (by decide) hov0 (xi_in (by omega) (by omega)) ea8 ?_
          obtain ⟨u1061, u1062, u1063, u1064, u1065, u1066, u1067, u1068, u1069, u1070, u1071, u1072, u1073, bu1061, bu1062, bu1063, bu1064, bu1065, bu1066, bu1067, bu1068, bu1069, bu1070, bu1071, bu1072, bu1073, A1074⟩ := xq_115 K.1
          have A1075 := ((eh1058.2.1 115 (by decide)).trans A1074)
          refine xi_virtual (mj := 9) (as := [.int a4, .int a6, .int a8]) (st1 := [.int (-2)]) (lv0 := [(0, .ref 115), (1, .int a4), (2, .int a6), (3, .int a8)]) kc_195_233 rfl rfl rfl rfl rfl A1075 (Nat.le_of_ble_eq_true rfl) (hJ _ _ _ _ (by decide)) (xm_le ml_9 rfl) rfl ?_
          refine xi_aload_n (pc' := 1) (x := 115) kc_9_0 rfl rfl ?_
          refine xi_iconst (pc' := 2) (v := 0) kc_9_1 rfl rfl ?_
          refine xi_putfield (pc' := 5) (fs' := [.int 0, .int u1062, .ref 116, .ref 117, .ref 118, .ref 119, .ref 120, .ref 121, .ref 122, .ref 123, .ref 124, .ref 125, .ref 126, .ref 127, .ref 128, .ref 129, .int u1063, .ref 130, .int u1064, .ref 131, .ref 132, .ref 133, .ref 134, .int u1065, .ref 135, .ref 136, .ref 137, .ref 138, .ref 139, .ref 140, .ref 141, .ref 142, .int u1066, .int u1067, .int u1068, .ref 143, .ref 144, .ref 145, .ref 146, .ref 147, .ref 148, .int u1069, .ref 149, .ref 150, .ref 151, .int u1070, .ref 152, .ref 153, .ref 154, .ref 155, .ref 156, .ref 157, .ref 158, .ref 159, .int u1071, .ref 160, .int u1072, .ref 161, .ref 162, .ref 163, .ref 164, .int u1073, .ref 165, .ref 166]) kc_9_2 rfl rfl rfl A1075 rfl rfl rfl (Nat.le_of_ble_eq_true rfl) rfl (fun hh1077 eh1076 => ?_)
          have K1078 := xk_pf (k := 0) (v := 0) K1059 (xk_wf (by decide +kernel)) xD_115 A1075 rfl (by first | omega | decide) (by first | omega | decide) eh1076 rfl
          have KR1079 := xk_pf (k := 0) (v := 0) KR1060 (xk_wf (by decide +kernel)) xD_115 A1075 rfl (by first | omega | decide) (by first | omega | decide) eh1076 rfl
          refine xi_iload_n (pc' := 6) (x := a4) kc_9_5 rfl rfl ?_
          refine xi_static (mj := 10) (as := [.int a4]) (st1 := []) (lv0 := [(0, .int a4)]) kc_9_6 rfl rfl (Nat.le_of_ble_eq_true rfl) rfl rfl (Nat.le_of_ble_eq_true rfl) (hJ _ _ _ _ (by decide)) (xm_le ml_10 rfl) rfl ?_
          refine xi_iload_n (pc' := 1) (x := a4) kc_10_0 rfl rfl ?_
          refine xi_iconst (pc' := 2) (v := 0) kc_10_1 rfl rfl ?_
          refine xi_iconst (pc' := 3) (v := 5) kc_10_2 rfl rfl ?_
          refine xi_static (mj := 11) (as := [.int a4, .int 0, .int 5]) (st1 := []) (lv0 := [(0, .int a4), (1, .int 0), (2, .int 5)]) kc_10_3 rfl rfl (Nat.le_of_ble_eq_true rfl) rfl rfl (Nat.le_of_ble_eq_true rfl) (hJ _ _ _ _ (by decide)) (xm_le ml_11 rfl) rfl ?_
          refine xi_iload_n (pc' := 1) (x := a4) kc_11_0 rfl rfl ?_
          refine xi_iload_n (pc' := 2) (x := 0) kc_11_1 rfl rfl ?_
          refine xi_cmf (pc' := 5) kc_11_2 rfl (xc_lt_f (X := a4.toInt) (Y := 0) rfl (by decide) (by omega)) ?_
          refine xi_iload_n (pc' := 6) (x := a4) kc_11_5 rfl rfl ?_
          refine xi_iload_n (pc' := 7) (x := 5) kc_11_6 rfl rfl ?_
          refine xi_cmf (pc' := 10) kc_11_7 rfl (xc_gt_f (X := a4.toInt) (Y := 5) rfl (by decide) (by omega)) ?_
          refine xi_iconst (pc' := 11) (v := 1) kc_11_10 rfl rfl ?_
          refine xi_goto (pc' := 15) kc_11_11 rfl ?_
          refine xi_ireturn kc_11_15 mr_11 rfl ?_
          show xw J ov 98 10 (6, [(0, .int a4)], [.int 1], hh1077) _
          refine xi_ireturn kc_10_6 mr_10 rfl ?_
          show xw J ov 99 9 (9, [(0, .ref 115), (1, .int a4), (2, .int a6), (3, .int a8)], [.int 1], hh1077) _
          refine xi_ift (pc' := 18) kc_9_9 rfl rfl ?_
          refine xi_iload_n (pc' := 19) (x := a6) kc_9_18 rfl rfl ?_
          refine xi_iconst (pc' := 20) (v := 0) kc_9_19 rfl rfl ?_
          refine xi_iconst (pc' := 21) (v := 5) kc_9_20 rfl rfl ?_
          refine xi_static (mj := 11) (as := [.int a6, .int 0, .int 5]) (st1 := []) (lv0 := [(0, .int a6), (1, .int 0), (2, .int 5)]) kc_9_21 rfl rfl (Nat.le_of_ble_eq_true rfl) rfl rfl (Nat.le_of_ble_eq_true rfl) (hJ _ _ _ _ (by decide)) (xm_le ml_11 rfl) rfl ?_
          refine xi_iload_n (pc' := 1) (x := a6) kc_11_0 rfl rfl ?_
          refine xi_iload_n (pc' := 2) (x := 0) kc_11_1 rfl rfl ?_
          refine xi_cmf (pc' := 5) kc_11_2 rfl (xc_lt_f (X := a6.toInt) (Y := 0) rfl (by decide) (by omega)) ?_
          refine xi_iload_n (pc' := 6) (x := a6) kc_11_5 rfl rfl ?_
          refine xi_iload_n (pc' := 7) (x := 5) kc_11_6 rfl rfl ?_
          refine xi_cmt (pc' := 14) kc_11_7 rfl (xc_gt_t (X := a6.toInt) (Y := 5) rfl (by decide) (by omega)) ?_
          refine xi_iconst (pc' := 15) (v := 0) kc_11_14 rfl rfl ?_
          refine xi_ireturn kc_11_15 mr_11 rfl ?_
          show xw J ov 99 9 (24, [(0, .ref 115), (1, .int a4), (2, .int a6), (3, .int a8)], [.int 0], hh1077) _
          refine xi_iff (pc' := 27) kc_9_24 rfl rfl ?_
          refine xi_aload_n (pc' := 28) (x := 115) kc_9_27 rfl rfl ?_
          refine xi_bipush (pc' := 30) (v := (-2)) kc_9_28 rfl rfl ?_
          refine xi_virtual (mj := 12) (as := [.int (-2)]) (st1 := []) (lv0 := [(0, .ref 115), (1, .int (-2))]) kc_9_30 rfl rfl rfl rfl rfl eh1076.1 (Nat.le_of_ble_eq_true rfl) (hJ _ _ _ _ (by decide)) (xm_le ml_12 rfl) rfl ?_
          refine xi_aload_n (pc' := 1) (x := 115) kc_12_0 rfl rfl ?_
          refine xi_getfield (pc' := 4) (v := .ref 140) kc_12_1 rfl rfl rfl eh1076.1 rfl ?_
          refine xi_iload_n (pc' := 5) (x := (-2)) kc_12_4 rfl rfl ?_
          refine xi_ineg (pc' := 6) (v := 2) kc_12_5 rfl rfl ?_
          refine xi_dup2 (pc' := 7) kc_12_6 rfl ⟨rfl, rfl⟩ ?_
          obtain ⟨y1080, A1080, hy1080, ry1080⟩ := xk_arr K.1 xD_140
          obtain ⟨v1081, ev1081, bv1081, dv1081⟩ := xj_get hy1080 ry1080 (i := 2) (by decide) (by decide)
          have A1082 := ((eh1076.2.1 140 (by decide)).trans ((eh1058.2.1 140 (by decide)).trans A1080))
          refine xi_iaload (pc' := 8) (v := v1081) kc_12_7 rfl A1082 (by decide) rfl (xi_in (by decide) (by rw [hy1080]; decide)) ev1081 ?_
          refine xi_iconst (pc' := 9) (v := 1) kc_12_8 rfl rfl ?_
          obtain ⟨v1083, ev1083⟩ : ∃ q : Int32, (v1081 : Int32) + 1 = q := ⟨_, rfl⟩
          have rv1083 := xc_rng v1083
          refine xi_iadd (pc' := 10) (v := v1083) kc_12_9 rfl ev1083 ?_
          obtain ⟨y1084, s1084, hy1084, ry1084⟩ := xj_set (v := v1083) hy1080 ry1080 2 (by first | omega | decide) (by first | omega | decide)
          refine xi_iastore (pc' := 11) (x' := y1084) kc_12_10 rfl A1082 rfl (xi_in (by decide) (by rw [hy1080]; decide)) s1084 (fun hh1084 eh1084 => ?_)
          have K1085 := xk_pa K1078 (xk_wa (by decide +kernel)) xD_140 hy1084 ry1084 eh1084
          have KR1086 := xk_pa KR1079 (xk_wa (by decide +kernel)) xD_140 hy1084 ry1084 eh1084
          refine xi_iload_n (pc' := 12) (x := (-2)) kc_12_11 rfl rfl ?_
          refine xi_ireturn kc_12_12 mr_12 rfl ?_
          show xw J ov 99 9 (33, [(0, .ref 115), (1, .int a4), (2, .int a6), (3, .int a8)], [.int (-2)], hh1084) _
          refine xi_ireturn kc_9_33 mr_9 rfl ?_
          show xw J ov 100 195 (236, [(4, .int x4), (3, .ref 167), (2, .ref 115), (1, .ref 0), (0, .ref 1000000)], [.int (-2), .int (-2)], hh1084) _
          refine xi_cmt (pc' := 1501) kc_195_236 rfl rfl ?_
          obtain ⟨v1087, ev1087⟩ : ∃ q : Int32, x4 + 6 = q := ⟨_, rfl⟩
          have zv1087 : v1087.toInt = (x4.toInt + 6) := by rw [← ev1087]; exact (xz_add (X := x4.toInt) (Y := 6) rfl (by decide) (by omega) (by omega)).trans (by omega)
          refine xi_iinc (pc' := 1504) (x := x4) (v := v1087) (lv' := [(4, .int v1087), (3, .ref 167), (2, .ref 115), (1, .ref 0), (0, .ref 1000000)]) kc_195_1501 rfl rfl ev1087 rfl (xm_lt ml_195 rfl) ?_
          refine xi_goto (pc' := 23) kc_195_1504 rfl ?_
          exact kk v1087 hh1084 (by omega) K1085 (xI_kept I KR1086.2.1)
