set_option maxHeartbeats 8000000 in
theorem lc_0 {J : xe_J} {ov : List (List Int32)} (hJ : ∀ d mj as h, mj ≠ xe_loff → J d mj as h = none) (hov1 : ov[1]? = some [10, 0, 0, 0, 0, 0]) (hov2 : ov[2]? = some [99, 30, 50, 50, 1, 99999]) {xs : List Int32} (hov0 : ov[0]? = some xs) {Q : Option Value → xe_H → Prop} {h : xe_H} {x4 : Int32} (hi0 : 0 ≤ x4.toInt) (hi1 : x4.toInt + 6 ≤ xs.length) (hi2 : x4.toInt ≤ 3066) (T : xt h) (I : xI h) (kk : ∀ (i : Int32) (h' : xe_H), i.toInt = x4.toInt + 6 → xk xP_29 h h' → xI h' → xw J ov 100 195 (23, [(4, .int i), (3, .ref 167), (2, .ref 115), (1, .ref 0), (0, .ref 1000000)], [], h') Q) : xw J ov 100 195 (192, [(4, .int x4), (3, .ref 167), (2, .ref 115), (1, .ref 0), (0, .ref 1000000)], [], h) Q := by
  have K : xk xP_29 h h := xk_re T
  have KR : xk xP_27 h h := xk_re T
  obtain ⟨w, WWa, WWb, WWr⟩ := I.2.1
  obtain ⟨y1, A1, hy1, ry1⟩ := xk_arr K.1 xD_64
  have R2 : xrp y1 6 w := xra_ld WWa A1
  obtain ⟨st, I6, I5⟩ := I.2.2.1
  refine xi_aload_n (pc' := 193) (x := 0) kc_195_192 rfl rfl ?_
  refine xi_aload_n (pc' := 194) (x := 1000000) kc_195_193 rfl rfl ?_
  refine xi_iload (pc' := 196) (x := x4) kc_195_194 rfl rfl ?_
  refine xi_iconst (pc' := 197) (v := 1) kc_195_196 rfl rfl ?_
  obtain ⟨v3, ev3⟩ : ∃ q : Int32, x4 + 1 = q := ⟨_, rfl⟩
  have zv3 : v3.toInt = (x4.toInt + 1) := by rw [← ev3]; exact (xz_add (X := x4.toInt) (Y := 1) rfl (by decide) (by omega) (by omega)).trans (by omega)
  refine xi_iadd (pc' := 198) (v := v3) kc_195_197 rfl ev3 ?_
  obtain ⟨a4, ea4⟩ : ∃ q : Int32, xs.getD (Int32.toNatClampNeg v3) 0 = q := ⟨_, rfl⟩
  have ra4 := xc_rng a4
  refine xi_ialoadO (pc' := 199) (v := a4) kc_195_198 rfl (by decide) hov0 (xi_in (by omega) (by omega)) ea4 ?_
  refine xi_aload_n (pc' := 200) (x := 1000000) kc_195_199 rfl rfl ?_
  refine xi_iload (pc' := 202) (x := x4) kc_195_200 rfl rfl ?_
  refine xi_iconst (pc' := 203) (v := 2) kc_195_202 rfl rfl ?_
  obtain ⟨v5, ev5⟩ : ∃ q : Int32, x4 + 2 = q := ⟨_, rfl⟩
  have zv5 : v5.toInt = (x4.toInt + 2) := by rw [← ev5]; exact (xz_add (X := x4.toInt) (Y := 2) rfl (by decide) (by omega) (by omega)).trans (by omega)
  refine xi_iadd (pc' := 204) (v := v5) kc_195_203 rfl ev5 ?_
  obtain ⟨a6, ea6⟩ : ∃ q : Int32, xs.getD (Int32.toNatClampNeg v5) 0 = q := ⟨_, rfl⟩
  have ra6 := xc_rng a6
  refine xi_ialoadO (pc' := 205) (v := a6) kc_195_204 rfl (by decide) hov0 (xi_in (by omega) (by omega)) ea6 ?_
  refine xi_aload_n (pc' := 206) (x := 1000000) kc_195_205 rfl rfl ?_
  refine xi_iload (pc' := 208) (x := x4) kc_195_206 rfl rfl ?_
  refine xi_iconst (pc' := 209) (v := 3) kc_195_208 rfl rfl ?_
  obtain ⟨v7, ev7⟩ : ∃ q : Int32, x4 + 3 = q := ⟨_, rfl⟩
  have zv7 : v7.toInt = (x4.toInt + 3) := by rw [← ev7]; exact (xz_add (X := x4.toInt) (Y := 3) rfl (by decide) (by omega) (by omega)).trans (by omega)
  refine xi_iadd (pc' := 210) (v := v7) kc_195_209 rfl ev7 ?_
  obtain ⟨a8, ea8⟩ : ∃ q : Int32, xs.getD (Int32.toNatClampNeg v7) 0 = q := ⟨_, rfl⟩
  have ra8 := xc_rng a8
  refine xi_ialoadO (pc' := 211) (v := a8) kc_195_210 rfl (by decide) hov0 (xi_in (by omega) (by omega)) ea8 ?_
  obtain ⟨u9, u10, bu9, bu10, A11⟩ := xq_0 K.1
  refine xi_virtual (mj := 88) (as := [.int a4, .int a6, .int a8]) (st1 := []) (lv0 := [(0, .ref 0), (1, .int a4), (2, .int a6), (3, .int a8)]) kc_195_211 rfl rfl rfl rfl rfl A11 (Nat.le_of_ble_eq_true rfl) (hJ _ _ _ _ (by decide)) (xm_le ml_88 rfl) rfl ?_
  refine xi_iload_n (pc' := 1) (x := a4) kc_88_0 rfl rfl ?_
  refine xi_static (mj := 89) (as := [.int a4]) (st1 := []) (lv0 := [(0, .int a4)]) kc_88_1 rfl rfl (Nat.le_of_ble_eq_true rfl) rfl rfl (Nat.le_of_ble_eq_true rfl) (hJ _ _ _ _ (by decide)) (xm_le ml_89 rfl) rfl ?_
  refine xi_iload_n (pc' := 1) (x := a4) kc_89_0 rfl rfl ?_
  by_cases c12 : a4.toInt < 0
  · refine xi_ift (pc' := 14) kc_89_1 rfl (xc_lt_t (X := a4.toInt) (Y := 0) rfl (by decide) (by omega)) ?_
    refine xi_iconst (pc' := 15) (v := 0) kc_89_14 rfl rfl ?_
    refine xi_ireturn kc_89_15 mr_89 rfl ?_
    show xw J ov 99 88 (4, [(0, .ref 0), (1, .int a4), (2, .int a6), (3, .int a8)], [.int 0], h) _
    refine xi_iff (pc' := 7) kc_88_4 rfl rfl ?_
    refine xi_aload_n (pc' := 8) (x := 0) kc_88_7 rfl rfl ?_
    refine xi_iconst (pc' := 9) (v := (-1)) kc_88_8 rfl rfl ?_
    refine xi_virtual (mj := 90) (as := [.int (-1)]) (st1 := []) (lv0 := [(0, .ref 0), (1, .int (-1))]) kc_88_9 rfl rfl rfl rfl rfl A11 (Nat.le_of_ble_eq_true rfl) (hJ _ _ _ _ (by decide)) (xm_le ml_90 rfl) rfl ?_
    refine xi_iload_n (pc' := 1) (x := (-1)) kc_90_0 rfl rfl ?_
    refine xi_ineg (pc' := 2) (v := 1) kc_90_1 rfl rfl ?_
    refine xi_istore_n (pc' := 3) (lv' := [(2, .int 1), (0, .ref 0), (1, .int (-1))]) kc_90_2 rfl rfl (xm_lt ml_90 rfl) ?_
    refine xi_iload_n (pc' := 4) (x := 1) kc_90_3 rfl rfl ?_
    refine xi_iff (pc' := 7) kc_90_4 rfl rfl ?_
    refine xi_iload_n (pc' := 8) (x := 1) kc_90_7 rfl rfl ?_
    refine xi_aload_n (pc' := 9) (x := 0) kc_90_8 rfl rfl ?_
    refine xi_getfield (pc' := 12) (v := .ref 94) kc_90_9 rfl rfl rfl A11 rfl ?_
    obtain ⟨y13, A13, hy13, ry13⟩ := xk_arr K.1 xD_94
    refine xi_arraylength (pc' := 13) (n := 7) (v := 7) kc_90_12 rfl (xl_lenI (by decide) (by decide) A13 hy13) rfl ?_
    refine xi_cmf (pc' := 16) kc_90_13 rfl rfl ?_
    refine xi_aload_n (pc' := 17) (x := 0) kc_90_16 rfl rfl ?_
    refine xi_getfield (pc' := 20) (v := .ref 94) kc_90_17 rfl rfl rfl A11 rfl ?_
    refine xi_iload_n (pc' := 21) (x := 1) kc_90_20 rfl rfl ?_
    refine xi_dup2 (pc' := 22) kc_90_21 rfl ⟨rfl, rfl⟩ ?_
    obtain ⟨v14, ev14, bv14, dv14⟩ := xj_get hy13 ry13 (i := 1) (by decide) (by decide)
    refine xi_iaload (pc' := 23) (v := v14) kc_90_22 rfl A13 (by decide) rfl (xi_in (by decide) (by rw [hy13]; decide)) ev14 ?_
    refine xi_iconst (pc' := 24) (v := 1) kc_90_23 rfl rfl ?_
    obtain ⟨v15, ev15⟩ : ∃ q : Int32, (v14 : Int32) + 1 = q := ⟨_, rfl⟩
    have rv15 := xc_rng v15
    refine xi_iadd (pc' := 25) (v := v15) kc_90_24 rfl ev15 ?_
    obtain ⟨y16, s16, hy16, ry16⟩ := xj_set (v := v15) hy13 ry13 1 (by first | omega | decide) (by first | omega | decide)
    refine xi_iastore (pc' := 26) (x' := y16) kc_90_25 rfl A13 rfl (xi_in (by decide) (by rw [hy13]; decide)) s16 (fun hh16 eh16 => ?_)
    have K17 := xk_pa K (xk_wa (by decide +kernel)) xD_94 hy16 ry16 eh16
    have KR18 := xk_pa KR (xk_wa (by decide +kernel)) xD_94 hy16 ry16 eh16
    refine xi_iload_n (pc' := 27) (x := (-1)) kc_90_26 rfl rfl ?_
    refine xi_ireturn kc_90_27 mr_90 rfl ?_
    show xw J ov 99 88 (12, [(0, .ref 0), (1, .int a4), (2, .int a6), (3, .int a8)], [.int (-1)], hh16) _
    refine xi_ireturn kc_88_12 mr_88 rfl ?_
    show xw J ov 100 195 (214, [(4, .int x4), (3, .ref 167), (2, .ref 115), (1, .ref 0), (0, .ref 1000000)], [.int (-1)], hh16) _
    refine xi_pop (pc' := 215) kc_195_214 rfl rfl ?_
    refine xi_aload_n (pc' := 216) (x := 115) kc_195_215 rfl rfl ?_
    refine xi_aload_n (pc' := 217) (x := 1000000) kc_195_216 rfl rfl ?_
    refine xi_iload (pc' := 219) (x := x4) kc_195_217 rfl rfl ?_
    refine xi_iconst (pc' := 220) (v := 1) kc_195_219 rfl rfl ?_
    refine xi_iadd (pc' := 221) (v := v3) kc_195_220 rfl ev3 ?_
    refine xi_ialoadO (pc' := 222) (v := a4) kc_195_221 rfl (by decide) hov0 (xi_in (by omega) (by omega)) ea4 ?_
    refine xi_aload_n (pc' := 223) (x := 1000000) kc_195_222 rfl rfl ?_
    refine xi_iload (pc' := 225) (x := x4) kc_195_223 rfl rfl ?_
    refine xi_iconst (pc' := 226) (v := 2) kc_195_225 rfl rfl ?_
    refine xi_iadd (pc' := 227) (v := v5) kc_195_226 rfl ev5 ?_
    refine xi_ialoadO (pc' := 228) (v := a6) kc_195_227 rfl (by decide) hov0 (xi_in (by omega) (by omega)) ea6 ?_
    refine xi_aload_n (pc' := 229) (x := 1000000) kc_195_228 rfl rfl ?_
    refine xi_iload (pc' := 231) (x := x4) kc_195_229 rfl rfl ?_
    refine xi_iconst (pc' := 232) (v := 3) kc_195_231 rfl rfl ?_
    refine xi_iadd (pc' := 233) (v := v7) kc_195_232 rfl ev7 ?_
    refine xi_ialoadO (pc' := 234) (v := a8) kc_195_233 rfl (by decide) hov0 (xi_in (by omega) (by omega)) ea8 ?_
    obtain ⟨u19, u20, u21, u22, u23, u24, u25, u26, u27, u28, u29, u30, u31, bu19, bu20, bu21, bu22, bu23, bu24, bu25, bu26, bu27, bu28, bu29, bu30, bu31, A32⟩ := xq_115 K.1
    have A33 := ((eh16.2.1 115 (by decide)).trans A32)
    refine xi_virtual (mj := 9) (as := [.int a4, .int a6, .int a8]) (st1 := []) (lv0 := [(0, .ref 115), (1, .int a4), (2, .int a6), (3, .int a8)]) kc_195_234 rfl rfl rfl rfl rfl A33 (Nat.le_of_ble_eq_true rfl) (hJ _ _ _ _ (by decide)) (xm_le ml_9 rfl) rfl ?_
    refine xi_aload_n (pc' := 1) (x := 115) kc_9_0 rfl rfl ?_
    refine xi_iconst (pc' := 2) (v := 0) kc_9_1 rfl rfl ?_
    refine xi_putfield (pc' := 5) (fs' := [.int 0, .int u20, .ref 116, .ref 117, .ref 118, .ref 119, .ref 120, .ref 121, .ref 122, .ref 123, .ref 124, .ref 125, .ref 126, .ref 127, .ref 128, .ref 129, .int u21, .ref 130, .int u22, .ref 131, .ref 132, .ref 133, .ref 134, .int u23, .ref 135, .ref 136, .ref 137, .ref 138, .ref 139, .ref 140, .ref 141, .ref 142, .int u24, .int u25, .int u26, .ref 143, .ref 144, .ref 145, .ref 146, .ref 147, .ref 148, .int u27, .ref 149, .ref 150, .ref 151, .int u28, .ref 152, .ref 153, .ref 154, .ref 155, .ref 156, .ref 157, .ref 158, .ref 159, .int u29, .ref 160, .int u30, .ref 161, .ref 162, .ref 163, .ref 164, .int u31, .ref 165, .ref 166]) kc_9_2 rfl rfl rfl A33 rfl rfl rfl (Nat.le_of_ble_eq_true rfl) rfl (fun hh35 eh34 => ?_)
    have K36 := xk_pf (k := 0) (v := 0) K17 (xk_wf (by decide +kernel)) xD_115 A33 rfl (by first | omega | decide) (by first | omega | decide) eh34 rfl
    have KR37 := xk_pf (k := 0) (v := 0) KR18 (xk_wf (by decide +kernel)) xD_115 A33 rfl (by first | omega | decide) (by first | omega | decide) eh34 rfl
    refine xi_iload_n (pc' := 6) (x := a4) kc_9_5 rfl rfl ?_
    refine xi_static (mj := 10) (as := [.int a4]) (st1 := []) (lv0 := [(0, .int a4)]) kc_9_6 rfl rfl (Nat.le_of_ble_eq_true rfl) rfl rfl (Nat.le_of_ble_eq_true rfl) (hJ _ _ _ _ (by decide)) (xm_le ml_10 rfl) rfl ?_
    refine xi_iload_n (pc' := 1) (x := a4) kc_10_0 rfl rfl ?_
    refine xi_iconst (pc' := 2) (v := 0) kc_10_1 rfl rfl ?_
    refine xi_iconst (pc' := 3) (v := 5) kc_10_2 rfl rfl ?_
    refine xi_static (mj := 11) (as := [.int a4, .int 0, .int 5]) (st1 := []) (lv0 := [(0, .int a4), (1, .int 0), (2, .int 5)]) kc_10_3 rfl rfl (Nat.le_of_ble_eq_true rfl) rfl rfl (Nat.le_of_ble_eq_true rfl) (hJ _ _ _ _ (by decide)) (xm_le ml_11 rfl) rfl ?_
    refine xi_iload_n (pc' := 1) (x := a4) kc_11_0 rfl rfl ?_
    refine xi_iload_n (pc' := 2) (x := 0) kc_11_1 rfl rfl ?_
    refine xi_cmt (pc' := 14) kc_11_2 rfl (xc_lt_t (X := a4.toInt) (Y := 0) rfl (by decide) (by omega)) ?_
    refine xi_iconst (pc' := 15) (v := 0) kc_11_14 rfl rfl ?_
    refine xi_ireturn kc_11_15 mr_11 rfl ?_
    show xw J ov 98 10 (6, [(0, .int a4)], [.int 0], hh35) _
    refine xi_ireturn kc_10_6 mr_10 rfl ?_
    show xw J ov 99 9 (9, [(0, .ref 115), (1, .int a4), (2, .int a6), (3, .int a8)], [.int 0], hh35) _
    refine xi_iff (pc' := 12) kc_9_9 rfl rfl ?_
    refine xi_aload_n (pc' := 13) (x := 115) kc_9_12 rfl rfl ?_
    refine xi_iconst (pc' := 14) (v := (-1)) kc_9_13 rfl rfl ?_
    refine xi_virtual (mj := 12) (as := [.int (-1)]) (st1 := []) (lv0 := [(0, .ref 115), (1, .int (-1))]) kc_9_14 rfl rfl rfl rfl rfl eh34.1 (Nat.le_of_ble_eq_true rfl) (hJ _ _ _ _ (by decide)) (xm_le ml_12 rfl) rfl ?_
    refine xi_aload_n (pc' := 1) (x := 115) kc_12_0 rfl rfl ?_
    refine xi_getfield (pc' := 4) (v := .ref 140) kc_12_1 rfl rfl rfl eh34.1 rfl ?_
    refine xi_iload_n (pc' := 5) (x := (-1)) kc_12_4 rfl rfl ?_
    refine xi_ineg (pc' := 6) (v := 1) kc_12_5 rfl rfl ?_
    refine xi_dup2 (pc' := 7) kc_12_6 rfl ⟨rfl, rfl⟩ ?_
    obtain ⟨y38, A38, hy38, ry38⟩ := xk_arr K.1 xD_140
    obtain ⟨v39, ev39, bv39, dv39⟩ := xj_get hy38 ry38 (i := 1) (by decide) (by decide)
    have A40 := ((eh34.2.1 140 (by decide)).trans ((eh16.2.1 140 (by decide)).trans A38))
    refine xi_iaload (pc' := 8) (v := v39) kc_12_7 rfl A40 (by decide) rfl (xi_in (by decide) (by rw [hy38]; decide)) ev39 ?_
    refine xi_iconst (pc' := 9) (v := 1) kc_12_8 rfl rfl ?_
    obtain ⟨v41, ev41⟩ : ∃ q : Int32, (v39 : Int32) + 1 = q := ⟨_, rfl⟩
    have rv41 := xc_rng v41
    refine xi_iadd (pc' := 10) (v := v41) kc_12_9 rfl ev41 ?_
    obtain ⟨y42, s42, hy42, ry42⟩ := xj_set (v := v41) hy38 ry38 1 (by first | omega | decide) (by first | omega | decide)
    refine xi_iastore (pc' := 11) (x' := y42) kc_12_10 rfl A40 rfl (xi_in (by decide) (by rw [hy38]; decide)) s42 (fun hh42 eh42 => ?_)
    have K43 := xk_pa K36 (xk_wa (by decide +kernel)) xD_140 hy42 ry42 eh42
    have KR44 := xk_pa KR37 (xk_wa (by decide +kernel)) xD_140 hy42 ry42 eh42
    refine xi_iload_n (pc' := 12) (x := (-1)) kc_12_11 rfl rfl ?_
    refine xi_ireturn kc_12_12 mr_12 rfl ?_
    show xw J ov 99 9 (17, [(0, .ref 115), (1, .int a4), (2, .int a6), (3, .int a8)], [.int (-1)], hh42) _
    refine xi_ireturn kc_9_17 mr_9 rfl ?_
    show xw J ov 100 195 (237, [(4, .int x4), (3, .ref 167), (2, .ref 115), (1, .ref 0), (0, .ref 1000000)], [.int (-1)], hh42) _
    refine xi_pop (pc' := 238) kc_195_237 rfl rfl ?_
    refine xi_goto (pc' := 1501) kc_195_238 rfl ?_
    obtain ⟨v45, ev45⟩ : ∃ q : Int32, x4 + 6 = q := ⟨_, rfl⟩
    have zv45 : v45.toInt = (x4.toInt + 6) := by rw [← ev45]; exact (xz_add (X := x4.toInt) (Y := 6) rfl (by decide) (by omega) (by omega)).trans (by omega)
    refine xi_iinc (pc' := 1504) (x := x4) (v := v45) (lv' := [(4, .int v45), (3, .ref 167), (2, .ref 115), (1, .ref 0), (0, .ref 1000000)]) kc_195_1501 rfl rfl ev45 rfl (xm_lt ml_195 rfl) ?_
    refine xi_goto (pc' := 23) kc_195_1504 rfl ?_
    exact kk v45 hh42 (by omega) K43 (xI_kept I KR44.2.1)
  · refine xi_iff (pc' := 4) kc_89_1 rfl (xc_lt_f (X := a4.toInt) (Y := 0) rfl (by decide) (by omega)) ?_
    refine xi_iload_n (pc' := 5) (x := a4) kc_89_4 rfl rfl ?_
    refine xi_bipush (pc' := 7) (v := 6) kc_89_5 rfl rfl ?_
    by_cases c46 : 6 ≤ a4.toInt
    · refine xi_cmt (pc' := 14) kc_89_7 rfl (xc_ge_t (X := a4.toInt) (Y := 6) rfl (by decide) (by omega)) ?_
      refine xi_iconst (pc' := 15) (v := 0) kc_89_14 rfl rfl ?_
      refine xi_ireturn kc_89_15 mr_89 rfl ?_
      show xw J ov 99 88 (4, [(0, .ref 0), (1, .int a4), (2, .int a6), (3, .int a8)], [.int 0], h) _
      refine xi_iff (pc' := 7) kc_88_4 rfl rfl ?_
      refine xi_aload_n (pc' := 8) (x := 0) kc_88_7 rfl rfl ?_
      refine xi_iconst (pc' := 9) (v := (-1)) kc_88_8 rfl rfl ?_
      refine xi_virtual (mj := 90) (as := [.int (-1)]) (st1 := []) (lv0 := [(0, .ref 0), (1, .int (-1))]) kc_88_9 rfl rfl rfl rfl rfl A11 (Nat.le_of_ble_eq_true rfl) (hJ _ _ _ _ (by decide)) (xm_le ml_90 rfl) rfl ?_
      refine xi_iload_n (pc' := 1) (x := (-1)) kc_90_0 rfl rfl ?_
      refine xi_ineg (pc' := 2) (v := 1) kc_90_1 rfl rfl ?_
      refine xi_istore_n (pc' := 3) (lv' := [(2, .int 1), (0, .ref 0), (1, .int (-1))]) kc_90_2 rfl rfl (xm_lt ml_90 rfl) ?_
      refine xi_iload_n (pc' := 4) (x := 1) kc_90_3 rfl rfl ?_
      refine xi_iff (pc' := 7) kc_90_4 rfl rfl ?_
      refine xi_iload_n (pc' := 8) (x := 1) kc_90_7 rfl rfl ?_
      refine xi_aload_n (pc' := 9) (x := 0) kc_90_8 rfl rfl ?_
      refine xi_getfield (pc' := 12) (v := .ref 94) kc_90_9 rfl rfl rfl A11 rfl ?_
      obtain ⟨y47, A47, hy47, ry47⟩ := xk_arr K.1 xD_94
      refine xi_arraylength (pc' := 13) (n := 7) (v := 7) kc_90_12 rfl (xl_lenI (by decide) (by decide) A47 hy47) rfl ?_
      refine xi_cmf (pc' := 16) kc_90_13 rfl rfl ?_
      refine xi_aload_n (pc' := 17) (x := 0) kc_90_16 rfl rfl ?_
      refine xi_getfield (pc' := 20) (v := .ref 94) kc_90_17 rfl rfl rfl A11 rfl ?_
      refine xi_iload_n (pc' := 21) (x := 1) kc_90_20 rfl rfl ?_
      refine xi_dup2 (pc' := 22) kc_90_21 rfl ⟨rfl, rfl⟩ ?_
      obtain ⟨v48, ev48, bv48, dv48⟩ := xj_get hy47 ry47 (i := 1) (by decide) (by decide)
      refine xi_iaload (pc' := 23) (v := v48) kc_90_22 rfl A47 (by decide) rfl (xi_in (by decide) (by rw [hy47]; decide)) ev48 ?_
      refine xi_iconst (pc' := 24) (v := 1) kc_90_23 rfl rfl ?_
      obtain ⟨v49, ev49⟩ : ∃ q : Int32, (v48 : Int32) + 1 = q := ⟨_, rfl⟩
      have rv49 := xc_rng v49
      refine xi_iadd (pc' := 25) (v := v49) kc_90_24 rfl ev49 ?_
      obtain ⟨y50, s50, hy50, ry50⟩ := xj_set (v := v49) hy47 ry47 1 (by first | omega | decide) (by first | omega | decide)
      refine xi_iastore (pc' := 26) (x' := y50) kc_90_25 rfl A47 rfl (xi_in (by decide) (by rw [hy47]; decide)) s50 (fun hh50 eh50 => ?_)
      have K51 := xk_pa K (xk_wa (by decide +kernel)) xD_94 hy50 ry50 eh50
      have KR52 := xk_pa KR (xk_wa (by decide +kernel)) xD_94 hy50 ry50 eh50
      refine xi_iload_n (pc' := 27) (x := (-1)) kc_90_26 rfl rfl ?_
      refine xi_ireturn kc_90_27 mr_90 rfl ?_
      show xw J ov 99 88 (12, [(0, .ref 0), (1, .int a4), (2, .int a6), (3, .int a8)], [.int (-1)], hh50) _
      refine xi_ireturn kc_88_12 mr_88 rfl ?_
      show xw J ov 100 195 (214, [(4, .int x4), (3, .ref 167), (2, .ref 115), (1, .ref 0), (0, .ref 1000000)], [.int (-1)], hh50) _
      refine xi_pop (pc' := 215) kc_195_214 rfl rfl ?_
      refine xi_aload_n (pc' := 216) (x := 115) kc_195_215 rfl rfl ?_
      refine xi_aload_n (pc' := 217) (x := 1000000) kc_195_216 rfl rfl ?_
      refine xi_iload (pc' := 219) (x := x4) kc_195_217 rfl rfl ?_
      refine xi_iconst (pc' := 220) (v := 1) kc_195_219 rfl rfl ?_
      refine xi_iadd (pc' := 221) (v := v3) kc_195_220 rfl ev3 ?_
      refine xi_ialoadO (pc' := 222) (v := a4) kc_195_221 rfl (by decide) hov0 (xi_in (by omega) (by omega)) ea4 ?_
      refine xi_aload_n (pc' := 223) (x := 1000000) kc_195_222 rfl rfl ?_
      refine xi_iload (pc' := 225) (x := x4) kc_195_223 rfl rfl ?_
      refine xi_iconst (pc' := 226) (v := 2) kc_195_225 rfl rfl ?_
      refine xi_iadd (pc' := 227) (v := v5) kc_195_226 rfl ev5 ?_
      refine xi_ialoadO (pc' := 228) (v := a6) kc_195_227 rfl (by decide) hov0 (xi_in (by omega) (by omega)) ea6 ?_
      refine xi_aload_n (pc' := 229) (x := 1000000) kc_195_228 rfl rfl ?_
      refine xi_iload (pc' := 231) (x := x4) kc_195_229 rfl rfl ?_
      refine xi_iconst (pc' := 232) (v := 3) kc_195_231 rfl rfl ?_
      refine xi_iadd (pc' := 233) (v := v7) kc_195_232 rfl ev7 ?_
      refine xi_ialoadO (pc' := 234) (v := a8) kc_195_233 rfl (by decide) hov0 (xi_in (by omega) (by omega)) ea8 ?_
      obtain ⟨u53, u54, u55, u56, u57, u58, u59, u60, u61, u62, u63, u64, u65, bu53, bu54, bu55, bu56, bu57, bu58, bu59, bu60, bu61, bu62, bu63, bu64, bu65, A66⟩ := xq_115 K.1
      have A67 := ((eh50.2.1 115 (by decide)).trans A66)
      refine xi_virtual (mj := 9) (as := [.int a4, .int a6, .int a8]) (st1 := []) (lv0 := [(0, .ref 115), (1, .int a4), (2, .int a6), (3, .int a8)]) kc_195_234 rfl rfl rfl rfl rfl A67 (Nat.le_of_ble_eq_true rfl) (hJ _ _ _ _ (by decide)) (xm_le ml_9 rfl) rfl ?_
      refine xi_aload_n (pc' := 1) (x := 115) kc_9_0 rfl rfl ?_
      refine xi_iconst (pc' := 2) (v := 0) kc_9_1 rfl rfl ?_
      refine xi_putfield (pc' := 5) (fs' := [.int 0, .int u54, .ref 116, .ref 117, .ref 118, .ref 119, .ref 120, .ref 121, .ref 122, .ref 123, .ref 124, .ref 125, .ref 126, .ref 127, .ref 128, .ref 129, .int u55, .ref 130, .int u56, .ref 131, .ref 132, .ref 133, .ref 134, .int u57, .ref 135, .ref 136, .ref 137, .ref 138, .ref 139, .ref 140, .ref 141, .ref 142, .int u58, .int u59, .int u60, .ref 143, .ref 144, .ref 145, .ref 146, .ref 147, .ref 148, .int u61, .ref 149, .ref 150, .ref 151, .int u62, .ref 152, .ref 153, .ref 154, .ref 155, .ref 156, .ref 157, .ref 158, .ref 159, .int u63, .ref 160, .int u64, .ref 161, .ref 162, .ref 163, .ref 164, .int u65, .ref 165, .ref 166]) kc_9_2 rfl rfl rfl A67 rfl rfl rfl (Nat.le_of_ble_eq_true rfl) rfl (fun hh69 eh68 => ?_)
      have K70 := xk_pf (k := 0) (v := 0) K51 (xk_wf (by decide +kernel)) xD_115 A67 rfl (by first | omega | decide) (by first | omega | decide) eh68 rfl
      have KR71 := xk_pf (k := 0) (v := 0) KR52 (xk_wf (by decide +kernel)) xD_115 A67 rfl (by first | omega | decide) (by first | omega | decide) eh68 rfl
      refine xi_iload_n (pc' := 6) (x := a4) kc_9_5 rfl rfl ?_
      refine xi_static (mj := 10) (as := [.int a4]) (st1 := []) (lv0 := [(0, .int a4)]) kc_9_6 rfl rfl (Nat.le_of_ble_eq_true rfl) rfl rfl (Nat.le_of_ble_eq_true rfl) (hJ _ _ _ _ (by decide)) (xm_le ml_10 rfl) rfl ?_
      refine xi_iload_n (pc' := 1) (x := a4) kc_10_0 rfl rfl ?_
      refine xi_iconst (pc' := 2) (v := 0) kc_10_1 rfl rfl ?_
      refine xi_iconst (pc' := 3) (v := 5) kc_10_2 rfl rfl ?_
      refine xi_static (mj := 11) (as := [.int a4, .int 0, .int 5]) (st1 := []) (lv0 := [(0, .int a4), (1, .int 0), (2, .int 5)]) kc_10_3 rfl rfl (Nat.le_of_ble_eq_true rfl) rfl rfl (Nat.le_of_ble_eq_true rfl) (hJ _ _ _ _ (by decide)) (xm_le ml_11 rfl) rfl ?_
      refine xi_iload_n (pc' := 1) (x := a4) kc_11_0 rfl rfl ?_
      refine xi_iload_n (pc' := 2) (x := 0) kc_11_1 rfl rfl ?_
      refine xi_cmf (pc' := 5) kc_11_2 rfl (xc_lt_f (X := a4.toInt) (Y := 0) rfl (by decide) (by omega)) ?_
      refine xi_iload_n (pc' := 6) (x := a4) kc_11_5 rfl rfl ?_
      refine xi_iload_n (pc' := 7) (x := 5) kc_11_6 rfl rfl ?_
      refine xi_cmt (pc' := 14) kc_11_7 rfl (xc_gt_t (X := a4.toInt) (Y := 5) rfl (by decide) (by omega)) ?_
      refine xi_iconst (pc' := 15) (v := 0) kc_11_14 rfl rfl ?_
      refine xi_ireturn kc_11_15 mr_11 rfl ?_
      show xw J ov 98 10 (6, [(0, .int a4)], [.int 0], hh69) _
      refine xi_ireturn kc_10_6 mr_10 rfl ?_
      show xw J ov 99 9 (9, [(0, .ref 115), (1, .int a4), (2, .int a6), (3, .int a8)], [.int 0], hh69) _
      refine xi_iff (pc' := 12) kc_9_9 rfl rfl ?_
      refine xi_aload_n (pc' := 13) (x := 115) kc_9_12 rfl rfl ?_
      refine xi_iconst (pc' := 14) (v := (-1)) kc_9_13 rfl rfl ?_
      refine xi_virtual (mj := 12) (as := [.int (-1)]) (st1 := []) (lv0 := [(0, .ref 115), (1, .int (-1))]) kc_9_14 rfl rfl rfl rfl rfl eh68.1 (Nat.le_of_ble_eq_true rfl) (hJ _ _ _ _ (by decide)) (xm_le ml_12 rfl) rfl ?_
      refine xi_aload_n (pc' := 1) (x := 115) kc_12_0 rfl rfl ?_
      refine xi_getfield (pc' := 4) (v := .ref 140) kc_12_1 rfl rfl rfl eh68.1 rfl ?_
      refine xi_iload_n (pc' := 5) (x := (-1)) kc_12_4 rfl rfl ?_
      refine xi_ineg (pc' := 6) (v := 1) kc_12_5 rfl rfl ?_
      refine xi_dup2 (pc' := 7) kc_12_6 rfl ⟨rfl, rfl⟩ ?_
      obtain ⟨y72, A72, hy72, ry72⟩ := xk_arr K.1 xD_140
      obtain ⟨v73, ev73, bv73, dv73⟩ := xj_get hy72 ry72 (i := 1) (by decide) (by decide)
      have A74 := ((eh68.2.1 140 (by decide)).trans ((eh50.2.1 140 (by decide)).trans A72))
      refine xi_iaload (pc' := 8) (v := v73) kc_12_7 rfl A74 (by decide) rfl (xi_in (by decide) (by rw [hy72]; decide)) ev73 ?_
      refine xi_iconst (pc' := 9) (v := 1) kc_12_8 rfl rfl ?_
      obtain ⟨v75, ev75⟩ : ∃ q : Int32, (v73 : Int32) + 1 = q := ⟨_, rfl⟩
      have rv75 := xc_rng v75
      refine xi_iadd (pc' := 10) (v := v75) kc_12_9 rfl ev75 ?_
      obtain ⟨y76, s76, hy76, ry76⟩ := xj_set (v := v75) hy72 ry72 1 (by first | omega | decide) (by first | omega | decide)
      refine xi_iastore (pc' := 11) (x' := y76) kc_12_10 rfl A74 rfl (xi_in (by decide) (by rw [hy72]; decide)) s76 (fun hh76 eh76 => ?_)
      have K77 := xk_pa K70 (xk_wa (by decide +kernel)) xD_140 hy76 ry76 eh76
      have KR78 := xk_pa KR71 (xk_wa (by decide +kernel)) xD_140 hy76 ry76 eh76
      refine xi_iload_n (pc' := 12) (x := (-1)) kc_12_11 rfl rfl ?_
      refine xi_ireturn kc_12_12 mr_12 rfl ?_
      show xw J ov 99 9 (17, [(0, .ref 115), (1, .int a4), (2, .int a6), (3, .int a8)], [.int (-1)], hh76) _
      refine xi_ireturn kc_9_17 mr_9 rfl ?_
      show xw J ov 100 195 (237, [(4, .int x4), (3, .ref 167), (2, .ref 115), (1, .ref 0), (0, .ref 1000000)], [.int (-1)], hh76) _
      refine xi_pop (pc' := 238) kc_195_237 rfl rfl ?_
      refine xi_goto (pc' := 1501) kc_195_238 rfl ?_
      obtain ⟨v79, ev79⟩ : ∃ q : Int32, x4 + 6 = q := ⟨_, rfl⟩
      have zv79 : v79.toInt = (x4.toInt + 6) := by rw [← ev79]; exact (xz_add (X := x4.toInt) (Y := 6) rfl (by decide) (by omega) (by omega)).trans (by omega)
      refine xi_iinc (pc' := 1504) (x := x4) (v := v79) (lv' := [(4, .int v79), (3, .ref 167), (2, .ref 115), (1, .ref 0), (0, .ref 1000000)]) kc_195_1501 rfl rfl ev79 rfl (xm_lt ml_195 rfl) ?_
      refine xi_goto (pc' := 23) kc_195_1504 rfl ?_
      exact kk v79 hh76 (by omega) K77 (xI_kept I KR78.2.1)
    · refine xi_cmf (pc' := 10) kc_89_7 rfl (xc_ge_f (X := a4.toInt) (Y := 6) rfl (by decide) (by omega)) ?_
      refine xi_iconst (pc' := 11) (v := 1) kc_89_10 rfl rfl ?_
      refine xi_goto (pc' := 15) kc_89_11 rfl ?_
      refine xi_ireturn kc_89_15 mr_89 rfl ?_
      show xw J ov 99 88 (4, [(0, .ref 0), (1, .int a4), (2, .int a6), (3, .int a8)], [.int 1], h) _
      refine xi_ift (pc' := 13) kc_88_4 rfl rfl ?_
      refine xi_iload_n (pc' := 14) (x := a6) kc_88_13 rfl rfl ?_
      by_cases c80 : a6.toInt < 0
      · refine xi_ift (pc' := 22) kc_88_14 rfl (xc_lt_t (X := a6.toInt) (Y := 0) rfl (by decide) (by omega)) ?_
        refine xi_aload_n (pc' := 23) (x := 0) kc_88_22 rfl rfl ?_
        refine xi_bipush (pc' := 25) (v := (-2)) kc_88_23 rfl rfl ?_
        refine xi_virtual (mj := 90) (as := [.int (-2)]) (st1 := []) (lv0 := [(0, .ref 0), (1, .int (-2))]) kc_88_25 rfl rfl rfl rfl rfl A11 (Nat.le_of_ble_eq_true rfl) (hJ _ _ _ _ (by decide)) (xm_le ml_90 rfl) rfl ?_
        refine xi_iload_n (pc' := 1) (x := (-2)) kc_90_0 rfl rfl ?_
        refine xi_ineg (pc' := 2) (v := 2) kc_90_1 rfl rfl ?_
        refine xi_istore_n (pc' := 3) (lv' := [(2, .int 2), (0, .ref 0), (1, .int (-2))]) kc_90_2 rfl rfl (xm_lt ml_90 rfl) ?_
        refine xi_iload_n (pc' := 4) (x := 2) kc_90_3 rfl rfl ?_
        refine xi_iff (pc' := 7) kc_90_4 rfl rfl ?_
        refine xi_iload_n (pc' := 8) (x := 2) kc_90_7 rfl rfl ?_
        refine xi_aload_n (pc' := 9) (x := 0) kc_90_8 rfl rfl ?_
        refine xi_getfield (pc' := 12) (v := .ref 94) kc_90_9 rfl rfl rfl A11 rfl ?_
        obtain ⟨y81, A81, hy81, ry81⟩ := xk_arr K.1 xD_94
        refine xi_arraylength (pc' := 13) (n := 7) (v := 7) kc_90_12 rfl (xl_lenI (by decide) (by decide) A81 hy81) rfl ?_
        refine xi_cmf (pc' := 16) kc_90_13 rfl rfl ?_
        refine xi_aload_n (pc' := 17) (x := 0) kc_90_16 rfl rfl ?_
        refine xi_getfield (pc' := 20) (v := .ref 94) kc_90_17 rfl rfl rfl A11 rfl ?_
        refine xi_iload_n (pc' := 21) (x := 2) kc_90_20 rfl rfl ?_
        refine xi_dup2 (pc' := 22) kc_90_21 rfl ⟨rfl, rfl⟩ ?_
        obtain ⟨v82, ev82, bv82, dv82⟩ := xj_get hy81 ry81 (i := 2) (by decide) (by decide)
        refine xi_iaload (pc' := 23) (v := v82) kc_90_22 rfl A81 (by decide) rfl (xi_in (by decide) (by rw [hy81]; decide)) ev82 ?_
        refine xi_iconst (pc' := 24) (v := 1) kc_90_23 rfl rfl ?_
        obtain ⟨v83, ev83⟩ : ∃ q : Int32, (v82 : Int32) + 1 = q := ⟨_, rfl⟩
        have rv83 := xc_rng v83
        refine xi_iadd (pc' := 25) (v := v83) kc_90_24 rfl ev83 ?_
        obtain ⟨y84, s84, hy84, ry84⟩ := xj_set (v := v83) hy81 ry81 2 (by first | omega | decide) (by first | omega | decide)
        refine xi_iastore (pc' := 26) (x' := y84) kc_90_25 rfl A81 rfl (xi_in (by decide) (by rw [hy81]; decide)) s84 (fun hh84 eh84 => ?_)
        have K85 := xk_pa K (xk_wa (by decide +kernel)) xD_94 hy84 ry84 eh84
        have KR86 := xk_pa KR (xk_wa (by decide +kernel)) xD_94 hy84 ry84 eh84
        refine xi_iload_n (pc' := 27) (x := (-2)) kc_90_26 rfl rfl ?_
        refine xi_ireturn kc_90_27 mr_90 rfl ?_
        show xw J ov 99 88 (28, [(0, .ref 0), (1, .int a4), (2, .int a6), (3, .int a8)], [.int (-2)], hh84) _
        refine xi_ireturn kc_88_28 mr_88 rfl ?_
        show xw J ov 100 195 (214, [(4, .int x4), (3, .ref 167), (2, .ref 115), (1, .ref 0), (0, .ref 1000000)], [.int (-2)], hh84) _
        refine xi_pop (pc' := 215) kc_195_214 rfl rfl ?_
        refine xi_aload_n (pc' := 216) (x := 115) kc_195_215 rfl rfl ?_
        refine xi_aload_n (pc' := 217) (x := 1000000) kc_195_216 rfl rfl ?_
        refine xi_iload (pc' := 219) (x := x4) kc_195_217 rfl rfl ?_
        refine xi_iconst (pc' := 220) (v := 1) kc_195_219 rfl rfl ?_
        refine xi_iadd (pc' := 221) (v := v3) kc_195_220 rfl ev3 ?_
        refine xi_ialoadO (pc' := 222) (v := a4) kc_195_221 rfl (by decide) hov0 (xi_in (by omega) (by omega)) ea4 ?_
        refine xi_aload_n (pc' := 223) (x := 1000000) kc_195_222 rfl rfl ?_
        refine xi_iload (pc' := 225) (x := x4) kc_195_223 rfl rfl ?_
        refine xi_iconst (pc' := 226) (v := 2) kc_195_225 rfl rfl ?_
        refine xi_iadd (pc' := 227) (v := v5) kc_195_226 rfl ev5 ?_
        refine xi_ialoadO (pc' := 228) (v := a6) kc_195_227 rfl (by decide) hov0 (xi_in (by omega) (by omega)) ea6 ?_
        refine xi_aload_n (pc' := 229) (x := 1000000) kc_195_228 rfl rfl ?_
        refine xi_iload (pc' := 231) (x := x4) kc_195_229 rfl rfl ?_
        refine xi_iconst (pc' := 232) (v := 3) kc_195_231 rfl rfl ?_
        refine xi_iadd (pc' := 233) (v := v7) kc_195_232 rfl ev7 ?_
        refine xi_ialoadO (pc' := 234) (v := a8) kc_195_233 rfl (by decide) hov0 (xi_in (by omega) (by omega)) ea8 ?_
        obtain ⟨u87, u88, u89, u90, u91, u92, u93, u94, u95, u96, u97, u98, u99, bu87, bu88, bu89, bu90, bu91, bu92, bu93, bu94, bu95, bu96, bu97, bu98, bu99, A100⟩ := xq_115 K.1
        have A101 := ((eh84.2.1 115 (by decide)).trans A100)
        refine xi_virtual (mj := 9) (as := [.int a4, .int a6, .int a8]) (st1 := []) (lv0 := [(0, .ref 115), (1, .int a4), (2, .int a6), (3, .int a8)]) kc_195_234 rfl rfl rfl rfl rfl A101 (Nat.le_of_ble_eq_true rfl) (hJ _ _ _ _ (by decide)) (xm_le ml_9 rfl) rfl ?_
        refine xi_aload_n (pc' := 1) (x := 115) kc_9_0 rfl rfl ?_
        refine xi_iconst (pc' := 2) (v := 0) kc_9_1 rfl rfl ?_
        refine xi_putfield (pc' := 5) (fs' := [.int 0, .int u88, .ref 116, .ref 117, .ref 118, .ref 119, .ref 120, .ref 121, .ref 122, .ref 123, .ref 124, .ref 125, .ref 126, .ref 127, .ref 128, .ref 129, .int u89, .ref 130, .int u90, .ref 131, .ref 132, .ref 133, .ref 134, .int u91, .ref 135, .ref 136, .ref 137, .ref 138, .ref 139, .ref 140, .ref 141, .ref 142, .int u92, .int u93, .int u94, .ref 143, .ref 144, .ref 145, .ref 146, .ref 147, .ref 148, .int u95, .ref 149, .ref 150, .ref 151, .int u96, .ref 152, .ref 153, .ref 154, .ref 155, .ref 156, .ref 157, .ref 158, .ref 159, .int u97, .ref 160, .int u98, .ref 161, .ref 162, .ref 163, .ref 164, .int u99, .ref 165, .ref 166]) kc_9_2 rfl rfl rfl A101 rfl rfl rfl (Nat.le_of_ble_eq_true rfl) rfl (fun hh103 eh102 => ?_)
        have K104 := xk_pf (k := 0) (v := 0) K85 (xk_wf (by decide +kernel)) xD_115 A101 rfl (by first | omega | decide) (by first | omega | decide) eh102 rfl
        have KR105 := xk_pf (k := 0) (v := 0) KR86 (xk_wf (by decide +kernel)) xD_115 A101 rfl (by first | omega | decide) (by first | omega | decide) eh102 rfl
        refine xi_iload_n (pc' := 6) (x := a4) kc_9_5 rfl rfl ?_
        refine xi_static (mj := 10) (as := [.int a4]) (st1 := []) (lv0 := [(0, .int a4)]) kc_9_6 rfl rfl (Nat.le_of_ble_eq_true rfl) rfl rfl (Nat.le_of_ble_eq_true rfl) (hJ _ _ _ _ (by decide)) (xm_le ml_10 rfl) rfl ?_
        refine xi_iload_n (pc' := 1) (x := a4) kc_10_0 rfl rfl ?_
        refine xi_iconst (pc' := 2) (v := 0) kc_10_1 rfl rfl ?_
        refine xi_iconst (pc' := 3) (v := 5) kc_10_2 rfl rfl ?_
        refine xi_static (mj := 11) (as := [.int a4, .int 0, .int 5]) (st1 := []) (lv0 := [(0, .int a4), (1, .int 0), (2, .int 5)]) kc_10_3 rfl rfl (Nat.le_of_ble_eq_true rfl) rfl rfl (Nat.le_of_ble_eq_true rfl) (hJ _ _ _ _ (by decide)) (xm_le ml_11 rfl) rfl ?_
        refine xi_iload_n (pc' := 1) (x := a4) kc_11_0 rfl rfl ?_
        refine xi_iload_n (pc' := 2) (x := 0) kc_11_1 rfl rfl ?_
        refine xi_cmf (pc' := 5) kc_11_2 rfl (xc_lt_f (X := a4.toInt) (Y := 0) rfl (by decide) (by omega)) ?_
        refine xi_iload_n (pc' := 6) (x := a4) kc_11_5 rfl rfl ?_
        refine xi_iload_n (pc' := 7) (x := 5) kc_11_6 rfl rfl ?_
        refine xi_cmf (pc' := 10) kc_11_7 rfl (xc_gt_f (X := a4.toInt) (Y := 5) rfl (by decide) (by omega)) ?_
        refine xi_iconst (pc' := 11) (v := 1) kc_11_10 rfl rfl ?_
        refine xi_goto (pc' := 15) kc_11_11 rfl ?_
        refine xi_ireturn kc_11_15 mr_11 rfl ?_
        show xw J ov 98 10 (6, [(0, .int a4)], [.int 1], hh103) _
        refine xi_ireturn kc_10_6 mr_10 rfl ?_
        show xw J ov 99 9 (9, [(0, .ref 115), (1, .int a4), (2, .int a6), (3, .int a8)], [.int 1], hh103) _
        refine xi_ift (pc' := 18) kc_9_9 rfl rfl ?_
        refine xi_iload_n (pc' := 19) (x := a6) kc_9_18 rfl rfl ?_
        refine xi_iconst (pc' := 20) (v := 0) kc_9_19 rfl rfl ?_
        refine xi_iconst (pc' := 21) (v := 5) kc_9_20 rfl rfl ?_
        refine xi_static (mj := 11) (as := [.int a6, .int 0, .int 5]) (st1 := []) (lv0 := [(0, .int a6), (1, .int 0), (2, .int 5)]) kc_9_21 rfl rfl (Nat.le_of_ble_eq_true rfl) rfl rfl (Nat.le_of_ble_eq_true rfl) (hJ _ _ _ _ (by decide)) (xm_le ml_11 rfl) rfl ?_
        refine xi_iload_n (pc' := 1) (x := a6) kc_11_0 rfl rfl ?_
        refine xi_iload_n (pc' := 2) (x := 0) kc_11_1 rfl rfl ?_
        refine xi_cmt (pc' := 14) kc_11_2 rfl (xc_lt_t (X := a6.toInt) (Y := 0) rfl (by decide) (by omega)) ?_
        refine xi_iconst (pc' := 15) (v := 0) kc_11_14 rfl rfl ?_
        refine xi_ireturn kc_11_15 mr_11 rfl ?_
        show xw J ov 99 9 (24, [(0, .ref 115), (1, .int a4), (2, .int a6), (3, .int a8)], [.int 0], hh103) _
        refine xi_iff (pc' := 27) kc_9_24 rfl rfl ?_
        refine xi_aload_n (pc' := 28) (x := 115) kc_9_27 rfl rfl ?_
        refine xi_bipush (pc' := 30) (v := (-2)) kc_9_28 rfl rfl ?_
        refine xi_virtual (mj := 12) (as := [.int (-2)]) (st1 := []) (lv0 := [(0, .ref 115), (1, .int (-2))]) kc_9_30 rfl rfl rfl rfl rfl eh102.1 (Nat.le_of_ble_eq_true rfl) (hJ _ _ _ _ (by decide)) (xm_le ml_12 rfl) rfl ?_
        refine xi_aload_n (pc' := 1) (x := 115) kc_12_0 rfl rfl ?_
        refine xi_getfield (pc' := 4) (v := .ref 140) kc_12_1 rfl rfl rfl eh102.1 rfl ?_
        refine xi_iload_n (pc' := 5) (x := (-2)) kc_12_4 rfl rfl ?_
        refine xi_ineg (pc' := 6) (v := 2) kc_12_5 rfl rfl ?_
        refine xi_dup2 (pc' := 7) kc_12_6 rfl ⟨rfl, rfl⟩ ?_
        obtain ⟨y106, A106, hy106, ry106⟩ := xk_arr K.1 xD_140
        obtain ⟨v107, ev107, bv107, dv107⟩ := xj_get hy106 ry106 (i := 2) (by decide) (by decide)
        have A108 := ((eh102.2.1 140 (by decide)).trans ((eh84.2.1 140 (by decide)).trans A106))
        refine xi_iaload (pc' := 8) (v := v107) kc_12_7 rfl A108 (by decide) rfl (xi_in (by decide) (by rw [hy106]; decide)) ev107 ?_
        refine xi_iconst (pc' := 9) (v := 1) kc_12_8 rfl rfl ?_
        obtain ⟨v109, ev109⟩ : ∃ q : Int32, (v107 : Int32) + 1 = q := ⟨_, rfl⟩
        have rv109 := xc_rng v109
        refine xi_iadd (pc' := 10) (v := v109) kc_12_9 rfl ev109 ?_
        obtain ⟨y110, s110, hy110, ry110⟩ := xj_set (v := v109) hy106 ry106 2 (by first | omega | decide) (by first | omega | decide)
        refine xi_iastore (pc' := 11) (x' := y110) kc_12_10 rfl A108 rfl (xi_in (by decide) (by rw [hy106]; decide)) s110 (fun hh110 eh110 => ?_)
        have K111 := xk_pa K104 (xk_wa (by decide +kernel)) xD_140 hy110 ry110 eh110
        have KR112 := xk_pa KR105 (xk_wa (by decide +kernel)) xD_140 hy110 ry110 eh110
        refine xi_iload_n (pc' := 12) (x := (-2)) kc_12_11 rfl rfl ?_
        refine xi_ireturn kc_12_12 mr_12 rfl ?_
        show xw J ov 99 9 (33, [(0, .ref 115), (1, .int a4), (2, .int a6), (3, .int a8)], [.int (-2)], hh110) _
        refine xi_ireturn kc_9_33 mr_9 rfl ?_
        show xw J ov 100 195 (237, [(4, .int x4), (3, .ref 167), (2, .ref 115), (1, .ref 0), (0, .ref 1000000)], [.int (-2)], hh110) _
        refine xi_pop (pc' := 238) kc_195_237 rfl rfl ?_
        refine xi_goto (pc' := 1501) kc_195_238 rfl ?_
        obtain ⟨v113, ev113⟩ : ∃ q : Int32, x4 + 6 = q := ⟨_, rfl⟩
        have zv113 : v113.toInt = (x4.toInt + 6) := by rw [← ev113]; exact (xz_add (X := x4.toInt) (Y := 6) rfl (by decide) (by omega) (by omega)).trans (by omega)
        refine xi_iinc (pc' := 1504) (x := x4) (v := v113) (lv' := [(4, .int v113), (3, .ref 167), (2, .ref 115), (1, .ref 0), (0, .ref 1000000)]) kc_195_1501 rfl rfl ev113 rfl (xm_lt ml_195 rfl) ?_
        refine xi_goto (pc' := 23) kc_195_1504 rfl ?_
        exact kk v113 hh110 (by omega) K111 (xI_kept I KR112.2.1)
      · refine xi_iff (pc' := 17) kc_88_14 rfl (xc_lt_f (X := a6.toInt) (Y := 0) rfl (by decide) (by omega)) ?_
        refine xi_iload_n (pc' := 18) (x := a6) kc_88_17 rfl rfl ?_
        refine xi_iconst (pc' := 19) (v := 5) kc_88_18 rfl rfl ?_
        by_cases c114 : a6.toInt ≤ 5
        · refine xi_cmt (pc' := 29) kc_88_19 rfl (xc_le_t (X := a6.toInt) (Y := 5) rfl (by decide) (by omega)) ?_
          refine xi_iload_n (pc' := 30) (x := a8) kc_88_29 rfl rfl ?_
          refine xi_getstatic (pc' := 33) (j := 1000001) kc_88_30 rfl rfl ?_
          refine xi_iload_n (pc' := 34) (x := a6) kc_88_33 rfl rfl ?_
          by_cases c115 : a6.toInt = 0
          · have qa6 : a6 = 0 := xc_of (Eq.trans (by omega) (show (0 : Int) = (0 : Int32).toInt by decide))
            subst qa6
            refine xi_ialoadO (pc' := 35) (v := 10) kc_88_34 rfl (by decide) hov1 (xi_in (n := 6) (by decide) (by decide)) rfl ?_
            by_cases c116 : 10 ≤ a8.toInt
            · refine xi_cmt (pc' := 45) kc_88_35 rfl (xc_ge_t (X := a8.toInt) (Y := 10) rfl (by decide) (by omega)) ?_
              refine xi_iload_n (pc' := 46) (x := a8) kc_88_45 rfl rfl ?_
              refine xi_getstatic (pc' := 49) (j := 1000002) kc_88_46 rfl rfl ?_
              refine xi_iload_n (pc' := 50) (x := 0) kc_88_49 rfl rfl ?_
              refine xi_ialoadO (pc' := 51) (v := 99) kc_88_50 rfl (by decide) hov2 (xi_in (n := 6) (by decide) (by decide)) rfl ?_
              by_cases c117 : a8.toInt ≤ 99
              · refine xi_cmt (pc' := 61) kc_88_51 rfl (xc_le_t (X := a8.toInt) (Y := 99) rfl (by decide) (by omega)) ?_
                refine xi_iload_n (pc' := 62) (x := 0) kc_88_61 rfl rfl ?_
                refine xi_iconst (pc' := 63) (v := 5) kc_88_62 rfl rfl ?_
                refine xi_cmt (pc' := 90) kc_88_63 rfl rfl ?_
                refine xi_aload_n (pc' := 91) (x := 0) kc_88_90 rfl rfl ?_
                refine xi_getfield (pc' := 94) (v := .ref 66) kc_88_91 rfl rfl rfl A11 rfl ?_
                obtain ⟨u119, wl118, bu119, A120⟩ := xq_66 K.1
                refine xi_virtual (mj := 91) (as := []) (st1 := []) (lv0 := [(0, .ref 66)]) kc_88_94 rfl rfl rfl rfl rfl A120 (Nat.le_of_ble_eq_true rfl) (hJ _ _ _ _ (by decide)) (xm_le ml_91 rfl) rfl ?_
                refine xi_aload_n (pc' := 1) (x := 66) kc_91_0 rfl rfl ?_
                refine xi_lconst (pc' := 2) (v := 0) kc_91_1 rfl rfl ?_
                refine xi_putfield (pc' := 5) (fs' := [.ref 1, .ref 67, .ref 70, .ref 71, .ref 72, .ref 73, .ref 74, .long 0, .int u119]) kc_91_2 rfl rfl rfl A120 rfl rfl rfl (Nat.le_of_ble_eq_true rfl) rfl (fun hh122 eh121 => ?_)
                have K123 := xk_pl (k := 7) (v := 0) K (xk_wf (by decide +kernel)) xD_66 A120 rfl eh121 rfl
                have KR124 := xk_pl (k := 7) (v := 0) KR (xk_wf (by decide +kernel)) xD_66 A120 rfl eh121 rfl
                refine xi_return kc_91_5 mr_91 ?_
                show xw J ov 99 88 (97, [(0, .ref 0), (1, .int a4), (2, .int 0), (3, .int a8)], [], hh122) _
                refine xi_aload_n (pc' := 98) (x := 0) kc_88_97 rfl rfl ?_
                have A125 := ((eh121.2.1 0 (by decide)).trans A11)
                refine xi_getfield (pc' := 101) (v := .ref 1) kc_88_98 rfl rfl rfl A125 rfl ?_
                refine xi_iload_n (pc' := 102) (x := a4) kc_88_101 rfl rfl ?_
                refine xi_iload_n (pc' := 103) (x := 0) kc_88_102 rfl rfl ?_
                refine xi_iload_n (pc' := 104) (x := a8) kc_88_103 rfl rfl ?_
                obtain ⟨u126, u127, bu126, bu127, A128⟩ := xq_1 K.1
                have A129 := ((eh121.2.1 1 (by decide)).trans A128)
                refine xi_virtual (mj := 92) (as := [.int a4, .int 0, .int a8]) (st1 := []) (lv0 := [(0, .ref 1), (1, .int a4), (2, .int 0), (3, .int a8)]) kc_88_104 rfl rfl rfl rfl rfl A129 (Nat.le_of_ble_eq_true rfl) (hJ _ _ _ _ (by decide)) (xm_le ml_92 rfl) rfl ?_
                have F130 := xra_fr WWb (xl_c (eh121.2.1 121 (by decide)))
                have F131 := xg6_c I6 (fun c hc => eh121.2.1 c (Ne.symm (xk_nc hc rfl)))
                have F132 := xr5_c I5 (fun c hc => eh121.2.1 c (Ne.symm (xk_nc hc rfl)))
                have zc0 : (0 : Int32).toInt = 0 := by decide
                refine xw_chg hJ hov1 hov2 (d := 96) (x1 := a4) (x2 := 0) (x3 := a8) K123.1 F131 (by omega) (by omega) (fun r133 hh134 hr133 K135 I136 => ?_)
                have rr133 := xc_rng r133
                have nqr133 : Int32.toNatClampNeg 0 = 0 := by decide
                rw [nqr133] at hr133 I136
                have I1365 := xr5_k F132 K135 (by decide +kernel)
                have I136W := xra_fr F130 (K135.2.1 (121, 0) (by decide +kernel))
                have A137 := ((eh121.2.1 64 (by decide)).trans A1)
                have K138 := xk_tr K123 K135 (xsb_ok _ _ (by decide +kernel))
                have A139 := xk_eqa (q := 0) K135 (by decide +kernel) A137
                obtain ⟨u140, u141, bu140, bu141, A142⟩ := xq_0 K138.1
                have e143 : u10 = u141 := xk_eqi (q := 9) K135 (by decide +kernel) A125 A142 rfl rfl
                subst e143
                have e144 : u9 = u140 := xk_eqi (q := 8) K135 (by decide +kernel) A125 A142 rfl rfl
                subst e144
                obtain ⟨u145, u146, bu145, bu146, A147⟩ := xq_1 K138.1
                have e148 : u126 = u145 := xk_eqi (q := 5) K135 (by decide +kernel) A129 A147 rfl rfl
                subst e148
                show xw J ov 99 88 (107, [(0, .ref 0), (1, .int a4), (2, .int 0), (3, .int a8)], [.int r133], hh134) _
                refine xi_ireturn kc_88_107 mr_88 rfl ?_
                show xw J ov 100 195 (214, [(4, .int x4), (3, .ref 167), (2, .ref 115), (1, .ref 0), (0, .ref 1000000)], [.int r133], hh134) _
                refine xi_pop (pc' := 215) kc_195_214 rfl rfl ?_
                refine xi_aload_n (pc' := 216) (x := 115) kc_195_215 rfl rfl ?_
                refine xi_aload_n (pc' := 217) (x := 1000000) kc_195_216 rfl rfl ?_
                refine xi_iload (pc' := 219) (x := x4) kc_195_217 rfl rfl ?_
                refine xi_iconst (pc' := 220) (v := 1) kc_195_219 rfl rfl ?_
                refine xi_iadd (pc' := 221) (v := v3) kc_195_220 rfl ev3 ?_
                refine xi_ialoadO (pc' := 222) (v := a4) kc_195_221 rfl (by decide) hov0 (xi_in (by omega) (by omega)) ea4 ?_
                refine xi_aload_n (pc' := 223) (x := 1000000) kc_195_222 rfl rfl ?_
                refine xi_iload (pc' := 225) (x := x4) kc_195_223 rfl rfl ?_
                refine xi_iconst (pc' := 226) (v := 2) kc_195_225 rfl rfl ?_
                refine xi_iadd (pc' := 227) (v := v5) kc_195_226 rfl ev5 ?_
                refine xi_ialoadO (pc' := 228) (v := 0) kc_195_227 rfl (by decide) hov0 (xi_in (by omega) (by omega)) ea6 ?_
                refine xi_aload_n (pc' := 229) (x := 1000000) kc_195_228 rfl rfl ?_
                refine xi_iload (pc' := 231) (x := x4) kc_195_229 rfl rfl ?_
                refine xi_iconst (pc' := 232) (v := 3) kc_195_231 rfl rfl ?_
                refine xi_iadd (pc' := 233) (v := v7) kc_195_232 rfl ev7 ?_
                refine xi_ialoadO (pc' := 234) (v := a8) kc_195_233 rfl (by decide) hov0 (xi_in (by omega) (by omega)) ea8 ?_
                obtain ⟨u149, u150, u151, u152, u153, u154, u155, u156, u157, u158, u159, u160, u161, bu149, bu150, bu151, bu152, bu153, bu154, bu155, bu156, bu157, bu158, bu159, bu160, bu161, A162⟩ := xq_115 K138.1
                refine xi_virtual (mj := 9) (as := [.int a4, .int 0, .int a8]) (st1 := []) (lv0 := [(0, .ref 115), (1, .int a4), (2, .int 0), (3, .int a8)]) kc_195_234 rfl rfl rfl rfl rfl A162 (Nat.le_of_ble_eq_true rfl) (hJ _ _ _ _ (by decide)) (xm_le ml_9 rfl) rfl ?_
                refine xi_aload_n (pc' := 1) (x := 115) kc_9_0 rfl rfl ?_
                refine xi_iconst (pc' := 2) (v := 0) kc_9_1 rfl rfl ?_
                refine xi_putfield (pc' := 5) (fs' := [.int 0, .int u150, .ref 116, .ref 117, .ref 118, .ref 119, .ref 120, .ref 121, .ref 122, .ref 123, .ref 124, .ref 125, .ref 126, .ref 127, .ref 128, .ref 129, .int u151, .ref 130, .int u152, .ref 131, .ref 132, .ref 133, .ref 134, .int u153, .ref 135, .ref 136, .ref 137, .ref 138, .ref 139, .ref 140, .ref 141, .ref 142, .int u154, .int u155, .int u156, .ref 143, .ref 144, .ref 145, .ref 146, .ref 147, .ref 148, .int u157, .ref 149, .ref 150, .ref 151, .int u158, .ref 152, .ref 153, .ref 154, .ref 155, .ref 156, .ref 157, .ref 158, .ref 159, .int u159, .ref 160, .int u160, .ref 161, .ref 162, .ref 163, .ref 164, .int u161, .ref 165, .ref 166]) kc_9_2 rfl rfl rfl A162 rfl rfl rfl (Nat.le_of_ble_eq_true rfl) rfl (fun hh164 eh163 => ?_)
                have K165 := xk_pf (k := 0) (v := 0) K138 (xk_wf (by decide +kernel)) xD_115 A162 rfl (by first | omega | decide) (by first | omega | decide) eh163 rfl
                refine xi_iload_n (pc' := 6) (x := a4) kc_9_5 rfl rfl ?_
                refine xi_static (mj := 10) (as := [.int a4]) (st1 := []) (lv0 := [(0, .int a4)]) kc_9_6 rfl rfl (Nat.le_of_ble_eq_true rfl) rfl rfl (Nat.le_of_ble_eq_true rfl) (hJ _ _ _ _ (by decide)) (xm_le ml_10 rfl) rfl ?_
                refine xi_iload_n (pc' := 1) (x := a4) kc_10_0 rfl rfl ?_
                refine xi_iconst (pc' := 2) (v := 0) kc_10_1 rfl rfl ?_
                refine xi_iconst (pc' := 3) (v := 5) kc_10_2 rfl rfl ?_
                refine xi_static (mj := 11) (as := [.int a4, .int 0, .int 5]) (st1 := []) (lv0 := [(0, .int a4), (1, .int 0), (2, .int 5)]) kc_10_3 rfl rfl (Nat.le_of_ble_eq_true rfl) rfl rfl (Nat.le_of_ble_eq_true rfl) (hJ _ _ _ _ (by decide)) (xm_le ml_11 rfl) rfl ?_
                refine xi_iload_n (pc' := 1) (x := a4) kc_11_0 rfl rfl ?_
                refine xi_iload_n (pc' := 2) (x := 0) kc_11_1 rfl rfl ?_
                refine xi_cmf (pc' := 5) kc_11_2 rfl (xc_lt_f (X := a4.toInt) (Y := 0) rfl (by decide) (by omega)) ?_
                refine xi_iload_n (pc' := 6) (x := a4) kc_11_5 rfl rfl ?_
                refine xi_iload_n (pc' := 7) (x := 5) kc_11_6 rfl rfl ?_
                refine xi_cmf (pc' := 10) kc_11_7 rfl (xc_gt_f (X := a4.toInt) (Y := 5) rfl (by decide) (by omega)) ?_
                refine xi_iconst (pc' := 11) (v := 1) kc_11_10 rfl rfl ?_
                refine xi_goto (pc' := 15) kc_11_11 rfl ?_
                refine xi_ireturn kc_11_15 mr_11 rfl ?_
                show xw J ov 98 10 (6, [(0, .int a4)], [.int 1], hh164) _
                refine xi_ireturn kc_10_6 mr_10 rfl ?_
                show xw J ov 99 9 (9, [(0, .ref 115), (1, .int a4), (2, .int 0), (3, .int a8)], [.int 1], hh164) _
                refine xi_ift (pc' := 18) kc_9_9 rfl rfl ?_
                refine xi_iload_n (pc' := 19) (x := 0) kc_9_18 rfl rfl ?_
                refine xi_iconst (pc' := 20) (v := 0) kc_9_19 rfl rfl ?_
                refine xi_iconst (pc' := 21) (v := 5) kc_9_20 rfl rfl ?_
                refine xi_static (mj := 11) (as := [.int 0, .int 0, .int 5]) (st1 := []) (lv0 := [(0, .int 0), (1, .int 0), (2, .int 5)]) kc_9_21 rfl rfl (Nat.le_of_ble_eq_true rfl) rfl rfl (Nat.le_of_ble_eq_true rfl) (hJ _ _ _ _ (by decide)) (xm_le ml_11 rfl) rfl ?_
                refine xi_iload_n (pc' := 1) (x := 0) kc_11_0 rfl rfl ?_
                refine xi_iload_n (pc' := 2) (x := 0) kc_11_1 rfl rfl ?_
                refine xi_cmf (pc' := 5) kc_11_2 rfl rfl ?_
                refine xi_iload_n (pc' := 6) (x := 0) kc_11_5 rfl rfl ?_
                refine xi_iload_n (pc' := 7) (x := 5) kc_11_6 rfl rfl ?_
                refine xi_cmf (pc' := 10) kc_11_7 rfl rfl ?_
                refine xi_iconst (pc' := 11) (v := 1) kc_11_10 rfl rfl ?_
                refine xi_goto (pc' := 15) kc_11_11 rfl ?_
                refine xi_ireturn kc_11_15 mr_11 rfl ?_
                show xw J ov 99 9 (24, [(0, .ref 115), (1, .int a4), (2, .int 0), (3, .int a8)], [.int 1], hh164) _
                refine xi_ift (pc' := 34) kc_9_24 rfl rfl ?_
                refine xi_iload_n (pc' := 35) (x := a8) kc_9_34 rfl rfl ?_
                refine xi_iload_n (pc' := 36) (x := 0) kc_9_35 rfl rfl ?_
                refine xi_iff (pc' := 39) kc_9_36 rfl rfl ?_
                refine xi_bipush (pc' := 41) (v := 10) kc_9_39 rfl rfl ?_
                refine xi_goto (pc' := 45) kc_9_41 rfl ?_
                refine xi_cmt (pc' := 55) kc_9_45 rfl (xc_ge_t (X := a8.toInt) (Y := 10) rfl (by decide) (by omega)) ?_
                refine xi_iload_n (pc' := 56) (x := a8) kc_9_55 rfl rfl ?_
                refine xi_iload_n (pc' := 57) (x := 0) kc_9_56 rfl rfl ?_
                refine xi_iff (pc' := 60) kc_9_57 rfl rfl ?_
                refine xi_bipush (pc' := 62) (v := 99) kc_9_60 rfl rfl ?_
                refine xi_goto (pc' := 96) kc_9_62 rfl ?_
                refine xi_cmt (pc' := 106) kc_9_96 rfl (xc_le_t (X := a8.toInt) (Y := 99) rfl (by decide) (by omega)) ?_
                refine xi_aload_n (pc' := 107) (x := 115) kc_9_106 rfl rfl ?_
                refine xi_iload_n (pc' := 108) (x := a4) kc_9_107 rfl rfl ?_
                refine xi_iload_n (pc' := 109) (x := 0) kc_9_108 rfl rfl ?_
                refine xi_virtual (mj := 13) (as := [.int a4, .int 0]) (st1 := []) (lv0 := [(0, .ref 115), (1, .int a4), (2, .int 0)]) kc_9_109 rfl rfl rfl rfl rfl eh163.1 (Nat.le_of_ble_eq_true rfl) (hJ _ _ _ _ (by decide)) (xm_le ml_13 rfl) rfl ?_
                have F166 := xg6_c I136 (fun c hc => eh163.2.1 c (Ne.symm (xk_nc hc rfl)))
                have F167 := xr5_c I1365 (fun c hc => eh163.2.1 c (Ne.symm (xk_nc hc rfl)))
                have F168 := xra_fr I136W (xl_c (eh163.2.1 121 (by decide)))
                have zc0 : (0 : Int32).toInt = 0 := by decide
                refine xw_rn hJ hov1 hov2 (d := 97) (x1 := a4) (x2 := 0) K165.1 F167 (by omega) (by omega) (fun r169 hr169 => ?_)
                have rr169 := xc_rng r169
                have nqr169 : Int32.toNatClampNeg 0 = 0 := by decide
                rw [nqr169] at hr169
                show xw J ov 99 9 (112, [(0, .ref 115), (1, .int a4), (2, .int 0), (3, .int a8)], [.int r169], hh164) _
                refine xi_istore (pc' := 114) (lv' := [(4, .int r169), (0, .ref 115), (1, .int a4), (2, .int 0), (3, .int a8)]) kc_9_112 rfl rfl (xm_lt ml_9 rfl) ?_
                refine xi_aload_n (pc' := 115) (x := 115) kc_9_114 rfl rfl ?_
                refine xi_iload_n (pc' := 116) (x := a4) kc_9_115 rfl rfl ?_
                refine xi_iload_n (pc' := 117) (x := 0) kc_9_116 rfl rfl ?_
                refine xi_iload_n (pc' := 118) (x := a8) kc_9_117 rfl rfl ?_
                refine xi_virtual (mj := 14) (as := [.int a4, .int 0, .int a8]) (st1 := []) (lv0 := [(0, .ref 115), (1, .int a4), (2, .int 0), (3, .int a8)]) kc_9_118 rfl rfl rfl rfl rfl eh163.1 (Nat.le_of_ble_eq_true rfl) (hJ _ _ _ _ (by decide)) (xm_le ml_14 rfl) rfl ?_
                refine xw_te0 hJ hov1 hov2 (d := 97) (x1 := a4) (x3 := a8) K165.1 F167 F168 (by omega) (by omega) (fun hh170 K171 F172 F173 => ?_)
                have F174 := xg6_k F166 K171 (by decide +kernel)
                have A175 := ((eh163.2.1 64 (by decide)).trans A139)
                have A176 := ((eh163.2.1 0 (by decide)).trans A142)
                have A177 := ((eh163.2.1 1 (by decide)).trans A147)
                have K178 := xk_tr K165 K171 (xsb_ok _ _ (by decide +kernel))
                have A179 := xk_eqa (q := 0) K171 (by decide +kernel) A175
                obtain ⟨u180, u181, bu180, bu181, A182⟩ := xq_0 K178.1
                have e183 : u10 = u181 := xk_eqi (q := 9) K171 (by decide +kernel) A176 A182 rfl rfl
                subst e183
                have e184 : u9 = u180 := xk_eqi (q := 8) K171 (by decide +kernel) A176 A182 rfl rfl
                subst e184
                obtain ⟨u185, u186, bu185, bu186, A187⟩ := xq_1 K178.1
                have e188 : u126 = u185 := xk_eqi (q := 5) K171 (by decide +kernel) A177 A187 rfl rfl
                subst e188
                obtain ⟨u189, u190, u191, u192, u193, u194, u195, u196, u197, u198, u199, u200, u201, bu189, bu190, bu191, bu192, bu193, bu194, bu195, bu196, bu197, bu198, bu199, bu200, bu201, A202⟩ := xq_115 K178.1
                have e203 : u150 = u190 := xk_eqi (q := 1) K171 (by decide +kernel) eh163.1 A202 rfl rfl
                subst e203
                have e204 : u153 = u193 := xk_eqi (q := 23) K171 (by decide +kernel) eh163.1 A202 rfl rfl
                subst e204
                have e205 : u156 = u196 := xk_eqi (q := 34) K171 (by decide +kernel) eh163.1 A202 rfl rfl
                subst e205
                have e206 : u154 = u194 := xk_eqi (q := 32) K171 (by decide +kernel) eh163.1 A202 rfl rfl
                subst e206
                show xw J ov 99 9 (121, [(4, .int r169), (0, .ref 115), (1, .int a4), (2, .int 0), (3, .int a8)], [], hh170) _
                refine xi_iload (pc' := 123) (x := r169) kc_9_121 rfl rfl ?_
                refine xi_ireturn kc_9_123 mr_9 rfl ?_
                show xw J ov 100 195 (237, [(4, .int x4), (3, .ref 167), (2, .ref 115), (1, .ref 0), (0, .ref 1000000)], [.int r169], hh170) _
                refine xi_pop (pc' := 238) kc_195_237 rfl rfl ?_
                refine xi_goto (pc' := 1501) kc_195_238 rfl ?_
                obtain ⟨v207, ev207⟩ : ∃ q : Int32, x4 + 6 = q := ⟨_, rfl⟩
                have zv207 : v207.toInt = (x4.toInt + 6) := by rw [← ev207]; exact (xz_add (X := x4.toInt) (Y := 6) rfl (by decide) (by omega) (by omega)).trans (by omega)
                refine xi_iinc (pc' := 1504) (x := x4) (v := v207) (lv' := [(4, .int v207), (3, .ref 167), (2, .ref 115), (1, .ref 0), (0, .ref 1000000)]) kc_195_1501 rfl rfl ev207 rfl (xm_lt ml_195 rfl) ?_
                refine xi_goto (pc' := 23) kc_195_1504 rfl ?_
                exact kk v207 hh170 (by omega) K178 ⟨((K178.2.1 (0, 9) (by decide +kernel)).trans (I.1.trans (K178.2.1 (115, 1) (by decide +kernel)).symm)), ⟨w, xra_mk A179 R2, F173, WWr⟩, ⟨_, F174, F172⟩, (by rw [(K178.2.1 (13, 0) (by decide +kernel)), (K178.2.1 (122, 0) (by decide +kernel))]; exact I.2.2.2.1), (by rw [(K178.2.1 (16, 0) (by decide +kernel)), (K178.2.1 (122, 0) (by decide +kernel))]; exact I.2.2.2.2.1), (by rw [(K178.2.1 (19, 0) (by decide +kernel)), (K178.2.1 (122, 0) (by decide +kernel))]; exact I.2.2.2.2.2.1), (by rw [(K178.2.1 (22, 0) (by decide +kernel)), (K178.2.1 (122, 0) (by decide +kernel))]; exact I.2.2.2.2.2.2.1), (by rw [(K178.2.1 (25, 0) (by decide +kernel)), (K178.2.1 (122, 0) (by decide +kernel))]; exact I.2.2.2.2.2.2.2.1), (by rw [(K178.2.1 (28, 0) (by decide +kernel)), (K178.2.1 (122, 0) (by decide +kernel))]; exact I.2.2.2.2.2.2.2.2.1), (by rw [(K178.2.1 (6, 0) (by decide +kernel)), (K178.2.1 (123, 0) (by decide +kernel))]; exact I.2.2.2.2.2.2.2.2.2.1), (by rw [(K178.2.1 (9, 0) (by decide +kernel)), (K178.2.1 (124, 0) (by decide +kernel))]; exact I.2.2.2.2.2.2.2.2.2.2.1), (by rw [(K178.2.1 (7, 0) (by decide +kernel)), (K178.2.1 (6, 0) (by decide +kernel))]; exact I.2.2.2.2.2.2.2.2.2.2.2.1), (by rw [(K178.2.1 (10, 0) (by decide +kernel)), (K178.2.1 (9, 0) (by decide +kernel))]; exact I.2.2.2.2.2.2.2.2.2.2.2.2.1), ((K178.2.1 (5, 0) (by decide +kernel)).trans I.2.2.2.2.2.2.2.2.2.2.2.2.2.1), ((K178.2.1 (8, 0) (by decide +kernel)).trans I.2.2.2.2.2.2.2.2.2.2.2.2.2.2.1), (xGR_fr I.2.2.2.2.2.2.2.2.2.2.2.2.2.2.2.1 K178.2.1 (by decide +kernel) (by decide +kernel)), (xGR_fr I.2.2.2.2.2.2.2.2.2.2.2.2.2.2.2.2.1 K178.2.1 (by decide +kernel) (by decide +kernel)), ((K178.2.1 (1, 5) (by decide +kernel)).trans (I.2.2.2.2.2.2.2.2.2.2.2.2.2.2.2.2.2.1.trans (K178.2.1 (115, 23) (by decide +kernel)).symm)), (xGR_fr I.2.2.2.2.2.2.2.2.2.2.2.2.2.2.2.2.2.2.1 K178.2.1 (by decide +kernel) (by decide +kernel)), (xGR_fr I.2.2.2.2.2.2.2.2.2.2.2.2.2.2.2.2.2.2.2.1 K178.2.1 (by decide +kernel) (by decide +kernel)), (xGR_fr I.2.2.2.2.2.2.2.2.2.2.2.2.2.2.2.2.2.2.2.2.1 K178.2.1 (by decide +kernel) (by decide +kernel)), (xGR_fr I.2.2.2.2.2.2.2.2.2.2.2.2.2.2.2.2.2.2.2.2.2.1 K178.2.1 (by decide +kernel) (by decide +kernel)), (by rw [(K178.2.1 (63, 2) (by decide +kernel)), (K178.2.1 (139, 0) (by decide +kernel)), (K178.2.1 (1, 5) (by decide +kernel))]; exact I.2.2.2.2.2.2.2.2.2.2.2.2.2.2.2.2.2.2.2.2.2.2.1), ((K178.2.1 (0, 8) (by decide +kernel)).trans (I.2.2.2.2.2.2.2.2.2.2.2.2.2.2.2.2.2.2.2.2.2.2.2.1.trans (K178.2.1 (115, 34) (by decide +kernel)).symm)), (xGR_fr I.2.2.2.2.2.2.2.2.2.2.2.2.2.2.2.2.2.2.2.2.2.2.2.2.1 K178.2.1 (by decide +kernel) (by decide +kernel)), (xGR_fr I.2.2.2.2.2.2.2.2.2.2.2.2.2.2.2.2.2.2.2.2.2.2.2.2.2.1 K178.2.1 (by decide +kernel) (by decide +kernel)), (xGR_fr I.2.2.2.2.2.2.2.2.2.2.2.2.2.2.2.2.2.2.2.2.2.2.2.2.2.2.1 K178.2.1 (by decide +kernel) (by decide +kernel)), (xGR_fr I.2.2.2.2.2.2.2.2.2.2.2.2.2.2.2.2.2.2.2.2.2.2.2.2.2.2.2.1 K178.2.1 (by decide +kernel) (by decide +kernel)), (xts_fr I.2.2.2.2.2.2.2.2.2.2.2.2.2.2.2.2.2.2.2.2.2.2.2.2.2.2.2.2.1 (fun l hl => K178.2.1 l (xk_el (by decide +kernel) hl))), ((K178.2.1 (63, 3) (by decide +kernel)).trans I.2.2.2.2.2.2.2.2.2.2.2.2.2.2.2.2.2.2.2.2.2.2.2.2.2.2.2.2.2)⟩
              · refine xi_cmf (pc' := 54) kc_88_51 rfl (xc_le_f (X := a8.toInt) (Y := 99) rfl (by decide) (by omega)) ?_
                refine xi_aload_n (pc' := 55) (x := 0) kc_88_54 rfl rfl ?_
                refine xi_bipush (pc' := 57) (v := (-6)) kc_88_55 rfl rfl ?_
                refine xi_virtual (mj := 90) (as := [.int (-6)]) (st1 := []) (lv0 := [(0, .ref 0), (1, .int (-6))]) kc_88_57 rfl rfl rfl rfl rfl A11 (Nat.le_of_ble_eq_true rfl) (hJ _ _ _ _ (by decide)) (xm_le ml_90 rfl) rfl ?_
                refine xi_iload_n (pc' := 1) (x := (-6)) kc_90_0 rfl rfl ?_
                refine xi_ineg (pc' := 2) (v := 6) kc_90_1 rfl rfl ?_
                refine xi_istore_n (pc' := 3) (lv' := [(2, .int 6), (0, .ref 0), (1, .int (-6))]) kc_90_2 rfl rfl (xm_lt ml_90 rfl) ?_
                refine xi_iload_n (pc' := 4) (x := 6) kc_90_3 rfl rfl ?_
                refine xi_iff (pc' := 7) kc_90_4 rfl rfl ?_
                refine xi_iload_n (pc' := 8) (x := 6) kc_90_7 rfl rfl ?_
                refine xi_aload_n (pc' := 9) (x := 0) kc_90_8 rfl rfl ?_
                refine xi_getfield (pc' := 12) (v := .ref 94) kc_90_9 rfl rfl rfl A11 rfl ?_
                obtain ⟨y208, A208, hy208, ry208⟩ := xk_arr K.1 xD_94
                refine xi_arraylength (pc' := 13) (n := 7) (v := 7) kc_90_12 rfl (xl_lenI (by decide) (by decide) A208 hy208) rfl ?_
                refine xi_cmf (pc' := 16) kc_90_13 rfl rfl ?_
                refine xi_aload_n (pc' := 17) (x := 0) kc_90_16 rfl rfl ?_
                refine xi_getfield (pc' := 20) (v := .ref 94) kc_90_17 rfl rfl rfl A11 rfl ?_
                refine xi_iload_n (pc' := 21) (x := 6) kc_90_20 rfl rfl ?_
                refine xi_dup2 (pc' := 22) kc_90_21 rfl ⟨rfl, rfl⟩ ?_
                obtain ⟨v209, ev209, bv209, dv209⟩ := xj_get hy208 ry208 (i := 6) (by decide) (by decide)
                refine xi_iaload (pc' := 23) (v := v209) kc_90_22 rfl A208 (by decide) rfl (xi_in (by decide) (by rw [hy208]; decide)) ev209 ?_
                refine xi_iconst (pc' := 24) (v := 1) kc_90_23 rfl rfl ?_
                obtain ⟨v210, ev210⟩ : ∃ q : Int32, (v209 : Int32) + 1 = q := ⟨_, rfl⟩
                have rv210 := xc_rng v210
                refine xi_iadd (pc' := 25) (v := v210) kc_90_24 rfl ev210 ?_
                obtain ⟨y211, s211, hy211, ry211⟩ := xj_set (v := v210) hy208 ry208 6 (by first | omega | decide) (by first | omega | decide)
                refine xi_iastore (pc' := 26) (x' := y211) kc_90_25 rfl A208 rfl (xi_in (by decide) (by rw [hy208]; decide)) s211 (fun hh211 eh211 => ?_)
                have K212 := xk_pa K (xk_wa (by decide +kernel)) xD_94 hy211 ry211 eh211
                have KR213 := xk_pa KR (xk_wa (by decide +kernel)) xD_94 hy211 ry211 eh211
                refine xi_iload_n (pc' := 27) (x := (-6)) kc_90_26 rfl rfl ?_
                refine xi_ireturn kc_90_27 mr_90 rfl ?_
                show xw J ov 99 88 (60, [(0, .ref 0), (1, .int a4), (2, .int 0), (3, .int a8)], [.int (-6)], hh211) _
                refine xi_ireturn kc_88_60 mr_88 rfl ?_
                show xw J ov 100 195 (214, [(4, .int x4), (3, .ref 167), (2, .ref 115), (1, .ref 0), (0, .ref 1000000)], [.int (-6)], hh211) _
                refine xi_pop (pc' := 215) kc_195_214 rfl rfl ?_
                refine xi_aload_n (pc' := 216) (x := 115) kc_195_215 rfl rfl ?_
                refine xi_aload_n (pc' := 217) (x := 1000000) kc_195_216 rfl rfl ?_
                refine xi_iload (pc' := 219) (x := x4) kc_195_217 rfl rfl ?_
                refine xi_iconst (pc' := 220) (v := 1) kc_195_219 rfl rfl ?_
                refine xi_iadd (pc' := 221) (v := v3) kc_195_220 rfl ev3 ?_
                refine xi_ialoadO (pc' := 222) (v := a4) kc_195_221 rfl (by decide) hov0 (xi_in (by omega) (by omega)) ea4 ?_
                refine xi_aload_n (pc' := 223) (x := 1000000) kc_195_222 rfl rfl ?_
                refine xi_iload (pc' := 225) (x := x4) kc_195_223 rfl rfl ?_
                refine xi_iconst (pc' := 226) (v := 2) kc_195_225 rfl rfl ?_
                refine xi_iadd (pc' := 227) (v := v5) kc_195_226 rfl ev5 ?_
                refine xi_ialoadO (pc' := 228) (v := 0) kc_195_227 rfl (by decide) hov0 (xi_in (by omega) (by omega)) ea6 ?_
                refine xi_aload_n (pc' := 229) (x := 1000000) kc_195_228 rfl rfl ?_
                refine xi_iload (pc' := 231) (x := x4) kc_195_229 rfl rfl ?_
                refine xi_iconst (pc' := 232) (v := 3) kc_195_231 rfl rfl ?_
                refine xi_iadd (pc' := 233) (v := v7) kc_195_232 rfl ev7 ?_
                refine xi_ialoadO (pc' := 234) (v := a8) kc_195_233 rfl (by decide) hov0 (xi_in (by omega) (by omega)) ea8 ?_
                obtain ⟨u214, u215, u216, u217, u218, u219, u220, u221, u222, u223, u224, u225, u226, bu214, bu215, bu216, bu217, bu218, bu219, bu220, bu221, bu222, bu223, bu224, bu225, bu226, A227⟩ := xq_115 K.1
                have A228 := ((eh211.2.1 115 (by decide)).trans A227)
                refine xi_virtual (mj := 9) (as := [.int a4, .int 0, .int a8]) (st1 := []) (lv0 := [(0, .ref 115), (1, .int a4), (2, .int 0), (3, .int a8)]) kc_195_234 rfl rfl rfl rfl rfl A228 (Nat.le_of_ble_eq_true rfl) (hJ _ _ _ _ (by decide)) (xm_le ml_9 rfl) rfl ?_
                refine xi_aload_n (pc' := 1) (x := 115) kc_9_0 rfl rfl ?_
                refine xi_iconst (pc' := 2) (v := 0) kc_9_1 rfl rfl ?_
                refine xi_putfield (pc' := 5) (fs' := [.int 0, .int u215, .ref 116, .ref 117, .ref 118, .ref 119, .ref 120, .ref 121, .ref 122, .ref 123, .ref 124, .ref 125, .ref 126, .ref 127, .ref 128, .ref 129, .int u216, .ref 130, .int u217, .ref 131, .ref 132, .ref 133, .ref 134, .int u218, .ref 135, .ref 136, .ref 137, .ref 138, .ref 139, .ref 140, .ref 141, .ref 142, .int u219, .int u220, .int u221, .ref 143, .ref 144, .ref 145, .ref 146, .ref 147, .ref 148, .int u222, .ref 149, .ref 150, .ref 151, .int u223, .ref 152, .ref 153, .ref 154, .ref 155, .ref 156, .ref 157, .ref 158, .ref 159, .int u224, .ref 160, .int u225, .ref 161, .ref 162, .ref 163, .ref 164, .int u226, .ref 165, .ref 166]) kc_9_2 rfl rfl rfl A228 rfl rfl rfl (Nat.le_of_ble_eq_true rfl) rfl (fun hh230 eh229 => ?_)
                have K231 := xk_pf (k := 0) (v := 0) K212 (xk_wf (by decide +kernel)) xD_115 A228 rfl (by first | omega | decide) (by first | omega | decide) eh229 rfl
                have KR232 := xk_pf (k := 0) (v := 0) KR213 (xk_wf (by decide +kernel)) xD_115 A228 rfl (by first | omega | decide) (by first | omega | decide) eh229 rfl
                refine xi_iload_n (pc' := 6) (x := a4) kc_9_5 rfl rfl ?_
                refine xi_static (mj := 10) (as := [.int a4]) (st1 := []) (lv0 := [(0, .int a4)]) kc_9_6 rfl rfl (Nat.le_of_ble_eq_true rfl) rfl rfl (Nat.le_of_ble_eq_true rfl) (hJ _ _ _ _ (by decide)) (xm_le ml_10 rfl) rfl ?_
                refine xi_iload_n (pc' := 1) (x := a4) kc_10_0 rfl rfl ?_
                refine xi_iconst (pc' := 2) (v := 0) kc_10_1 rfl rfl ?_
                refine xi_iconst (pc' := 3) (v := 5) kc_10_2 rfl rfl ?_
                refine xi_static (mj := 11) (as := [.int a4, .int 0, .int 5]) (st1 := []) (lv0 := [(0, .int a4), (1, .int 0), (2, .int 5)]) kc_10_3 rfl rfl (Nat.le_of_ble_eq_true rfl) rfl rfl (Nat.le_of_ble_eq_true rfl) (hJ _ _ _ _ (by decide)) (xm_le ml_11 rfl) rfl ?_
                refine xi_iload_n (pc' := 1) (x := a4) kc_11_0 rfl rfl ?_
                refine xi_iload_n (pc' := 2) (x := 0) kc_11_1 rfl rfl ?_
                refine xi_cmf (pc' := 5) kc_11_2 rfl (xc_lt_f (X := a4.toInt) (Y := 0) rfl (by decide) (by omega)) ?_
                refine xi_iload_n (pc' := 6) (x := a4) kc_11_5 rfl rfl ?_
                refine xi_iload_n (pc' := 7) (x := 5) kc_11_6 rfl rfl ?_
                refine xi_cmf (pc' := 10) kc_11_7 rfl (xc_gt_f (X := a4.toInt) (Y := 5) rfl (by decide) (by omega)) ?_
                refine xi_iconst (pc' := 11) (v := 1) kc_11_10 rfl rfl ?_
                refine xi_goto (pc' := 15) kc_11_11 rfl ?_
                refine xi_ireturn kc_11_15 mr_11 rfl ?_
                show xw J ov 98 10 (6, [(0, .int a4)], [.int 1], hh230) _
                refine xi_ireturn kc_10_6 mr_10 rfl ?_
                show xw J ov 99 9 (9, [(0, .ref 115), (1, .int a4), (2, .int 0), (3, .int a8)], [.int 1], hh230) _
                refine xi_ift (pc' := 18) kc_9_9 rfl rfl ?_
                refine xi_iload_n (pc' := 19) (x := 0) kc_9_18 rfl rfl ?_
                refine xi_iconst (pc' := 20) (v := 0) kc_9_19 rfl rfl ?_
                refine xi_iconst (pc' := 21) (v := 5) kc_9_20 rfl rfl ?_
                refine xi_static (mj := 11) (as := [.int 0, .int 0, .int 5]) (st1 := []) (lv0 := [(0, .int 0), (1, .int 0), (2, .int 5)]) kc_9_21 rfl rfl (Nat.le_of_ble_eq_true rfl) rfl rfl (Nat.le_of_ble_eq_true rfl) (hJ _ _ _ _ (by decide)) (xm_le ml_11 rfl) rfl ?_
                refine xi_iload_n (pc' := 1) (x := 0) kc_11_0 rfl rfl ?_
                refine xi_iload_n (pc' := 2) (x := 0) kc_11_1 rfl rfl ?_
                refine xi_cmf (pc' := 5) kc_11_2 rfl rfl ?_
                refine xi_iload_n (pc' := 6) (x := 0) kc_11_5 rfl rfl ?_
                refine xi_iload_n (pc' := 7) (x := 5) kc_11_6 rfl rfl ?_
                refine xi_cmf (pc' := 10) kc_11_7 rfl rfl ?_
                refine xi_iconst (pc' := 11) (v := 1) kc_11_10 rfl rfl ?_
                refine xi_goto (pc' := 15) kc_11_11 rfl ?_
                refine xi_ireturn kc_11_15 mr_11 rfl ?_
                show xw J ov 99 9 (24, [(0, .ref 115), (1, .int a4), (2, .int 0), (3, .int a8)], [.int 1], hh230) _
                refine xi_ift (pc' := 34) kc_9_24 rfl rfl ?_
                refine xi_iload_n (pc' := 35) (x := a8) kc_9_34 rfl rfl ?_
                refine xi_iload_n (pc' := 36) (x := 0) kc_9_35 rfl rfl ?_
                refine xi_iff (pc' := 39) kc_9_36 rfl rfl ?_
                refine xi_bipush (pc' := 41) (v := 10) kc_9_39 rfl rfl ?_
                refine xi_goto (pc' := 45) kc_9_41 rfl ?_
                refine xi_cmt (pc' := 55) kc_9_45 rfl (xc_ge_t (X := a8.toInt) (Y := 10) rfl (by decide) (by omega)) ?_
                refine xi_iload_n (pc' := 56) (x := a8) kc_9_55 rfl rfl ?_
                refine xi_iload_n (pc' := 57) (x := 0) kc_9_56 rfl rfl ?_
                refine xi_iff (pc' := 60) kc_9_57 rfl rfl ?_
                refine xi_bipush (pc' := 62) (v := 99) kc_9_60 rfl rfl ?_
                refine xi_goto (pc' := 96) kc_9_62 rfl ?_
                refine xi_cmf (pc' := 99) kc_9_96 rfl (xc_le_f (X := a8.toInt) (Y := 99) rfl (by decide) (by omega)) ?_
                refine xi_aload_n (pc' := 100) (x := 115) kc_9_99 rfl rfl ?_
                refine xi_bipush (pc' := 102) (v := (-6)) kc_9_100 rfl rfl ?_
                refine xi_virtual (mj := 12) (as := [.int (-6)]) (st1 := []) (lv0 := [(0, .ref 115), (1, .int (-6))]) kc_9_102 rfl rfl rfl rfl rfl eh229.1 (Nat.le_of_ble_eq_true rfl) (hJ _ _ _ _ (by decide)) (xm_le ml_12 rfl) rfl ?_
                refine xi_aload_n (pc' := 1) (x := 115) kc_12_0 rfl rfl ?_
                refine xi_getfield (pc' := 4) (v := .ref 140) kc_12_1 rfl rfl rfl eh229.1 rfl ?_
                refine xi_iload_n (pc' := 5) (x := (-6)) kc_12_4 rfl rfl ?_
                refine xi_ineg (pc' := 6) (v := 6) kc_12_5 rfl rfl ?_
                refine xi_dup2 (pc' := 7) kc_12_6 rfl ⟨rfl, rfl⟩ ?_
                obtain ⟨y233, A233, hy233, ry233⟩ := xk_arr K.1 xD_140
                obtain ⟨v234, ev234, bv234, dv234⟩ := xj_get hy233 ry233 (i := 6) (by decide) (by decide)
                have A235 := ((eh229.2.1 140 (by decide)).trans ((eh211.2.1 140 (by decide)).trans A233))
                refine xi_iaload (pc' := 8) (v := v234) kc_12_7 rfl A235 (by decide) rfl (xi_in (by decide) (by rw [hy233]; decide)) ev234 ?_
                refine xi_iconst (pc' := 9) (v := 1) kc_12_8 rfl rfl ?_
                obtain ⟨v236, ev236⟩ : ∃ q : Int32, (v234 : Int32) + 1 = q := ⟨_, rfl⟩
                have rv236 := xc_rng v236
                refine xi_iadd (pc' := 10) (v := v236) kc_12_9 rfl ev236 ?_
                obtain ⟨y237, s237, hy237, ry237⟩ := xj_set (v := v236) hy233 ry233 6 (by first | omega | decide) (by first | omega | decide)
                refine xi_iastore (pc' := 11) (x' := y237) kc_12_10 rfl A235 rfl (xi_in (by decide) (by rw [hy233]; decide)) s237 (fun hh237 eh237 => ?_)
                have K238 := xk_pa K231 (xk_wa (by decide +kernel)) xD_140 hy237 ry237 eh237
                have KR239 := xk_pa KR232 (xk_wa (by decide +kernel)) xD_140 hy237 ry237 eh237
                refine xi_iload_n (pc' := 12) (x := (-6)) kc_12_11 rfl rfl ?_
                refine xi_ireturn kc_12_12 mr_12 rfl ?_
                show xw J ov 99 9 (105, [(0, .ref 115), (1, .int a4), (2, .int 0), (3, .int a8)], [.int (-6)], hh237) _
                refine xi_ireturn kc_9_105 mr_9 rfl ?_
                show xw J ov 100 195 (237, [(4, .int x4), (3, .ref 167), (2, .ref 115), (1, .ref 0), (0, .ref 1000000)], [.int (-6)], hh237) _
                refine xi_pop (pc' := 238) kc_195_237 rfl rfl ?_
                refine xi_goto (pc' := 1501) kc_195_238 rfl ?_
                obtain ⟨v240, ev240⟩ : ∃ q : Int32, x4 + 6 = q := ⟨_, rfl⟩
                have zv240 : v240.toInt = (x4.toInt + 6) := by rw [← ev240]; exact (xz_add (X := x4.toInt) (Y := 6) rfl (by decide) (by omega) (by omega)).trans (by omega)
                refine xi_iinc (pc' := 1504) (x := x4) (v := v240) (lv' := [(4, .int v240), (3, .ref 167), (2, .ref 115), (1, .ref 0), (0, .ref 1000000)]) kc_195_1501 rfl rfl ev240 rfl (xm_lt ml_195 rfl) ?_
                refine xi_goto (pc' := 23) kc_195_1504 rfl ?_
                exact kk v240 hh237 (by omega) K238 (xI_kept I KR239.2.1)
            · refine xi_cmf (pc' := 38) kc_88_35 rfl (xc_ge_f (X := a8.toInt) (Y := 10) rfl (by decide) (by omega)) ?_
              refine xi_aload_n (pc' := 39) (x := 0) kc_88_38 rfl rfl ?_
              refine xi_bipush (pc' := 41) (v := (-4)) kc_88_39 rfl rfl ?_
              refine xi_virtual (mj := 90) (as := [.int (-4)]) (st1 := []) (lv0 := [(0, .ref 0), (1, .int (-4))]) kc_88_41 rfl rfl rfl rfl rfl A11 (Nat.le_of_ble_eq_true rfl) (hJ _ _ _ _ (by decide)) (xm_le ml_90 rfl) rfl ?_
              refine xi_iload_n (pc' := 1) (x := (-4)) kc_90_0 rfl rfl ?_
              refine xi_ineg (pc' := 2) (v := 4) kc_90_1 rfl rfl ?_
              refine xi_istore_n (pc' := 3) (lv' := [(2, .int 4), (0, .ref 0), (1, .int (-4))]) kc_90_2 rfl rfl (xm_lt ml_90 rfl) ?_
              refine xi_iload_n (pc' := 4) (x := 4) kc_90_3 rfl rfl ?_
              refine xi_iff (pc' := 7) kc_90_4 rfl rfl ?_
              refine xi_iload_n (pc' := 8) (x := 4) kc_90_7 rfl rfl ?_
              refine xi_aload_n (pc' := 9) (x := 0) kc_90_8 rfl rfl ?_
              refine xi_getfield (pc' := 12) (v := .ref 94) kc_90_9 rfl rfl rfl A11 rfl ?_
              obtain ⟨y241, A241, hy241, ry241⟩ := xk_arr K.1 xD_94
              refine xi_arraylength (pc' := 13) (n := 7) (v := 7) kc_90_12 rfl (xl_lenI (by decide) (by decide) A241 hy241) rfl ?_
              refine xi_cmf (pc' := 16) kc_90_13 rfl rfl ?_
              refine xi_aload_n (pc' := 17) (x := 0) kc_90_16 rfl rfl ?_
              refine xi_getfield (pc' := 20) (v := .ref 94) kc_90_17 rfl rfl rfl A11 rfl ?_
              refine xi_iload_n (pc' := 21) (x := 4) kc_90_20 rfl rfl ?_
              refine xi_dup2 (pc' := 22) kc_90_21 rfl ⟨rfl, rfl⟩ ?_
              obtain ⟨v242, ev242, bv242, dv242⟩ := xj_get hy241 ry241 (i := 4) (by decide) (by decide)
              refine xi_iaload (pc' := 23) (v := v242) kc_90_22 rfl A241 (by decide) rfl (xi_in (by decide) (by rw [hy241]; decide)) ev242 ?_
              refine xi_iconst (pc' := 24) (v := 1) kc_90_23 rfl rfl ?_
              obtain ⟨v243, ev243⟩ : ∃ q : Int32, (v242 : Int32) + 1 = q := ⟨_, rfl⟩
              have rv243 := xc_rng v243
              refine xi_iadd (pc' := 25) (v := v243) kc_90_24 rfl ev243 ?_
              obtain ⟨y244, s244, hy244, ry244⟩ := xj_set (v := v243) hy241 ry241 4 (by first | omega | decide) (by first | omega | decide)
              refine xi_iastore (pc' := 26) (x' := y244) kc_90_25 rfl A241 rfl (xi_in (by decide) (by rw [hy241]; decide)) s244 (fun hh244 eh244 => ?_)
              have K245 := xk_pa K (xk_wa (by decide +kernel)) xD_94 hy244 ry244 eh244
              have KR246 := xk_pa KR (xk_wa (by decide +kernel)) xD_94 hy244 ry244 eh244
              refine xi_iload_n (pc' := 27) (x := (-4)) kc_90_26 rfl rfl ?_
              refine xi_ireturn kc_90_27 mr_90 rfl ?_
              show xw J ov 99 88 (44, [(0, .ref 0), (1, .int a4), (2, .int 0), (3, .int a8)], [.int (-4)], hh244) _
              refine xi_ireturn kc_88_44 mr_88 rfl ?_
              show xw J ov 100 195 (214, [(4, .int x4), (3, .ref 167), (2, .ref 115), (1, .ref 0), (0, .ref 1000000)], [.int (-4)], hh244) _
              refine xi_pop (pc' := 215) kc_195_214 rfl rfl ?_
              refine xi_aload_n (pc' := 216) (x := 115) kc_195_215 rfl rfl ?_
              refine xi_aload_n (pc' := 217) (x := 1000000) kc_195_216 rfl rfl ?_
              refine xi_iload (pc' := 219) (x := x4) kc_195_217 rfl rfl ?_
              refine xi_iconst (pc' := 220) (v := 1) kc_195_219 rfl rfl ?_
              refine xi_iadd (pc' := 221) (v := v3) kc_195_220 rfl ev3 ?_
              refine xi_ialoadO (pc' := 222) (v := a4) kc_195_221 rfl (by decide) hov0 (xi_in (by omega) (by omega)) ea4 ?_
              refine xi_aload_n (pc' := 223) (x := 1000000) kc_195_222 rfl rfl ?_
              refine xi_iload (pc' := 225) (x := x4) kc_195_223 rfl rfl ?_
              refine xi_iconst (pc' := 226) (v := 2) kc_195_225 rfl rfl ?_
              refine xi_iadd (pc' := 227) (v := v5) kc_195_226 rfl ev5 ?_
              refine xi_ialoadO (pc' := 228) (v := 0) kc_195_227 rfl (by decide) hov0 (xi_in (by omega) (by omega)) ea6 ?_
              refine xi_aload_n (pc' := 229) (x := 1000000) kc_195_228 rfl rfl ?_
              refine xi_iload (pc' := 231) (x := x4) kc_195_229 rfl rfl ?_
              refine xi_iconst (pc' := 232) (v := 3) kc_195_231 rfl rfl ?_
              refine xi_iadd (pc' := 233) (v := v7) kc_195_232 rfl ev7 ?_
              refine xi_ialoadO (pc' := 234) (v := a8) kc_195_233 rfl (by decide) hov0 (xi_in (by omega) (by omega)) ea8 ?_
              obtain ⟨u247, u248, u249, u250, u251, u252, u253, u254, u255, u256, u257, u258, u259, bu247, bu248, bu249, bu250, bu251, bu252, bu253, bu254, bu255, bu256, bu257, bu258, bu259, A260⟩ := xq_115 K.1
              have A261 := ((eh244.2.1 115 (by decide)).trans A260)
              refine xi_virtual (mj := 9) (as := [.int a4, .int 0, .int a8]) (st1 := []) (lv0 := [(0, .ref 115), (1, .int a4), (2, .int 0), (3, .int a8)]) kc_195_234 rfl rfl rfl rfl rfl A261 (Nat.le_of_ble_eq_true rfl) (hJ _ _ _ _ (by decide)) (xm_le ml_9 rfl) rfl ?_
              refine xi_aload_n (pc' := 1) (x := 115) kc_9_0 rfl rfl ?_
              refine xi_iconst (pc' := 2) (v := 0) kc_9_1 rfl rfl ?_
              refine xi_putfield (pc' := 5) (fs' := [.int 0, .int u248, .ref 116, .ref 117, .ref 118, .ref 119, .ref 120, .ref 121, .ref 122, .ref 123, .ref 124, .ref 125, .ref 126, .ref 127, .ref 128, .ref 129, .int u249, .ref 130, .int u250, .ref 131, .ref 132, .ref 133, .ref 134, .int u251, .ref 135, .ref 136, .ref 137, .ref 138, .ref 139, .ref 140, .ref 141, .ref 142, .int u252, .int u253, .int u254, .ref 143, .ref 144, .ref 145, .ref 146, .ref 147, .ref 148, .int u255, .ref 149, .ref 150, .ref 151, .int u256, .ref 152, .ref 153, .ref 154, .ref 155, .ref 156, .ref 157, .ref 158, .ref 159, .int u257, .ref 160, .int u258, .ref 161, .ref 162, .ref 163, .ref 164, .int u259, .ref 165, .ref 166]) kc_9_2 rfl rfl rfl A261 rfl rfl rfl (Nat.le_of_ble_eq_true rfl) rfl (fun hh263 eh262 => ?_)
              have K264 := xk_pf (k := 0) (v := 0) K245 (xk_wf (by decide +kernel)) xD_115 A261 rfl (by first | omega | decide) (by first | omega | decide) eh262 rfl
              have KR265 := xk_pf (k := 0) (v := 0) KR246 (xk_wf (by decide +kernel)) xD_115 A261 rfl (by first | omega | decide) (by first | omega | decide) eh262 rfl
              refine xi_iload_n (pc' := 6) (x := a4) kc_9_5 rfl rfl ?_
              refine xi_static (mj := 10) (as := [.int a4]) (st1 := []) (lv0 := [(0, .int a4)]) kc_9_6 rfl rfl (Nat.le_of_ble_eq_true rfl) rfl rfl (Nat.le_of_ble_eq_true rfl) (hJ _ _ _ _ (by decide)) (xm_le ml_10 rfl) rfl ?_
              refine xi_iload_n (pc' := 1) (x := a4) kc_10_0 rfl rfl ?_
              refine xi_iconst (pc' := 2) (v := 0) kc_10_1 rfl rfl ?_
              refine xi_iconst (pc' := 3) (v := 5) kc_10_2 rfl rfl ?_
              refine xi_static (mj := 11) (as := [.int a4, .int 0, .int 5]) (st1 := []) (lv0 := [(0, .int a4), (1, .int 0), (2, .int 5)]) kc_10_3 rfl rfl (Nat.le_of_ble_eq_true rfl) rfl rfl (Nat.le_of_ble_eq_true rfl) (hJ _ _ _ _ (by decide)) (xm_le ml_11 rfl) rfl ?_
              refine xi_iload_n (pc' := 1) (x := a4) kc_11_0 rfl rfl ?_
              refine xi_iload_n (pc' := 2) (x := 0) kc_11_1 rfl rfl ?_
              refine xi_cmf (pc' := 5) kc_11_2 rfl (xc_lt_f (X := a4.toInt) (Y := 0) rfl (by decide) (by omega)) ?_
              refine xi_iload_n (pc' := 6) (x := a4) kc_11_5 rfl rfl ?_
              refine xi_iload_n (pc' := 7) (x := 5) kc_11_6 rfl rfl ?_
              refine xi_cmf (pc' := 10) kc_11_7 rfl (xc_gt_f (X := a4.toInt) (Y := 5) rfl (by decide) (by omega)) ?_
              refine xi_iconst (pc' := 11) (v := 1) kc_11_10 rfl rfl ?_
              refine xi_goto (pc' := 15) kc_11_11 rfl ?_
              refine xi_ireturn kc_11_15 mr_11 rfl ?_
              show xw J ov 98 10 (6, [(0, .int a4)], [.int 1], hh263) _
              refine xi_ireturn kc_10_6 mr_10 rfl ?_
              show xw J ov 99 9 (9, [(0, .ref 115), (1, .int a4), (2, .int 0), (3, .int a8)], [.int 1], hh263) _
              refine xi_ift (pc' := 18) kc_9_9 rfl rfl ?_
              refine xi_iload_n (pc' := 19) (x := 0) kc_9_18 rfl rfl ?_
              refine xi_iconst (pc' := 20) (v := 0) kc_9_19 rfl rfl ?_
              refine xi_iconst (pc' := 21) (v := 5) kc_9_20 rfl rfl ?_
              refine xi_static (mj := 11) (as := [.int 0, .int 0, .int 5]) (st1 := []) (lv0 := [(0, .int 0), (1, .int 0), (2, .int 5)]) kc_9_21 rfl rfl (Nat.le_of_ble_eq_true rfl) rfl rfl (Nat.le_of_ble_eq_true rfl) (hJ _ _ _ _ (by decide)) (xm_le ml_11 rfl) rfl ?_
              refine xi_iload_n (pc' := 1) (x := 0) kc_11_0 rfl rfl ?_
              refine xi_iload_n (pc' := 2) (x := 0) kc_11_1 rfl rfl ?_
              refine xi_cmf (pc' := 5) kc_11_2 rfl rfl ?_
              refine xi_iload_n (pc' := 6) (x := 0) kc_11_5 rfl rfl ?_
              refine xi_iload_n (pc' := 7) (x := 5) kc_11_6 rfl rfl ?_
              refine xi_cmf (pc' := 10) kc_11_7 rfl rfl ?_
              refine xi_iconst (pc' := 11) (v := 1) kc_11_10 rfl rfl ?_
              refine xi_goto (pc' := 15) kc_11_11 rfl ?_
              refine xi_ireturn kc_11_15 mr_11 rfl ?_
              show xw J ov 99 9 (24, [(0, .ref 115), (1, .int a4), (2, .int 0), (3, .int a8)], [.int 1], hh263) _
              refine xi_ift (pc' := 34) kc_9_24 rfl rfl ?_
              refine xi_iload_n (pc' := 35) (x := a8) kc_9_34 rfl rfl ?_
              refine xi_iload_n (pc' := 36) (x := 0) kc_9_35 rfl rfl ?_
              refine xi_iff (pc' := 39) kc_9_36 rfl rfl ?_
              refine xi_bipush (pc' := 41) (v := 10) kc_9_39 rfl rfl ?_
              refine xi_goto (pc' := 45) kc_9_41 rfl ?_
              refine xi_cmf (pc' := 48) kc_9_45 rfl (xc_ge_f (X := a8.toInt) (Y := 10) rfl (by decide) (by omega)) ?_
              refine xi_aload_n (pc' := 49) (x := 115) kc_9_48 rfl rfl ?_
              refine xi_bipush (pc' := 51) (v := (-4)) kc_9_49 rfl rfl ?_
              refine xi_virtual (mj := 12) (as := [.int (-4)]) (st1 := []) (lv0 := [(0, .ref 115), (1, .int (-4))]) kc_9_51 rfl rfl rfl rfl rfl eh262.1 (Nat.le_of_ble_eq_true rfl) (hJ _ _ _ _ (by decide)) (xm_le ml_12 rfl) rfl ?_
              refine xi_aload_n (pc' := 1) (x := 115) kc_12_0 rfl rfl ?_
              refine xi_getfield (pc' := 4) (v := .ref 140) kc_12_1 rfl rfl rfl eh262.1 rfl ?_
              refine xi_iload_n (pc' := 5) (x := (-4)) kc_12_4 rfl rfl ?_
              refine xi_ineg (pc' := 6) (v := 4) kc_12_5 rfl rfl ?_
              refine xi_dup2 (pc' := 7) kc_12_6 rfl ⟨rfl, rfl⟩ ?_
              obtain ⟨y266, A266, hy266, ry266⟩ := xk_arr K.1 xD_140
              obtain ⟨v267, ev267, bv267, dv267⟩ := xj_get hy266 ry266 (i := 4) (by decide) (by decide)
              have A268 := ((eh262.2.1 140 (by decide)).trans ((eh244.2.1 140 (by decide)).trans A266))
              refine xi_iaload (pc' := 8) (v := v267) kc_12_7 rfl A268 (by decide) rfl (xi_in (by decide) (by rw [hy266]; decide)) ev267 ?_
              refine xi_iconst (pc' := 9) (v := 1) kc_12_8 rfl rfl ?_
              obtain ⟨v269, ev269⟩ : ∃ q : Int32, (v267 : Int32) + 1 = q := ⟨_, rfl⟩
              have rv269 := xc_rng v269
              refine xi_iadd (pc' := 10) (v := v269) kc_12_9 rfl ev269 ?_
              obtain ⟨y270, s270, hy270, ry270⟩ := xj_set (v := v269) hy266 ry266 4 (by first | omega | decide) (by first | omega | decide)
              refine xi_iastore (pc' := 11) (x' := y270) kc_12_10 rfl A268 rfl (xi_in (by decide) (by rw [hy266]; decide)) s270 (fun hh270 eh270 => ?_)
              have K271 := xk_pa K264 (xk_wa (by decide +kernel)) xD_140 hy270 ry270 eh270
              have KR272 := xk_pa KR265 (xk_wa (by decide +kernel)) xD_140 hy270 ry270 eh270
              refine xi_iload_n (pc' := 12) (x := (-4)) kc_12_11 rfl rfl ?_
              refine xi_ireturn kc_12_12 mr_12 rfl ?_
              show xw J ov 99 9 (54, [(0, .ref 115), (1, .int a4), (2, .int 0), (3, .int a8)], [.int (-4)], hh270) _
              refine xi_ireturn kc_9_54 mr_9 rfl ?_
              show xw J ov 100 195 (237, [(4, .int x4), (3, .ref 167), (2, .ref 115), (1, .ref 0), (0, .ref 1000000)], [.int (-4)], hh270) _
              refine xi_pop (pc' := 238) kc_195_237 rfl rfl ?_
              refine xi_goto (pc' := 1501) kc_195_238 rfl ?_
              obtain ⟨v273, ev273⟩ : ∃ q : Int32, x4 + 6 = q := ⟨_, rfl⟩
              have zv273 : v273.toInt = (x4.toInt + 6) := by rw [← ev273]; exact (xz_add (X := x4.toInt) (Y := 6) rfl (by decide) (by omega) (by omega)).trans (by omega)
              refine xi_iinc (pc' := 1504) (x := x4) (v := v273) (lv' := [(4, .int v273), (3, .ref 167), (2, .ref 115), (1, .ref 0), (0, .ref 1000000)]) kc_195_1501 rfl rfl ev273 rfl (xm_lt ml_195 rfl) ?_
              refine xi_goto (pc' := 23) kc_195_1504 rfl ?_
              exact kk v273 hh270 (by omega) K271 (xI_kept I KR272.2.1)
          by_cases c274 : a6.toInt = 1
          · have qa6 : a6 = 1 := xc_of (Eq.trans (by omega) (show (1 : Int) = (1 : Int32).toInt by decide))
            subst qa6
            refine xi_ialoadO (pc' := 35) (v := 0) kc_88_34 rfl (by decide) hov1 (xi_in (n := 6) (by decide) (by decide)) rfl ?_
            by_cases c275 : 0 ≤ a8.toInt
            · refine xi_cmt (pc' := 45) kc_88_35 rfl (xc_ge_t (X := a8.toInt) (Y := 0) rfl (by decide) (by omega)) ?_
              refine xi_iload_n (pc' := 46) (x := a8) kc_88_45 rfl rfl ?_
              refine xi_getstatic (pc' := 49) (j := 1000002) kc_88_46 rfl rfl ?_
              refine xi_iload_n (pc' := 50) (x := 1) kc_88_49 rfl rfl ?_
              refine xi_ialoadO (pc' := 51) (v := 30) kc_88_50 rfl (by decide) hov2 (xi_in (n := 6) (by decide) (by decide)) rfl ?_
              by_cases c276 : a8.toInt ≤ 30
              · refine xi_cmt (pc' := 61) kc_88_51 rfl (xc_le_t (X := a8.toInt) (Y := 30) rfl (by decide) (by omega)) ?_
                refine xi_iload_n (pc' := 62) (x := 1) kc_88_61 rfl rfl ?_
                refine xi_iconst (pc' := 63) (v := 5) kc_88_62 rfl rfl ?_
                refine xi_cmt (pc' := 90) kc_88_63 rfl rfl ?_
                refine xi_aload_n (pc' := 91) (x := 0) kc_88_90 rfl rfl ?_
                refine xi_getfield (pc' := 94) (v := .ref 66) kc_88_91 rfl rfl rfl A11 rfl ?_
                obtain ⟨u278, wl277, bu278, A279⟩ := xq_66 K.1
                refine xi_virtual (mj := 91) (as := []) (st1 := []) (lv0 := [(0, .ref 66)]) kc_88_94 rfl rfl rfl rfl rfl A279 (Nat.le_of_ble_eq_true rfl) (hJ _ _ _ _ (by decide)) (xm_le ml_91 rfl) rfl ?_
                refine xi_aload_n (pc' := 1) (x := 66) kc_91_0 rfl rfl ?_
                refine xi_lconst (pc' := 2) (v := 0) kc_91_1 rfl rfl ?_
                refine xi_putfield (pc' := 5) (fs' := [.ref 1, .ref 67, .ref 70, .ref 71, .ref 72, .ref 73, .ref 74, .long 0, .int u278]) kc_91_2 rfl rfl rfl A279 rfl rfl rfl (Nat.le_of_ble_eq_true rfl) rfl (fun hh281 eh280 => ?_)
                have K282 := xk_pl (k := 7) (v := 0) K (xk_wf (by decide +kernel)) xD_66 A279 rfl eh280 rfl
                have KR283 := xk_pl (k := 7) (v := 0) KR (xk_wf (by decide +kernel)) xD_66 A279 rfl eh280 rfl
                refine xi_return kc_91_5 mr_91 ?_
                show xw J ov 99 88 (97, [(0, .ref 0), (1, .int a4), (2, .int 1), (3, .int a8)], [], hh281) _
                refine xi_aload_n (pc' := 98) (x := 0) kc_88_97 rfl rfl ?_
                have A284 := ((eh280.2.1 0 (by decide)).trans A11)
                refine xi_getfield (pc' := 101) (v := .ref 1) kc_88_98 rfl rfl rfl A284 rfl ?_
                refine xi_iload_n (pc' := 102) (x := a4) kc_88_101 rfl rfl ?_
                refine xi_iload_n (pc' := 103) (x := 1) kc_88_102 rfl rfl ?_
                refine xi_iload_n (pc' := 104) (x := a8) kc_88_103 rfl rfl ?_
                obtain ⟨u285, u286, bu285, bu286, A287⟩ := xq_1 K.1
                have A288 := ((eh280.2.1 1 (by decide)).trans A287)
                refine xi_virtual (mj := 92) (as := [.int a4, .int 1, .int a8]) (st1 := []) (lv0 := [(0, .ref 1), (1, .int a4), (2, .int 1), (3, .int a8)]) kc_88_104 rfl rfl rfl rfl rfl A288 (Nat.le_of_ble_eq_true rfl) (hJ _ _ _ _ (by decide)) (xm_le ml_92 rfl) rfl ?_
                have F289 := xra_fr WWb (xl_c (eh280.2.1 121 (by decide)))
                have F290 := xg6_c I6 (fun c hc => eh280.2.1 c (Ne.symm (xk_nc hc rfl)))
                have F291 := xr5_c I5 (fun c hc => eh280.2.1 c (Ne.symm (xk_nc hc rfl)))
                have zc1 : (1 : Int32).toInt = 1 := by decide
                refine xw_chg hJ hov1 hov2 (d := 96) (x1 := a4) (x2 := 1) (x3 := a8) K282.1 F290 (by omega) (by omega) (fun r292 hh293 hr292 K294 I295 => ?_)
                have rr292 := xc_rng r292
                have nqr292 : Int32.toNatClampNeg 1 = 1 := by decide
                rw [nqr292] at hr292 I295
                have I2955 := xr5_k F291 K294 (by decide +kernel)
                have I295W := xra_fr F289 (K294.2.1 (121, 0) (by decide +kernel))
                have A296 := ((eh280.2.1 64 (by decide)).trans A1)
                have K297 := xk_tr K282 K294 (xsb_ok _ _ (by decide +kernel))
                have A298 := xk_eqa (q := 0) K294 (by decide +kernel) A296
                obtain ⟨u299, u300, bu299, bu300, A301⟩ := xq_0 K297.1
                have e302 : u10 = u300 := xk_eqi (q := 9) K294 (by decide +kernel) A284 A301 rfl rfl
                subst e302
                have e303 : u9 = u299 := xk_eqi (q := 8) K294 (by decide +kernel) A284 A301 rfl rfl
                subst e303
                obtain ⟨u304, u305, bu304, bu305, A306⟩ := xq_1 K297.1
                have e307 : u285 = u304 := xk_eqi (q := 5) K294 (by decide +kernel) A288 A306 rfl rfl
                subst e307
                show xw J ov 99 88 (107, [(0, .ref 0), (1, .int a4), (2, .int 1), (3, .int a8)], [.int r292], hh293) _
                refine xi_ireturn kc_88_107 mr_88 rfl ?_
                show xw J ov 100 195 (214, [(4, .int x4), (3, .ref 167), (2, .ref 115), (1, .ref 0), (0, .ref 1000000)], [.int r292], hh293) _
                refine xi_pop (pc' := 215) kc_195_214 rfl rfl ?_
                refine xi_aload_n (pc' := 216) (x := 115) kc_195_215 rfl rfl ?_
                refine xi_aload_n (pc' := 217) (x := 1000000) kc_195_216 rfl rfl ?_
                refine xi_iload (pc' := 219) (x := x4) kc_195_217 rfl rfl ?_
                refine xi_iconst (pc' := 220) (v := 1) kc_195_219 rfl rfl ?_
                refine xi_iadd (pc' := 221) (v := v3) kc_195_220 rfl ev3 ?_
                refine xi_ialoadO (pc' := 222) (v := a4) kc_195_221 rfl (by decide) hov0 (xi_in (by omega) (by omega)) ea4 ?_
                refine xi_aload_n (pc' := 223) (x := 1000000) kc_195_222 rfl rfl ?_
                refine xi_iload (pc' := 225) (x := x4) kc_195_223 rfl rfl ?_
                refine xi_iconst (pc' := 226) (v := 2) kc_195_225 rfl rfl ?_
                refine xi_iadd (pc' := 227) (v := v5) kc_195_226 rfl ev5 ?_
                refine xi_ialoadO (pc' := 228) (v := 1) kc_195_227 rfl (by decide) hov0 (xi_in (by omega) (by omega)) ea6 ?_
                refine xi_aload_n (pc' := 229) (x := 1000000) kc_195_228 rfl rfl ?_
                refine xi_iload (pc' := 231) (x := x4) kc_195_229 rfl rfl ?_
                refine xi_iconst (pc' := 232) (v := 3) kc_195_231 rfl rfl ?_
                refine xi_iadd (pc' := 233) (v := v7) kc_195_232 rfl ev7 ?_
                refine xi_ialoadO (pc' := 234) (v := a8) kc_195_233 rfl (by decide) hov0 (xi_in (by omega) (by omega)) ea8 ?_
                obtain ⟨u308, u309, u310, u311, u312, u313, u314, u315, u316, u317, u318, u319, u320, bu308, bu309, bu310, bu311, bu312, bu313, bu314, bu315, bu316, bu317, bu318, bu319, bu320, A321⟩ := xq_115 K297.1
                refine xi_virtual (mj := 9) (as := [.int a4, .int 1, .int a8]) (st1 := []) (lv0 := [(0, .ref 115), (1, .int a4), (2, .int 1), (3, .int a8)]) kc_195_234 rfl rfl rfl rfl rfl A321 (Nat.le_of_ble_eq_true rfl) (hJ _ _ _ _ (by decide)) (xm_le ml_9 rfl) rfl ?_
                refine xi_aload_n (pc' := 1) (x := 115) kc_9_0 rfl rfl ?_
                refine xi_iconst (pc' := 2) (v := 0) kc_9_1 rfl rfl ?_
                refine xi_putfield (pc' := 5) (fs' := [.int 0, .int u309, .ref 116, .ref 117, .ref 118, .ref 119, .ref 120, .ref 121, .ref 122, .ref 123, .ref 124, .ref 125, .ref 126, .ref 127, .ref 128, .ref 129, .int u310, .ref 130, .int u311, .ref 131, .ref 132, .ref 133, .ref 134, .int u312, .ref 135, .ref 136, .ref 137, .ref 138, .ref 139, .ref 140, .ref 141, .ref 142, .int u313, .int u314, .int u315, .ref 143, .ref 144, .ref 145, .ref 146, .ref 147, .ref 148, .int u316, .ref 149, .ref 150, .ref 151, .int u317, .ref 152, .ref 153, .ref 154, .ref 155, .ref 156, .ref 157, .ref 158, .ref 159, .int u318, .ref 160, .int u319, .ref 161, .ref 162, .ref 163, .ref 164, .int u320, .ref 165, .ref 166]) kc_9_2 rfl rfl rfl A321 rfl rfl rfl (Nat.le_of_ble_eq_true rfl) rfl (fun hh323 eh322 => ?_)
                have K324 := xk_pf (k := 0) (v := 0) K297 (xk_wf (by decide +kernel)) xD_115 A321 rfl (by first | omega | decide) (by first | omega | decide) eh322 rfl
                refine xi_iload_n (pc' := 6) (x := a4) kc_9_5 rfl rfl ?_
                refine xi_static (mj := 10) (as := [.int a4]) (st1 := []) (lv0 := [(0, .int a4)]) kc_9_6 rfl rfl (Nat.le_of_ble_eq_true rfl) rfl rfl (Nat.le_of_ble_eq_true rfl) (hJ _ _ _ _ (by decide)) (xm_le ml_10 rfl) rfl ?_
                refine xi_iload_n (pc' := 1) (x := a4) kc_10_0 rfl rfl ?_
                refine xi_iconst (pc' := 2) (v := 0) kc_10_1 rfl rfl ?_
                refine xi_iconst (pc' := 3) (v := 5) kc_10_2 rfl rfl ?_
                refine xi_static (mj := 11) (as := [.int a4, .int 0, .int 5]) (st1 := []) (lv0 := [(0, .int a4), (1, .int 0), (2, .int 5)]) kc_10_3 rfl rfl (Nat.le_of_ble_eq_true rfl) rfl rfl (Nat.le_of_ble_eq_true rfl) (hJ _ _ _ _ (by decide)) (xm_le ml_11 rfl) rfl ?_
                refine xi_iload_n (pc' := 1) (x := a4) kc_11_0 rfl rfl ?_
                refine xi_iload_n (pc' := 2) (x := 0) kc_11_1 rfl rfl ?_
                refine xi_cmf (pc' := 5) kc_11_2 rfl (xc_lt_f (X := a4.toInt) (Y := 0) rfl (by decide) (by omega)) ?_
                refine xi_iload_n (pc' := 6) (x := a4) kc_11_5 rfl rfl ?_
                refine xi_iload_n (pc' := 7) (x := 5) kc_11_6 rfl rfl ?_
                refine xi_cmf (pc' := 10) kc_11_7 rfl (xc_gt_f (X := a4.toInt) (Y := 5) rfl (by decide) (by omega)) ?_
                refine xi_iconst (pc' := 11) (v := 1) kc_11_10 rfl rfl ?_
                refine xi_goto (pc' := 15) kc_11_11 rfl ?_
                refine xi_ireturn kc_11_15 mr_11 rfl ?_
                show xw J ov 98 10 (6, [(0, .int a4)], [.int 1], hh323) _
                refine xi_ireturn kc_10_6 mr_10 rfl ?_
                show xw J ov 99 9 (9, [(0, .ref 115), (1, .int a4), (2, .int 1), (3, .int a8)], [.int 1], hh323) _
                refine xi_ift (pc' := 18) kc_9_9 rfl rfl ?_
                refine xi_iload_n (pc' := 19) (x := 1) kc_9_18 rfl rfl ?_
                refine xi_iconst (pc' := 20) (v := 0) kc_9_19 rfl rfl ?_
                refine xi_iconst (pc' := 21) (v := 5) kc_9_20 rfl rfl ?_
                refine xi_static (mj := 11) (as := [.int 1, .int 0, .int 5]) (st1 := []) (lv0 := [(0, .int 1), (1, .int 0), (2, .int 5)]) kc_9_21 rfl rfl (Nat.le_of_ble_eq_true rfl) rfl rfl (Nat.le_of_ble_eq_true rfl) (hJ _ _ _ _ (by decide)) (xm_le ml_11 rfl) rfl ?_
                refine xi_iload_n (pc' := 1) (x := 1) kc_11_0 rfl rfl ?_
                refine xi_iload_n (pc' := 2) (x := 0) kc_11_1 rfl rfl ?_
                refine xi_cmf (pc' := 5) kc_11_2 rfl rfl ?_
                refine xi_iload_n (pc' := 6) (x := 1) kc_11_5 rfl rfl ?_
                refine xi_iload_n (pc' := 7) (x := 5) kc_11_6 rfl rfl ?_
                refine xi_cmf (pc' := 10) kc_11_7 rfl rfl ?_
                refine xi_iconst (pc' := 11) (v := 1) kc_11_10 rfl rfl ?_
                refine xi_goto (pc' := 15) kc_11_11 rfl ?_
                refine xi_ireturn kc_11_15 mr_11 rfl ?_
                show xw J ov 99 9 (24, [(0, .ref 115), (1, .int a4), (2, .int 1), (3, .int a8)], [.int 1], hh323) _
                refine xi_ift (pc' := 34) kc_9_24 rfl rfl ?_
                refine xi_iload_n (pc' := 35) (x := a8) kc_9_34 rfl rfl ?_
                refine xi_iload_n (pc' := 36) (x := 1) kc_9_35 rfl rfl ?_
                refine xi_ift (pc' := 44) kc_9_36 rfl rfl ?_
                refine xi_iconst (pc' := 45) (v := 0) kc_9_44 rfl rfl ?_
                refine xi_cmt (pc' := 55) kc_9_45 rfl (xc_ge_t (X := a8.toInt) (Y := 0) rfl (by decide) (by omega)) ?_
                refine xi_iload_n (pc' := 56) (x := a8) kc_9_55 rfl rfl ?_
                refine xi_iload_n (pc' := 57) (x := 1) kc_9_56 rfl rfl ?_
                refine xi_ift (pc' := 65) kc_9_57 rfl rfl ?_
                refine xi_iload_n (pc' := 66) (x := 1) kc_9_65 rfl rfl ?_
                refine xi_iconst (pc' := 67) (v := 1) kc_9_66 rfl rfl ?_
                refine xi_cmf (pc' := 70) kc_9_67 rfl rfl ?_
                refine xi_bipush (pc' := 72) (v := 30) kc_9_70 rfl rfl ?_
                refine xi_goto (pc' := 96) kc_9_72 rfl ?_
                refine xi_cmt (pc' := 106) kc_9_96 rfl (xc_le_t (X := a8.toInt) (Y := 30) rfl (by decide) (by omega)) ?_
                refine xi_aload_n (pc' := 107) (x := 115) kc_9_106 rfl rfl ?_
                refine xi_iload_n (pc' := 108) (x := a4) kc_9_107 rfl rfl ?_
                refine xi_iload_n (pc' := 109) (x := 1) kc_9_108 rfl rfl ?_
                refine xi_virtual (mj := 13) (as := [.int a4, .int 1]) (st1 := []) (lv0 := [(0, .ref 115), (1, .int a4), (2, .int 1)]) kc_9_109 rfl rfl rfl rfl rfl eh322.1 (Nat.le_of_ble_eq_true rfl) (hJ _ _ _ _ (by decide)) (xm_le ml_13 rfl) rfl ?_
                have F325 := xg6_c I295 (fun c hc => eh322.2.1 c (Ne.symm (xk_nc hc rfl)))
                have F326 := xr5_c I2955 (fun c hc => eh322.2.1 c (Ne.symm (xk_nc hc rfl)))
                have F327 := xra_fr I295W (xl_c (eh322.2.1 121 (by decide)))
                have zc1 : (1 : Int32).toInt = 1 := by decide
                refine xw_rn hJ hov1 hov2 (d := 97) (x1 := a4) (x2 := 1) K324.1 F326 (by omega) (by omega) (fun r328 hr328 => ?_)
                have rr328 := xc_rng r328
                have nqr328 : Int32.toNatClampNeg 1 = 1 := by decide
                rw [nqr328] at hr328
                show xw J ov 99 9 (112, [(0, .ref 115), (1, .int a4), (2, .int 1), (3, .int a8)], [.int r328], hh323) _
                refine xi_istore (pc' := 114) (lv' := [(4, .int r328), (0, .ref 115), (1, .int a4), (2, .int 1), (3, .int a8)]) kc_9_112 rfl rfl (xm_lt ml_9 rfl) ?_
                refine xi_aload_n (pc' := 115) (x := 115) kc_9_114 rfl rfl ?_
                refine xi_iload_n (pc' := 116) (x := a4) kc_9_115 rfl rfl ?_
                refine xi_iload_n (pc' := 117) (x := 1) kc_9_116 rfl rfl ?_
                refine xi_iload_n (pc' := 118) (x := a8) kc_9_117 rfl rfl ?_
                refine xi_virtual (mj := 14) (as := [.int a4, .int 1, .int a8]) (st1 := []) (lv0 := [(0, .ref 115), (1, .int a4), (2, .int 1), (3, .int a8)]) kc_9_118 rfl rfl rfl rfl rfl eh322.1 (Nat.le_of_ble_eq_true rfl) (hJ _ _ _ _ (by decide)) (xm_le ml_14 rfl) rfl ?_
                refine xw_te1 hJ hov1 hov2 (d := 97) (x1 := a4) (x3 := a8) K324.1 F326 F327 (by omega) (by omega) (fun hh329 K330 F331 F332 => ?_)
                have F333 := xg6_k F325 K330 (by decide +kernel)
                have A334 := ((eh322.2.1 64 (by decide)).trans A298)
                have A335 := ((eh322.2.1 0 (by decide)).trans A301)
                have A336 := ((eh322.2.1 1 (by decide)).trans A306)
                have K337 := xk_tr K324 K330 (xsb_ok _ _ (by decide +kernel))
                have A338 := xk_eqa (q := 0) K330 (by decide +kernel) A334
                obtain ⟨u339, u340, bu339, bu340, A341⟩ := xq_0 K337.1
                have e342 : u10 = u340 := xk_eqi (q := 9) K330 (by decide +kernel) A335 A341 rfl rfl
                subst e342
                have e343 : u9 = u339 := xk_eqi (q := 8) K330 (by decide +kernel) A335 A341 rfl rfl
                subst e343
                obtain ⟨u344, u345, bu344, bu345, A346⟩ := xq_1 K337.1
                have e347 : u285 = u344 := xk_eqi (q := 5) K330 (by decide +kernel) A336 A346 rfl rfl
                subst e347
                obtain ⟨u348, u349, u350, u351, u352, u353, u354, u355, u356, u357, u358, u359, u360, bu348, bu349, bu350, bu351, bu352, bu353, bu354, bu355, bu356, bu357, bu358, bu359, bu360, A361⟩ := xq_115 K337.1
                have e362 : u309 = u349 := xk_eqi (q := 1) K330 (by decide +kernel) eh322.1 A361 rfl rfl
                subst e362
                have e363 : u312 = u352 := xk_eqi (q := 23) K330 (by decide +kernel) eh322.1 A361 rfl rfl
                subst e363
                have e364 : u315 = u355 := xk_eqi (q := 34) K330 (by decide +kernel) eh322.1 A361 rfl rfl
                subst e364
                have e365 : u313 = u353 := xk_eqi (q := 32) K330 (by decide +kernel) eh322.1 A361 rfl rfl
                subst e365
                show xw J ov 99 9 (121, [(4, .int r328), (0, .ref 115), (1, .int a4), (2, .int 1), (3, .int a8)], [], hh329) _
                refine xi_iload (pc' := 123) (x := r328) kc_9_121 rfl rfl ?_
                refine xi_ireturn kc_9_123 mr_9 rfl ?_
                show xw J ov 100 195 (237, [(4, .int x4), (3, .ref 167), (2, .ref 115), (1, .ref 0), (0, .ref 1000000)], [.int r328], hh329) _
                refine xi_pop (pc' := 238) kc_195_237 rfl rfl ?_
                refine xi_goto (pc' := 1501) kc_195_238 rfl ?_
                obtain ⟨v366, ev366⟩ : ∃ q : Int32, x4 + 6 = q := ⟨_, rfl⟩
                have zv366 : v366.toInt = (x4.toInt + 6) := by rw [← ev366]; exact (xz_add (X := x4.toInt) (Y := 6) rfl (by decide) (by omega) (by omega)).trans (by omega)
                refine xi_iinc (pc' := 1504) (x := x4) (v := v366) (lv' := [(4, .int v366), (3, .ref 167), (2, .ref 115), (1, .ref 0), (0, .ref 1000000)]) kc_195_1501 rfl rfl ev366 rfl (xm_lt ml_195 rfl) ?_
                refine xi_goto (pc' := 23) kc_195_1504 rfl ?_
                exact kk v366 hh329 (by omega) K337 ⟨((K337.2.1 (0, 9) (by decide +kernel)).trans (I.1.trans (K337.2.1 (115, 1) (by decide +kernel)).symm)), ⟨w, xra_mk A338 R2, F332, WWr⟩, ⟨_, F333, F331⟩, (by rw [(K337.2.1 (13, 0) (by decide +kernel)), (K337.2.1 (122, 0) (by decide +kernel))]; exact I.2.2.2.1), (by rw [(K337.2.1 (16, 0) (by decide +kernel)), (K337.2.1 (122, 0) (by decide +kernel))]; exact I.2.2.2.2.1), (by rw [(K337.2.1 (19, 0) (by decide +kernel)), (K337.2.1 (122, 0) (by decide +kernel))]; exact I.2.2.2.2.2.1), (by rw [(K337.2.1 (22, 0) (by decide +kernel)), (K337.2.1 (122, 0) (by decide +kernel))]; exact I.2.2.2.2.2.2.1), (by rw [(K337.2.1 (25, 0) (by decide +kernel)), (K337.2.1 (122, 0) (by decide +kernel))]; exact I.2.2.2.2.2.2.2.1), (by rw [(K337.2.1 (28, 0) (by decide +kernel)), (K337.2.1 (122, 0) (by decide +kernel))]; exact I.2.2.2.2.2.2.2.2.1), (by rw [(K337.2.1 (6, 0) (by decide +kernel)), (K337.2.1 (123, 0) (by decide +kernel))]; exact I.2.2.2.2.2.2.2.2.2.1), (by rw [(K337.2.1 (9, 0) (by decide +kernel)), (K337.2.1 (124, 0) (by decide +kernel))]; exact I.2.2.2.2.2.2.2.2.2.2.1), (by rw [(K337.2.1 (7, 0) (by decide +kernel)), (K337.2.1 (6, 0) (by decide +kernel))]; exact I.2.2.2.2.2.2.2.2.2.2.2.1), (by rw [(K337.2.1 (10, 0) (by decide +kernel)), (K337.2.1 (9, 0) (by decide +kernel))]; exact I.2.2.2.2.2.2.2.2.2.2.2.2.1), ((K337.2.1 (5, 0) (by decide +kernel)).trans I.2.2.2.2.2.2.2.2.2.2.2.2.2.1), ((K337.2.1 (8, 0) (by decide +kernel)).trans I.2.2.2.2.2.2.2.2.2.2.2.2.2.2.1), (xGR_fr I.2.2.2.2.2.2.2.2.2.2.2.2.2.2.2.1 K337.2.1 (by decide +kernel) (by decide +kernel)), (xGR_fr I.2.2.2.2.2.2.2.2.2.2.2.2.2.2.2.2.1 K337.2.1 (by decide +kernel) (by decide +kernel)), ((K337.2.1 (1, 5) (by decide +kernel)).trans (I.2.2.2.2.2.2.2.2.2.2.2.2.2.2.2.2.2.1.trans (K337.2.1 (115, 23) (by decide +kernel)).symm)), (xGR_fr I.2.2.2.2.2.2.2.2.2.2.2.2.2.2.2.2.2.2.1 K337.2.1 (by decide +kernel) (by decide +kernel)), (xGR_fr I.2.2.2.2.2.2.2.2.2.2.2.2.2.2.2.2.2.2.2.1 K337.2.1 (by decide +kernel) (by decide +kernel)), (xGR_fr I.2.2.2.2.2.2.2.2.2.2.2.2.2.2.2.2.2.2.2.2.1 K337.2.1 (by decide +kernel) (by decide +kernel)), (xGR_fr I.2.2.2.2.2.2.2.2.2.2.2.2.2.2.2.2.2.2.2.2.2.1 K337.2.1 (by decide +kernel) (by decide +kernel)), (by rw [(K337.2.1 (63, 2) (by decide +kernel)), (K337.2.1 (139, 0) (by decide +kernel)), (K337.2.1 (1, 5) (by decide +kernel))]; exact I.2.2.2.2.2.2.2.2.2.2.2.2.2.2.2.2.2.2.2.2.2.2.1), ((K337.2.1 (0, 8) (by decide +kernel)).trans (I.2.2.2.2.2.2.2.2.2.2.2.2.2.2.2.2.2.2.2.2.2.2.2.1.trans (K337.2.1 (115, 34) (by decide +kernel)).symm)), (xGR_fr I.2.2.2.2.2.2.2.2.2.2.2.2.2.2.2.2.2.2.2.2.2.2.2.2.1 K337.2.1 (by decide +kernel) (by decide +kernel)), (xGR_fr I.2.2.2.2.2.2.2.2.2.2.2.2.2.2.2.2.2.2.2.2.2.2.2.2.2.1 K337.2.1 (by decide +kernel) (by decide +kernel)), (xGR_fr I.2.2.2.2.2.2.2.2.2.2.2.2.2.2.2.2.2.2.2.2.2.2.2.2.2.2.1 K337.2.1 (by decide +kernel) (by decide +kernel)), (xGR_fr I.2.2.2.2.2.2.2.2.2.2.2.2.2.2.2.2.2.2.2.2.2.2.2.2.2.2.2.1 K337.2.1 (by decide +kernel) (by decide +kernel)), (xts_fr I.2.2.2.2.2.2.2.2.2.2.2.2.2.2.2.2.2.2.2.2.2.2.2.2.2.2.2.2.1 (fun l hl => K337.2.1 l (xk_el (by decide +kernel) hl))), ((K337.2.1 (63, 3) (by decide +kernel)).trans I.2.2.2.2.2.2.2.2.2.2.2.2.2.2.2.2.2.2.2.2.2.2.2.2.2.2.2.2.2)⟩
              · refine xi_cmf (pc' := 54) kc_88_51 rfl (xc_le_f (X := a8.toInt) (Y := 30) rfl (by decide) (by omega)) ?_
                refine xi_aload_n (pc' := 55) (x := 0) kc_88_54 rfl rfl ?_
                refine xi_bipush (pc' := 57) (v := (-6)) kc_88_55 rfl rfl ?_
                refine xi_virtual (mj := 90) (as := [.int (-6)]) (st1 := []) (lv0 := [(0, .ref 0), (1, .int (-6))]) kc_88_57 rfl rfl rfl rfl rfl A11 (Nat.le_of_ble_eq_true rfl) (hJ _ _ _ _ (by decide)) (xm_le ml_90 rfl) rfl ?_
                refine xi_iload_n (pc' := 1) (x := (-6)) kc_90_0 rfl rfl ?_
                refine xi_ineg (pc' := 2) (v := 6) kc_90_1 rfl rfl ?_
                refine xi_istore_n (pc' := 3) (lv' := [(2, .int 6), (0, .ref 0), (1, .int (-6))]) kc_90_2 rfl rfl (xm_lt ml_90 rfl) ?_
                refine xi_iload_n (pc' := 4) (x := 6) kc_90_3 rfl rfl ?_
                refine xi_iff (pc' := 7) kc_90_4 rfl rfl ?_
                refine xi_iload_n (pc' := 8) (x := 6) kc_90_7 rfl rfl ?_
                refine xi_aload_n (pc' := 9) (x := 0) kc_90_8 rfl rfl ?_
                refine xi_getfield (pc' := 12) (v := .ref 94) kc_90_9 rfl rfl rfl A11 rfl ?_
                obtain ⟨y367, A367, hy367, ry367⟩ := xk_arr K.1 xD_94
                refine xi_arraylength (pc' := 13) (n := 7) (v := 7) kc_90_12 rfl (xl_lenI (by decide) (by decide) A367 hy367) rfl ?_
                refine xi_cmf (pc' := 16) kc_90_13 rfl rfl ?_
                refine xi_aload_n (pc' := 17) (x := 0) kc_90_16 rfl rfl ?_
                refine xi_getfield (pc' := 20) (v := .ref 94) kc_90_17 rfl rfl rfl A11 rfl ?_
                refine xi_iload_n (pc' := 21) (x := 6) kc_90_20 rfl rfl ?_
                refine xi_dup2 (pc' := 22) kc_90_21 rfl ⟨rfl, rfl⟩ ?_
                obtain ⟨v368, ev368, bv368, dv368⟩ := xj_get hy367 ry367 (i := 6) (by decide) (by decide)
                refine xi_iaload (pc' := 23) (v := v368) kc_90_22 rfl A367 (by decide) rfl (xi_in (by decide) (by rw [hy367]; decide)) ev368 ?_
                refine xi_iconst (pc' := 24) (v := 1) kc_90_23 rfl rfl ?_
                obtain ⟨v369, ev369⟩ : ∃ q : Int32, (v368 : Int32) + 1 = q := ⟨_, rfl⟩
                have rv369 := xc_rng v369
                refine xi_iadd (pc' := 25) (v := v369) kc_90_24 rfl ev369 ?_
                obtain ⟨y370, s370, hy370, ry370⟩ := xj_set (v := v369) hy367 ry367 6 (by first | omega | decide) (by first | omega | decide)
                refine xi_iastore (pc' := 26) (x' := y370) kc_90_25 rfl A367 rfl (xi_in (by decide) (by rw [hy367]; decide)) s370 (fun hh370 eh370 => ?_)
                have K371 := xk_pa K (xk_wa (by decide +kernel)) xD_94 hy370 ry370 eh370
                have KR372 := xk_pa KR (xk_wa (by decide +kernel)) xD_94 hy370 ry370 eh370
                refine xi_iload_n (pc' := 27) (x := (-6)) kc_90_26 rfl rfl ?_
                refine xi_ireturn kc_90_27 mr_90 rfl ?_
                show xw J ov 99 88 (60, [(0, .ref 0), (1, .int a4), (2, .int 1), (3, .int a8)], [.int (-6)], hh370) _
                refine xi_ireturn kc_88_60 mr_88 rfl ?_
                show xw J ov 100 195 (214, [(4, .int x4), (3, .ref 167), (2, .ref 115), (1, .ref 0), (0, .ref 1000000)], [.int (-6)], hh370) _
                refine xi_pop (pc' := 215) kc_195_214 rfl rfl ?_
                refine xi_aload_n (pc' := 216) (x := 115) kc_195_215 rfl rfl ?_
                refine xi_aload_n (pc' := 217) (x := 1000000) kc_195_216 rfl rfl ?_
                refine xi_iload (pc' := 219) (x := x4) kc_195_217 rfl rfl ?_
                refine xi_iconst (pc' := 220) (v := 1) kc_195_219 rfl rfl ?_
                refine xi_iadd (pc' := 221) (v := v3) kc_195_220 rfl ev3 ?_
                refine xi_ialoadO (pc' := 222) (v := a4) kc_195_221 rfl (by decide) hov0 (xi_in (by omega) (by omega)) ea4 ?_
                refine xi_aload_n (pc' := 223) (x := 1000000) kc_195_222 rfl rfl ?_
                refine xi_iload (pc' := 225) (x := x4) kc_195_223 rfl rfl ?_
                refine xi_iconst (pc' := 226) (v := 2) kc_195_225 rfl rfl ?_
                refine xi_iadd (pc' := 227) (v := v5) kc_195_226 rfl ev5 ?_
                refine xi_ialoadO (pc' := 228) (v := 1) kc_195_227 rfl (by decide) hov0 (xi_in (by omega) (by omega)) ea6 ?_
                refine xi_aload_n (pc' := 229) (x := 1000000) kc_195_228 rfl rfl ?_
                refine xi_iload (pc' := 231) (x := x4) kc_195_229 rfl rfl ?_
                refine xi_iconst (pc' := 232) (v := 3) kc_195_231 rfl rfl ?_
                refine xi_iadd (pc' := 233) (v := v7) kc_195_232 rfl ev7 ?_
                refine xi_ialoadO (pc' := 234) (v := a8) kc_195_233 rfl (by decide) hov0 (xi_in (by omega) (by omega)) ea8 ?_
                obtain ⟨u373, u374, u375, u376, u377, u378, u379, u380, u381, u382, u383, u384, u385, bu373, bu374, bu375, bu376, bu377, bu378, bu379, bu380, bu381, bu382, bu383, bu384, bu385, A386⟩ := xq_115 K.1
                have A387 := ((eh370.2.1 115 (by decide)).trans A386)
                refine xi_virtual (mj := 9) (as := [.int a4, .int 1, .int a8]) (st1 := []) (lv0 := [(0, .ref 115), (1, .int a4), (2, .int 1), (3, .int a8)]) kc_195_234 rfl rfl rfl rfl rfl A387 (Nat.le_of_ble_eq_true rfl) (hJ _ _ _ _ (by decide)) (xm_le ml_9 rfl) rfl ?_
                refine xi_aload_n (pc' := 1) (x := 115) kc_9_0 rfl rfl ?_
                refine xi_iconst (pc' := 2) (v := 0) kc_9_1 rfl rfl ?_
                refine xi_putfield (pc' := 5) (fs' := [.int 0, .int u374, .ref 116, .ref 117, .ref 118, .ref 119, .ref 120, .ref 121, .ref 122, .ref 123, .ref 124, .ref 125, .ref 126, .ref 127, .ref 128, .ref 129, .int u375, .ref 130, .int u376, .ref 131, .ref 132, .ref 133, .ref 134, .int u377, .ref 135, .ref 136, .ref 137, .ref 138, .ref 139, .ref 140, .ref 141, .ref 142, .int u378, .int u379, .int u380, .ref 143, .ref 144, .ref 145, .ref 146, .ref 147, .ref 148, .int u381, .ref 149, .ref 150, .ref 151, .int u382, .ref 152, .ref 153, .ref 154, .ref 155, .ref 156, .ref 157, .ref 158, .ref 159, .int u383, .ref 160, .int u384, .ref 161, .ref 162, .ref 163, .ref 164, .int u385, .ref 165, .ref 166]) kc_9_2 rfl rfl rfl A387 rfl rfl rfl (Nat.le_of_ble_eq_true rfl) rfl (fun hh389 eh388 => ?_)
                have K390 := xk_pf (k := 0) (v := 0) K371 (xk_wf (by decide +kernel)) xD_115 A387 rfl (by first | omega | decide) (by first | omega | decide) eh388 rfl
                have KR391 := xk_pf (k := 0) (v := 0) KR372 (xk_wf (by decide +kernel)) xD_115 A387 rfl (by first | omega | decide) (by first | omega | decide) eh388 rfl
                refine xi_iload_n (pc' := 6) (x := a4) kc_9_5 rfl rfl ?_
                refine xi_static (mj := 10) (as := [.int a4]) (st1 := []) (lv0 := [(0, .int a4)]) kc_9_6 rfl rfl (Nat.le_of_ble_eq_true rfl) rfl rfl (Nat.le_of_ble_eq_true rfl) (hJ _ _ _ _ (by decide)) (xm_le ml_10 rfl) rfl ?_
                refine xi_iload_n (pc' := 1) (x := a4) kc_10_0 rfl rfl ?_
                refine xi_iconst (pc' := 2) (v := 0) kc_10_1 rfl rfl ?_
                refine xi_iconst (pc' := 3) (v := 5) kc_10_2 rfl rfl ?_
                refine xi_static (mj := 11) (as := [.int a4, .int 0, .int 5]) (st1 := []) (lv0 := [(0, .int a4), (1, .int 0), (2, .int 5)]) kc_10_3 rfl rfl (Nat.le_of_ble_eq_true rfl) rfl rfl (Nat.le_of_ble_eq_true rfl) (hJ _ _ _ _ (by decide)) (xm_le ml_11 rfl) rfl ?_
                refine xi_iload_n (pc' := 1) (x := a4) kc_11_0 rfl rfl ?_
                refine xi_iload_n (pc' := 2) (x := 0) kc_11_1 rfl rfl ?_
                refine xi_cmf (pc' := 5) kc_11_2 rfl (xc_lt_f (X := a4.toInt) (Y := 0) rfl (by decide) (by omega)) ?_
                refine xi_iload_n (pc' := 6) (x := a4) kc_11_5 rfl rfl ?_
                refine xi_iload_n (pc' := 7) (x := 5) kc_11_6 rfl rfl ?_
                refine xi_cmf (pc' := 10) kc_11_7 rfl (xc_gt_f (X := a4.toInt) (Y := 5) rfl (by decide) (by omega)) ?_
                refine xi_iconst (pc' := 11) (v := 1) kc_11_10 rfl rfl ?_
                refine xi_goto (pc' := 15) kc_11_11 rfl ?_
                refine xi_ireturn kc_11_15 mr_11 rfl ?_
                show xw J ov 98 10 (6, [(0, .int a4)], [.int 1], hh389) _
                refine xi_ireturn kc_10_6 mr_10 rfl ?_
                show xw J ov 99 9 (9, [(0, .ref 115), (1, .int a4), (2, .int 1), (3, .int a8)], [.int 1], hh389) _
                refine xi_ift (pc' := 18) kc_9_9 rfl rfl ?_
                refine xi_iload_n (pc' := 19) (x := 1) kc_9_18 rfl rfl ?_
                refine xi_iconst (pc' := 20) (v := 0) kc_9_19 rfl rfl ?_
                refine xi_iconst (pc' := 21) (v := 5) kc_9_20 rfl rfl ?_
                refine xi_static (mj := 11) (as := [.int 1, .int 0, .int 5]) (st1 := []) (lv0 := [(0, .int 1), (1, .int 0), (2, .int 5)]) kc_9_21 rfl rfl (Nat.le_of_ble_eq_true rfl) rfl rfl (Nat.le_of_ble_eq_true rfl) (hJ _ _ _ _ (by decide)) (xm_le ml_11 rfl) rfl ?_
                refine xi_iload_n (pc' := 1) (x := 1) kc_11_0 rfl rfl ?_
                refine xi_iload_n (pc' := 2) (x := 0) kc_11_1 rfl rfl ?_
                refine xi_cmf (pc' := 5) kc_11_2 rfl rfl ?_
                refine xi_iload_n (pc' := 6) (x := 1) kc_11_5 rfl rfl ?_
                refine xi_iload_n (pc' := 7) (x := 5) kc_11_6 rfl rfl ?_
                refine xi_cmf (pc' := 10) kc_11_7 rfl rfl ?_
                refine xi_iconst (pc' := 11) (v := 1) kc_11_10 rfl rfl ?_
                refine xi_goto (pc' := 15) kc_11_11 rfl ?_
                refine xi_ireturn kc_11_15 mr_11 rfl ?_
                show xw J ov 99 9 (24, [(0, .ref 115), (1, .int a4), (2, .int 1), (3, .int a8)], [.int 1], hh389) _
                refine xi_ift (pc' := 34) kc_9_24 rfl rfl ?_
                refine xi_iload_n (pc' := 35) (x := a8) kc_9_34 rfl rfl ?_
                refine xi_iload_n (pc' := 36) (x := 1) kc_9_35 rfl rfl ?_
                refine xi_ift (pc' := 44) kc_9_36 rfl rfl ?_
                refine xi_iconst (pc' := 45) (v := 0) kc_9_44 rfl rfl ?_
                refine xi_cmt (pc' := 55) kc_9_45 rfl (xc_ge_t (X := a8.toInt) (Y := 0) rfl (by decide) (by omega)) ?_
                refine xi_iload_n (pc' := 56) (x := a8) kc_9_55 rfl rfl ?_
                refine xi_iload_n (pc' := 57) (x := 1) kc_9_56 rfl rfl ?_
                refine xi_ift (pc' := 65) kc_9_57 rfl rfl ?_
                refine xi_iload_n (pc' := 66) (x := 1) kc_9_65 rfl rfl ?_
                refine xi_iconst (pc' := 67) (v := 1) kc_9_66 rfl rfl ?_
                refine xi_cmf (pc' := 70) kc_9_67 rfl rfl ?_
                refine xi_bipush (pc' := 72) (v := 30) kc_9_70 rfl rfl ?_
                refine xi_goto (pc' := 96) kc_9_72 rfl ?_
                refine xi_cmf (pc' := 99) kc_9_96 rfl (xc_le_f (X := a8.toInt) (Y := 30) rfl (by decide) (by omega)) ?_
                refine xi_aload_n (pc' := 100) (x := 115) kc_9_99 rfl rfl ?_
                refine xi_bipush (pc' := 102) (v := (-6)) kc_9_100 rfl rfl ?_
                refine xi_virtual (mj := 12) (as := [.int (-6)]) (st1 := []) (lv0 := [(0, .ref 115), (1, .int (-6))]) kc_9_102 rfl rfl rfl rfl rfl eh388.1 (Nat.le_of_ble_eq_true rfl) (hJ _ _ _ _ (by decide)) (xm_le ml_12 rfl) rfl ?_
                refine xi_aload_n (pc' := 1) (x := 115) kc_12_0 rfl rfl ?_
                refine xi_getfield (pc' := 4) (v := .ref 140) kc_12_1 rfl rfl rfl eh388.1 rfl ?_
                refine xi_iload_n (pc' := 5) (x := (-6)) kc_12_4 rfl rfl ?_
                refine xi_ineg (pc' := 6) (v := 6) kc_12_5 rfl rfl ?_
                refine xi_dup2 (pc' := 7) kc_12_6 rfl ⟨rfl, rfl⟩ ?_
                obtain ⟨y392, A392, hy392, ry392⟩ := xk_arr K.1 xD_140
                obtain ⟨v393, ev393, bv393, dv393⟩ := xj_get hy392 ry392 (i := 6) (by decide) (by decide)
                have A394 := ((eh388.2.1 140 (by decide)).trans ((eh370.2.1 140 (by decide)).trans A392))
                refine xi_iaload (pc' := 8) (v := v393) kc_12_7 rfl A394 (by decide) rfl (xi_in (by decide) (by rw [hy392]; decide)) ev393 ?_
                refine xi_iconst (pc' := 9) (v := 1) kc_12_8 rfl rfl ?_
                obtain ⟨v395, ev395⟩ : ∃ q : Int32, (v393 : Int32) + 1 = q := ⟨_, rfl⟩
                have rv395 := xc_rng v395
                refine xi_iadd (pc' := 10) (v := v395) kc_12_9 rfl ev395 ?_
                obtain ⟨y396, s396, hy396, ry396⟩ := xj_set (v := v395) hy392 ry392 6 (by first | omega | decide) (by first | omega | decide)
                refine xi_iastore (pc' := 11) (x' := y396) kc_12_10 rfl A394 rfl (xi_in (by decide) (by rw [hy392]; decide)) s396 (fun hh396 eh396 => ?_)
                have K397 := xk_pa K390 (xk_wa (by decide +kernel)) xD_140 hy396 ry396 eh396
                have KR398 := xk_pa KR391 (xk_wa (by decide +kernel)) xD_140 hy396 ry396 eh396
                refine xi_iload_n (pc' := 12) (x := (-6)) kc_12_11 rfl rfl ?_
                refine xi_ireturn kc_12_12 mr_12 rfl ?_
                show xw J ov 99 9 (105, [(0, .ref 115), (1, .int a4), (2, .int 1), (3, .int a8)], [.int (-6)], hh396) _
                refine xi_ireturn kc_9_105 mr_9 rfl ?_
                show xw J ov 100 195 (237, [(4, .int x4), (3, .ref 167), (2, .ref 115), (1, .ref 0), (0, .ref 1000000)], [.int (-6)], hh396) _
                refine xi_pop (pc' := 238) kc_195_237 rfl rfl ?_
                refine xi_goto (pc' := 1501) kc_195_238 rfl ?_
                obtain ⟨v399, ev399⟩ : ∃ q : Int32, x4 + 6 = q := ⟨_, rfl⟩
                have zv399 : v399.toInt = (x4.toInt + 6) := by rw [← ev399]; exact (xz_add (X := x4.toInt) (Y := 6) rfl (by decide) (by omega) (by omega)).trans (by omega)
                refine xi_iinc (pc' := 1504) (x := x4) (v := v399) (lv' := [(4, .int v399), (3, .ref 167), (2, .ref 115), (1, .ref 0), (0, .ref 1000000)]) kc_195_1501 rfl rfl ev399 rfl (xm_lt ml_195 rfl) ?_
                refine xi_goto (pc' := 23) kc_195_1504 rfl ?_
                exact kk v399 hh396 (by omega) K397 (xI_kept I KR398.2.1)
            · refine xi_cmf (pc' := 38) kc_88_35 rfl (xc_ge_f (X := a8.toInt) (Y := 0) rfl (by decide) (by omega)) ?_
              refine xi_aload_n (pc' := 39) (x := 0) kc_88_38 rfl rfl ?_
              refine xi_bipush (pc' := 41) (v := (-4)) kc_88_39 rfl rfl ?_
              refine xi_virtual (mj := 90) (as := [.int (-4)]) (st1 := []) (lv0 := [(0, .ref 0), (1, .int (-4))]) kc_88_41 rfl rfl rfl rfl rfl A11 (Nat.le_of_ble_eq_true rfl) (hJ _ _ _ _ (by decide)) (xm_le ml_90 rfl) rfl ?_
              refine xi_iload_n (pc' := 1) (x := (-4)) kc_90_0 rfl rfl ?_
              refine xi_ineg (pc' := 2) (v := 4) kc_90_1 rfl rfl ?_
              refine xi_istore_n (pc' := 3) (lv' := [(2, .int 4), (0, .ref 0), (1, .int (-4))]) kc_90_2 rfl rfl (xm_lt ml_90 rfl) ?_
              refine xi_iload_n (pc' := 4) (x := 4) kc_90_3 rfl rfl ?_
              refine xi_iff (pc' := 7) kc_90_4 rfl rfl ?_
              refine xi_iload_n (pc' := 8) (x := 4) kc_90_7 rfl rfl ?_
              refine xi_aload_n (pc' := 9) (x := 0) kc_90_8 rfl rfl ?_
              refine xi_getfield (pc' := 12) (v := .ref 94) kc_90_9 rfl rfl rfl A11 rfl ?_
              obtain ⟨y400, A400, hy400, ry400⟩ := xk_arr K.1 xD_94
              refine xi_arraylength (pc' := 13) (n := 7) (v := 7) kc_90_12 rfl (xl_lenI (by decide) (by decide) A400 hy400) rfl ?_
              refine xi_cmf (pc' := 16) kc_90_13 rfl rfl ?_
              refine xi_aload_n (pc' := 17) (x := 0) kc_90_16 rfl rfl ?_
              refine xi_getfield (pc' := 20) (v := .ref 94) kc_90_17 rfl rfl rfl A11 rfl ?_
              refine xi_iload_n (pc' := 21) (x := 4) kc_90_20 rfl rfl ?_
              refine xi_dup2 (pc' := 22) kc_90_21 rfl ⟨rfl, rfl⟩ ?_
              obtain ⟨v401, ev401, bv401, dv401⟩ := xj_get hy400 ry400 (i := 4) (by decide) (by decide)
              refine xi_iaload (pc' := 23) (v := v401) kc_90_22 rfl A400 (by decide) rfl (xi_in (by decide) (by rw [hy400]; decide)) ev401 ?_
              refine xi_iconst (pc' := 24) (v := 1) kc_90_23 rfl rfl ?_
              obtain ⟨v402, ev402⟩ : ∃ q : Int32, (v401 : Int32) + 1 = q := ⟨_, rfl⟩
              have rv402 := xc_rng v402
              refine xi_iadd (pc' := 25) (v := v402) kc_90_24 rfl ev402 ?_
              obtain ⟨y403, s403, hy403, ry403⟩ := xj_set (v := v402) hy400 ry400 4 (by first | omega | decide) (by first | omega | decide)
              refine xi_iastore (pc' := 26) (x' := y403) kc_90_25 rfl A400 rfl (xi_in (by decide) (by rw [hy400]; decide)) s403 (fun hh403 eh403 => ?_)
              have K404 := xk_pa K (xk_wa (by decide +kernel)) xD_94 hy403 ry403 eh403
              have KR405 := xk_pa KR (xk_wa (by decide +kernel)) xD_94 hy403 ry403 eh403
              refine xi_iload_n (pc' := 27) (x := (-4)) kc_90_26 rfl rfl ?_
              refine xi_ireturn kc_90_27 mr_90 rfl ?_
              show xw J ov 99 88 (44, [(0, .ref 0), (1, .int a4), (2, .int 1), (3, .int a8)], [.int (-4)], hh403) _
              refine xi_ireturn kc_88_44 mr_88 rfl ?_
              show xw J ov 100 195 (214, [(4, .int x4), (3, .ref 167), (2, .ref 115), (1, .ref 0), (0, .ref 1000000)], [.int (-4)], hh403) _
              refine xi_pop (pc' := 215) kc_195_214 rfl rfl ?_
              refine xi_aload_n (pc' := 216) (x := 115) kc_195_215 rfl rfl ?_
              refine xi_aload_n (pc' := 217) (x := 1000000) kc_195_216 rfl rfl ?_
              refine xi_iload (pc' := 219) (x := x4) kc_195_217 rfl rfl ?_
              refine xi_iconst (pc' := 220) (v := 1) kc_195_219 rfl rfl ?_
              refine xi_iadd (pc' := 221) (v := v3) kc_195_220 rfl ev3 ?_
              refine xi_ialoadO (pc' := 222) (v := a4) kc_195_221 rfl (by decide) hov0 (xi_in (by omega) (by omega)) ea4 ?_
              refine xi_aload_n (pc' := 223) (x := 1000000) kc_195_222 rfl rfl ?_
              refine xi_iload (pc' := 225) (x := x4) kc_195_223 rfl rfl ?_
              refine xi_iconst (pc' := 226) (v := 2) kc_195_225 rfl rfl ?_
              refine xi_iadd (pc' := 227) (v := v5) kc_195_226 rfl ev5 ?_
              refine xi_ialoadO (pc' := 228) (v := 1) kc_195_227 rfl (by decide) hov0 (xi_in (by omega) (by omega)) ea6 ?_
              refine xi_aload_n (pc' := 229) (x := 1000000) kc_195_228 rfl rfl ?_
              refine xi_iload (pc' := 231) (x := x4) kc_195_229 rfl rfl ?_
              refine xi_iconst (pc' := 232) (v := 3) kc_195_231 rfl rfl ?_
              refine xi_iadd (pc' := 233) (v := v7) kc_195_232 rfl ev7 ?_
              refine xi_ialoadO (pc' := 234) (v := a8) kc_195_233 rfl (by decide) hov0 (xi_in (by omega) (by omega)) ea8 ?_
              obtain ⟨u406, u407, u408, u409, u410, u411, u412, u413, u414, u415, u416, u417, u418, bu406, bu407, bu408, bu409, bu410, bu411, bu412, bu413, bu414, bu415, bu416, bu417, bu418, A419⟩ := xq_115 K.1
              have A420 := ((eh403.2.1 115 (by decide)).trans A419)
              refine xi_virtual (mj := 9) (as := [.int a4, .int 1, .int a8]) (st1 := []) (lv0 := [(0, .ref 115), (1, .int a4), (2, .int 1), (3, .int a8)]) kc_195_234 rfl rfl rfl rfl rfl A420 (Nat.le_of_ble_eq_true rfl) (hJ _ _ _ _ (by decide)) (xm_le ml_9 rfl) rfl ?_
              refine xi_aload_n (pc' := 1) (x := 115) kc_9_0 rfl rfl ?_
              refine xi_iconst (pc' := 2) (v := 0) kc_9_1 rfl rfl ?_
              refine xi_putfield (pc' := 5) (fs' := [.int 0, .int u407, .ref 116, .ref 117, .ref 118, .ref 119, .ref 120, .ref 121, .ref 122, .ref 123, .ref 124, .ref 125, .ref 126, .ref 127, .ref 128, .ref 129, .int u408, .ref 130, .int u409, .ref 131, .ref 132, .ref 133, .ref 134, .int u410, .ref 135, .ref 136, .ref 137, .ref 138, .ref 139, .ref 140, .ref 141, .ref 142, .int u411, .int u412, .int u413, .ref 143, .ref 144, .ref 145, .ref 146, .ref 147, .ref 148, .int u414, .ref 149, .ref 150, .ref 151, .int u415, .ref 152, .ref 153, .ref 154, .ref 155, .ref 156, .ref 157, .ref 158, .ref 159, .int u416, .ref 160, .int u417, .ref 161, .ref 162, .ref 163, .ref 164, .int u418, .ref 165, .ref 166]) kc_9_2 rfl rfl rfl A420 rfl rfl rfl (Nat.le_of_ble_eq_true rfl) rfl (fun hh422 eh421 => ?_)
              have K423 := xk_pf (k := 0) (v := 0) K404 (xk_wf (by decide +kernel)) xD_115 A420 rfl (by first | omega | decide) (by first | omega | decide) eh421 rfl
              have KR424 := xk_pf (k := 0) (v := 0) KR405 (xk_wf (by decide +kernel)) xD_115 A420 rfl (by first | omega | decide) (by first | omega | decide) eh421 rfl
              refine xi_iload_n (pc' := 6) (x := a4) kc_9_5 rfl rfl ?_
              refine xi_static (mj := 10) (as := [.int a4]) (st1 := []) (lv0 := [(0, .int a4)]) kc_9_6 rfl rfl (Nat.le_of_ble_eq_true rfl) rfl rfl (Nat.le_of_ble_eq_true rfl) (hJ _ _ _ _ (by decide)) (xm_le ml_10 rfl) rfl ?_
              refine xi_iload_n (pc' := 1) (x := a4) kc_10_0 rfl rfl ?_
              refine xi_iconst (pc' := 2) (v := 0) kc_10_1 rfl rfl ?_
              refine xi_iconst (pc' := 3) (v := 5) kc_10_2 rfl rfl ?_
              refine xi_static (mj := 11) (as := [.int a4, .int 0, .int 5]) (st1 := []) (lv0 := [(0, .int a4), (1, .int 0), (2, .int 5)]) kc_10_3 rfl rfl (Nat.le_of_ble_eq_true rfl) rfl rfl (Nat.le_of_ble_eq_true rfl) (hJ _ _ _ _ (by decide)) (xm_le ml_11 rfl) rfl ?_
              refine xi_iload_n (pc' := 1) (x := a4) kc_11_0 rfl rfl ?_
              refine xi_iload_n (pc' := 2) (x := 0) kc_11_1 rfl rfl ?_
              refine xi_cmf (pc' := 5) kc_11_2 rfl (xc_lt_f (X := a4.toInt) (Y := 0) rfl (by decide) (by omega)) ?_
              refine xi_iload_n (pc' := 6) (x := a4) kc_11_5 rfl rfl ?_
              refine xi_iload_n (pc' := 7) (x := 5) kc_11_6 rfl rfl ?_
              refine xi_cmf (pc' := 10) kc_11_7 rfl (xc_gt_f (X := a4.toInt) (Y := 5) rfl (by decide) (by omega)) ?_
              refine xi_iconst (pc' := 11) (v := 1) kc_11_10 rfl rfl ?_
              refine xi_goto (pc' := 15) kc_11_11 rfl ?_
              refine xi_ireturn kc_11_15 mr_11 rfl ?_
              show xw J ov 98 10 (6, [(0, .int a4)], [.int 1], hh422) _
              refine xi_ireturn kc_10_6 mr_10 rfl ?_
              show xw J ov 99 9 (9, [(0, .ref 115), (1, .int a4), (2, .int 1), (3, .int a8)], [.int 1], hh422) _
              refine xi_ift (pc' := 18) kc_9_9 rfl rfl ?_
              refine xi_iload_n (pc' := 19) (x := 1) kc_9_18 rfl rfl ?_
              refine xi_iconst (pc' := 20) (v := 0) kc_9_19 rfl rfl ?_
              refine xi_iconst (pc' := 21) (v := 5) kc_9_20 rfl rfl ?_
              refine xi_static (mj := 11) (as := [.int 1, .int 0, .int 5]) (st1 := []) (lv0 := [(0, .int 1), (1, .int 0), (2, .int 5)]) kc_9_21 rfl rfl (Nat.le_of_ble_eq_true rfl) rfl rfl (Nat.le_of_ble_eq_true rfl) (hJ _ _ _ _ (by decide)) (xm_le ml_11 rfl) rfl ?_
              refine xi_iload_n (pc' := 1) (x := 1) kc_11_0 rfl rfl ?_
              refine xi_iload_n (pc' := 2) (x := 0) kc_11_1 rfl rfl ?_
              refine xi_cmf (pc' := 5) kc_11_2 rfl rfl ?_
              refine xi_iload_n (pc' := 6) (x := 1) kc_11_5 rfl rfl ?_
              refine xi_iload_n (pc' := 7) (x := 5) kc_11_6 rfl rfl ?_
              refine xi_cmf (pc' := 10) kc_11_7 rfl rfl ?_
              refine xi_iconst (pc' := 11) (v := 1) kc_11_10 rfl rfl ?_
              refine xi_goto (pc' := 15) kc_11_11 rfl ?_
              refine xi_ireturn kc_11_15 mr_11 rfl ?_
              show xw J ov 99 9 (24, [(0, .ref 115), (1, .int a4), (2, .int 1), (3, .int a8)], [.int 1], hh422) _
              refine xi_ift (pc' := 34) kc_9_24 rfl rfl ?_
              refine xi_iload_n (pc' := 35) (x := a8) kc_9_34 rfl rfl ?_
              refine xi_iload_n (pc' := 36) (x := 1) kc_9_35 rfl rfl ?_
              refine xi_ift (pc' := 44) kc_9_36 rfl rfl ?_
              refine xi_iconst (pc' := 45) (v := 0) kc_9_44 rfl rfl ?_
              refine xi_cmf (pc' := 48) kc_9_45 rfl (xc_ge_f (X := a8.toInt) (Y := 0) rfl (by decide) (by omega)) ?_
              refine xi_aload_n (pc' := 49) (x := 115) kc_9_48 rfl rfl ?_
              refine xi_bipush (pc' := 51) (v := (-4)) kc_9_49 rfl rfl ?_
              refine xi_virtual (mj := 12) (as := [.int (-4)]) (st1 := []) (lv0 := [(0, .ref 115), (1, .int (-4))]) kc_9_51 rfl rfl rfl rfl rfl eh421.1 (Nat.le_of_ble_eq_true rfl) (hJ _ _ _ _ (by decide)) (xm_le ml_12 rfl) rfl ?_
              refine xi_aload_n (pc' := 1) (x := 115) kc_12_0 rfl rfl ?_
              refine xi_getfield (pc' := 4) (v := .ref 140) kc_12_1 rfl rfl rfl eh421.1 rfl ?_
              refine xi_iload_n (pc' := 5) (x := (-4)) kc_12_4 rfl rfl ?_
              refine xi_ineg (pc' := 6) (v := 4) kc_12_5 rfl rfl ?_
              refine xi_dup2 (pc' := 7) kc_12_6 rfl ⟨rfl, rfl⟩ ?_
              obtain ⟨y425, A425, hy425, ry425⟩ := xk_arr K.1 xD_140
              obtain ⟨v426, ev426, bv426, dv426⟩ := xj_get hy425 ry425 (i := 4) (by decide) (by decide)
              have A427 := ((eh421.2.1 140 (by decide)).trans ((eh403.2.1 140 (by decide)).trans A425))
              refine xi_iaload (pc' := 8) (v := v426) kc_12_7 rfl A427 (by decide) rfl (xi_in (by decide) (by rw [hy425]; decide)) ev426 ?_
              refine xi_iconst (pc' := 9) (v := 1) kc_12_8 rfl rfl ?_
              obtain ⟨v428, ev428⟩ : ∃ q : Int32, (v426 : Int32) + 1 = q := ⟨_, rfl⟩
              have rv428 := xc_rng v428
              refine xi_iadd (pc' := 10) (v := v428) kc_12_9 rfl ev428 ?_
              obtain ⟨y429, s429, hy429, ry429⟩ := xj_set (v := v428) hy425 ry425 4 (by first | omega | decide) (by first | omega | decide)
              refine xi_iastore (pc' := 11) (x' := y429) kc_12_10 rfl A427 rfl (xi_in (by decide) (by rw [hy425]; decide)) s429 (fun hh429 eh429 => ?_)
              have K430 := xk_pa K423 (xk_wa (by decide +kernel)) xD_140 hy429 ry429 eh429
              have KR431 := xk_pa KR424 (xk_wa (by decide +kernel)) xD_140 hy429 ry429 eh429
              refine xi_iload_n (pc' := 12) (x := (-4)) kc_12_11 rfl rfl ?_
              refine xi_ireturn kc_12_12 mr_12 rfl ?_
              show xw J ov 99 9 (54, [(0, .ref 115), (1, .int a4), (2, .int 1), (3, .int a8)], [.int (-4)], hh429) _
              refine xi_ireturn kc_9_54 mr_9 rfl ?_
              show xw J ov 100 195 (237, [(4, .int x4), (3, .ref 167), (2, .ref 115), (1, .ref 0), (0, .ref 1000000)], [.int (-4)], hh429) _
              refine xi_pop (pc' := 238) kc_195_237 rfl rfl ?_
              refine xi_goto (pc' := 1501) kc_195_238 rfl ?_
              obtain ⟨v432, ev432⟩ : ∃ q : Int32, x4 + 6 = q := ⟨_, rfl⟩
              have zv432 : v432.toInt = (x4.toInt + 6) := by rw [← ev432]; exact (xz_add (X := x4.toInt) (Y := 6) rfl (by decide) (by omega) (by omega)).trans (by omega)
              refine xi_iinc (pc' := 1504) (x := x4) (v := v432) (lv' := [(4, .int v432), (3, .ref 167), (2, .ref 115), (1, .ref 0), (0, .ref 1000000)]) kc_195_1501 rfl rfl ev432 rfl (xm_lt ml_195 rfl) ?_
              refine xi_goto (pc' := 23) kc_195_1504 rfl ?_
              exact kk v432 hh429 (by omega) K430 (xI_kept I KR431.2.1)
          by_cases c433 : a6.toInt = 2
          · have qa6 : a6 = 2 := xc_of (Eq.trans (by omega) (show (2 : Int) = (2 : Int32).toInt by decide))
            subst qa6
            refine xi_ialoadO (pc' := 35) (v := 0) kc_88_34 rfl (by decide) hov1 (xi_in (n := 6) (by decide) (by decide)) rfl ?_
            by_cases c434 : 0 ≤ a8.toInt
            · refine xi_cmt (pc' := 45) kc_88_35 rfl (xc_ge_t (X := a8.toInt) (Y := 0) rfl (by decide) (by omega)) ?_
              refine xi_iload_n (pc' := 46) (x := a8) kc_88_45 rfl rfl ?_
              refine xi_getstatic (pc' := 49) (j := 1000002) kc_88_46 rfl rfl ?_
              refine xi_iload_n (pc' := 50) (x := 2) kc_88_49 rfl rfl ?_
              refine xi_ialoadO (pc' := 51) (v := 50) kc_88_50 rfl (by decide) hov2 (xi_in (n := 6) (by decide) (by decide)) rfl ?_
              by_cases c435 : a8.toInt ≤ 50
              · refine xi_cmt (pc' := 61) kc_88_51 rfl (xc_le_t (X := a8.toInt) (Y := 50) rfl (by decide) (by omega)) ?_
                refine xi_iload_n (pc' := 62) (x := 2) kc_88_61 rfl rfl ?_
                refine xi_iconst (pc' := 63) (v := 5) kc_88_62 rfl rfl ?_
                refine xi_cmt (pc' := 90) kc_88_63 rfl rfl ?_
                refine xi_aload_n (pc' := 91) (x := 0) kc_88_90 rfl rfl ?_
                refine xi_getfield (pc' := 94) (v := .ref 66) kc_88_91 rfl rfl rfl A11 rfl ?_
                obtain ⟨u437, wl436, bu437, A438⟩ := xq_66 K.1
                refine xi_virtual (mj := 91) (as := []) (st1 := []) (lv0 := [(0, .ref 66)]) kc_88_94 rfl rfl rfl rfl rfl A438 (Nat.le_of_ble_eq_true rfl) (hJ _ _ _ _ (by decide)) (xm_le ml_91 rfl) rfl ?_
                refine xi_aload_n (pc' := 1) (x := 66) kc_91_0 rfl rfl ?_
                refine xi_lconst (pc' := 2) (v := 0) kc_91_1 rfl rfl ?_
                refine xi_putfield (pc' := 5) (fs' := [.ref 1, .ref 67, .ref 70, .ref 71, .ref 72, .ref 73, .ref 74, .long 0, .int u437]) kc_91_2 rfl rfl rfl A438 rfl rfl rfl (Nat.le_of_ble_eq_true rfl) rfl (fun hh440 eh439 => ?_)
                have K441 := xk_pl (k := 7) (v := 0) K (xk_wf (by decide +kernel)) xD_66 A438 rfl eh439 rfl
                have KR442 := xk_pl (k := 7) (v := 0) KR (xk_wf (by decide +kernel)) xD_66 A438 rfl eh439 rfl
                refine xi_return kc_91_5 mr_91 ?_
                show xw J ov 99 88 (97, [(0, .ref 0), (1, .int a4), (2, .int 2), (3, .int a8)], [], hh440) _
                refine xi_aload_n (pc' := 98) (x := 0) kc_88_97 rfl rfl ?_
                have A443 := ((eh439.2.1 0 (by decide)).trans A11)
                refine xi_getfield (pc' := 101) (v := .ref 1) kc_88_98 rfl rfl rfl A443 rfl ?_
                refine xi_iload_n (pc' := 102) (x := a4) kc_88_101 rfl rfl ?_
                refine xi_iload_n (pc' := 103) (x := 2) kc_88_102 rfl rfl ?_
                refine xi_iload_n (pc' := 104) (x := a8) kc_88_103 rfl rfl ?_
                obtain ⟨u444, u445, bu444, bu445, A446⟩ := xq_1 K.1
                have A447 := ((eh439.2.1 1 (by decide)).trans A446)
                refine xi_virtual (mj := 92) (as := [.int a4, .int 2, .int a8]) (st1 := []) (lv0 := [(0, .ref 1), (1, .int a4), (2, .int 2), (3, .int a8)]) kc_88_104 rfl rfl rfl rfl rfl A447 (Nat.le_of_ble_eq_true rfl) (hJ _ _ _ _ (by decide)) (xm_le ml_92 rfl) rfl ?_
                have F448 := xra_fr WWb (xl_c (eh439.2.1 121 (by decide)))
                have F449 := xg6_c I6 (fun c hc => eh439.2.1 c (Ne.symm (xk_nc hc rfl)))
                have F450 := xr5_c I5 (fun c hc => eh439.2.1 c (Ne.symm (xk_nc hc rfl)))
                have zc2 : (2 : Int32).toInt = 2 := by decide
                refine xw_chg hJ hov1 hov2 (d := 96) (x1 := a4) (x2 := 2) (x3 := a8) K441.1 F449 (by omega) (by omega) (fun r451 hh452 hr451 K453 I454 => ?_)
                have rr451 := xc_rng r451
                have nqr451 : Int32.toNatClampNeg 2 = 2 := by decide
                rw [nqr451] at hr451 I454
                have I4545 := xr5_k F450 K453 (by decide +kernel)
                have I454W := xra_fr F448 (K453.2.1 (121, 0) (by decide +kernel))
                have A455 := ((eh439.2.1 64 (by decide)).trans A1)
                have K456 := xk_tr K441 K453 (xsb_ok _ _ (by decide +kernel))
                have A457 := xk_eqa (q := 0) K453 (by decide +kernel) A455
                obtain ⟨u458, u459, bu458, bu459, A460⟩ := xq_0 K456.1
                have e461 : u10 = u459 := xk_eqi (q := 9) K453 (by decide +kernel) A443 A460 rfl rfl
                subst e461
                have e462 : u9 = u458 := xk_eqi (q := 8) K453 (by decide +kernel) A443 A460 rfl rfl
                subst e462
                obtain ⟨u463, u464, bu463, bu464, A465⟩ := xq_1 K456.1
                have e466 : u444 = u463 := xk_eqi (q := 5) K453 (by decide +kernel) A447 A465 rfl rfl
                subst e466
                show xw J ov 99 88 (107, [(0, .ref 0), (1, .int a4), (2, .int 2), (3, .int a8)], [.int r451], hh452) _
                refine xi_ireturn kc_88_107 mr_88 rfl ?_
                show xw J ov 100 195 (214, [(4, .int x4), (3, .ref 167), (2, .ref 115), (1, .ref 0), (0, .ref 1000000)], [.int r451], hh452) _
                refine xi_pop (pc' := 215) kc_195_214 rfl rfl ?_
                refine xi_aload_n (pc' := 216) (x := 115) kc_195_215 rfl rfl ?_
                refine xi_aload_n (pc' := 217) (x := 1000000) kc_195_216 rfl rfl ?_
                refine xi_iload (pc' := 219) (x := x4) kc_195_217 rfl rfl ?_
                refine xi_iconst (pc' := 220) (v := 1) kc_195_219 rfl rfl ?_
                refine xi_iadd (pc' := 221) (v := v3) kc_195_220 rfl ev3 ?_
                refine xi_ialoadO (pc' := 222) (v := a4) kc_195_221 rfl (by decide) hov0 (xi_in (by omega) (by omega)) ea4 ?_
                refine xi_aload_n (pc' := 223) (x := 1000000) kc_195_222 rfl rfl ?_
                refine xi_iload (pc' := 225) (x := x4) kc_195_223 rfl rfl ?_
                refine xi_iconst (pc' := 226) (v := 2) kc_195_225 rfl rfl ?_
                refine xi_iadd (pc' := 227) (v := v5) kc_195_226 rfl ev5 ?_
                refine xi_ialoadO (pc' := 228) (v := 2) kc_195_227 rfl (by decide) hov0 (xi_in (by omega) (by omega)) ea6 ?_
                refine xi_aload_n (pc' := 229) (x := 1000000) kc_195_228 rfl rfl ?_
                refine xi_iload (pc' := 231) (x := x4) kc_195_229 rfl rfl ?_
                refine xi_iconst (pc' := 232) (v := 3) kc_195_231 rfl rfl ?_
                refine xi_iadd (pc' := 233) (v := v7) kc_195_232 rfl ev7 ?_
                refine xi_ialoadO (pc' := 234) (v := a8) kc_195_233 rfl (by decide) hov0 (xi_in (by omega) (by omega)) ea8 ?_
                obtain ⟨u467, u468, u469, u470, u471, u472, u473, u474, u475, u476, u477, u478, u479, bu467, bu468, bu469, bu470, bu471, bu472, bu473, bu474, bu475, bu476, bu477, bu478, bu479, A480⟩ := xq_115 K456.1
                refine xi_virtual (mj := 9) (as := [.int a4, .int 2, .int a8]) (st1 := []) (lv0 := [(0, .ref 115), (1, .int a4), (2, .int 2), (3, .int a8)]) kc_195_234 rfl rfl rfl rfl rfl A480 (Nat.le_of_ble_eq_true rfl) (hJ _ _ _ _ (by decide)) (xm_le ml_9 rfl) rfl ?_
                refine xi_aload_n (pc' := 1) (x := 115) kc_9_0 rfl rfl ?_
                refine xi_iconst (pc' := 2) (v := 0) kc_9_1 rfl rfl ?_
                refine xi_putfield (pc' := 5) (fs' := [.int 0, .int u468, .ref 116, .ref 117, .ref 118, .ref 119, .ref 120, .ref 121, .ref 122, .ref 123, .ref 124, .ref 125, .ref 126, .ref 127, .ref 128, .ref 129, .int u469, .ref 130, .int u470, .ref 131, .ref 132, .ref 133, .ref 134, .int u471, .ref 135, .ref 136, .ref 137, .ref 138, .ref 139, .ref 140, .ref 141, .ref 142, .int u472, .int u473, .int u474, .ref 143, .ref 144, .ref 145, .ref 146, .ref 147, .ref 148, .int u475, .ref 149, .ref 150, .ref 151, .int u476, .ref 152, .ref 153, .ref 154, .ref 155, .ref 156, .ref 157, .ref 158, .ref 159, .int u477, .ref 160, .int u478, .ref 161, .ref 162, .ref 163, .ref 164, .int u479, .ref 165, .ref 166]) kc_9_2 rfl rfl rfl A480 rfl rfl rfl (Nat.le_of_ble_eq_true rfl) rfl (fun hh482 eh481 => ?_)
                have K483 := xk_pf (k := 0) (v := 0) K456 (xk_wf (by decide +kernel)) xD_115 A480 rfl (by first | omega | decide) (by first | omega | decide) eh481 rfl
                refine xi_iload_n (pc' := 6) (x := a4) kc_9_5 rfl rfl ?_
                refine xi_static (mj := 10) (as := [.int a4]) (st1 := []) (lv0 := [(0, .int a4)]) kc_9_6 rfl rfl (Nat.le_of_ble_eq_true rfl) rfl rfl (Nat.le_of_ble_eq_true rfl) (hJ _ _ _ _ (by decide)) (xm_le ml_10 rfl) rfl ?_
                refine xi_iload_n (pc' := 1) (x := a4) kc_10_0 rfl rfl ?_
                refine xi_iconst (pc' := 2) (v := 0) kc_10_1 rfl rfl ?_
                refine xi_iconst (pc' := 3) (v := 5) kc_10_2 rfl rfl ?_
                refine xi_static (mj := 11) (as := [.int a4, .int 0, .int 5]) (st1 := []) (lv0 := [(0, .int a4), (1, .int 0), (2, .int 5)]) kc_10_3 rfl rfl (Nat.le_of_ble_eq_true rfl) rfl rfl (Nat.le_of_ble_eq_true rfl) (hJ _ _ _ _ (by decide)) (xm_le ml_11 rfl) rfl ?_
                refine xi_iload_n (pc' := 1) (x := a4) kc_11_0 rfl rfl ?_
                refine xi_iload_n (pc' := 2) (x := 0) kc_11_1 rfl rfl ?_
                refine xi_cmf (pc' := 5) kc_11_2 rfl (xc_lt_f (X := a4.toInt) (Y := 0) rfl (by decide) (by omega)) ?_
                refine xi_iload_n (pc' := 6) (x := a4) kc_11_5 rfl rfl ?_
                refine xi_iload_n (pc' := 7) (x := 5) kc_11_6 rfl rfl ?_
                refine xi_cmf (pc' := 10) kc_11_7 rfl (xc_gt_f (X := a4.toInt) (Y := 5) rfl (by decide) (by omega)) ?_
                refine xi_iconst (pc' := 11) (v := 1) kc_11_10 rfl rfl ?_
                refine xi_goto (pc' := 15) kc_11_11 rfl ?_
                refine xi_ireturn kc_11_15 mr_11 rfl ?_
                show xw J ov 98 10 (6, [(0, .int a4)], [.int 1], hh482) _
                refine xi_ireturn kc_10_6 mr_10 rfl ?_
                show xw J ov 99 9 (9, [(0, .ref 115), (1, .int a4), (2, .int 2), (3, .int a8)], [.int 1], hh482) _
                refine xi_ift (pc' := 18) kc_9_9 rfl rfl ?_
                refine xi_iload_n (pc' := 19) (x := 2) kc_9_18 rfl rfl ?_
                refine xi_iconst (pc' := 20) (v := 0) kc_9_19 rfl rfl ?_
                refine xi_iconst (pc' := 21) (v := 5) kc_9_20 rfl rfl ?_
                refine xi_static (mj := 11) (as := [.int 2, .int 0, .int 5]) (st1 := []) (lv0 := [(0, .int 2), (1, .int 0), (2, .int 5)]) kc_9_21 rfl rfl (Nat.le_of_ble_eq_true rfl) rfl rfl (Nat.le_of_ble_eq_true rfl) (hJ _ _ _ _ (by decide)) (xm_le ml_11 rfl) rfl ?_
                refine xi_iload_n (pc' := 1) (x := 2) kc_11_0 rfl rfl ?_
                refine xi_iload_n (pc' := 2) (x := 0) kc_11_1 rfl rfl ?_
                refine xi_cmf (pc' := 5) kc_11_2 rfl rfl ?_
                refine xi_iload_n (pc' := 6) (x := 2) kc_11_5 rfl rfl ?_
                refine xi_iload_n (pc' := 7) (x := 5) kc_11_6 rfl rfl ?_
                refine xi_cmf (pc' := 10) kc_11_7 rfl rfl ?_
                refine xi_iconst (pc' := 11) (v := 1) kc_11_10 rfl rfl ?_
                refine xi_goto (pc' := 15) kc_11_11 rfl ?_
                refine xi_ireturn kc_11_15 mr_11 rfl ?_
                show xw J ov 99 9 (24, [(0, .ref 115), (1, .int a4), (2, .int 2), (3, .int a8)], [.int 1], hh482) _
                refine xi_ift (pc' := 34) kc_9_24 rfl rfl ?_
                refine xi_iload_n (pc' := 35) (x := a8) kc_9_34 rfl rfl ?_
                refine xi_iload_n (pc' := 36) (x := 2) kc_9_35 rfl rfl ?_
                refine xi_ift (pc' := 44) kc_9_36 rfl rfl ?_
                refine xi_iconst (pc' := 45) (v := 0) kc_9_44 rfl rfl ?_
                refine xi_cmt (pc' := 55) kc_9_45 rfl (xc_ge_t (X := a8.toInt) (Y := 0) rfl (by decide) (by omega)) ?_
                refine xi_iload_n (pc' := 56) (x := a8) kc_9_55 rfl rfl ?_
                refine xi_iload_n (pc' := 57) (x := 2) kc_9_56 rfl rfl ?_
                refine xi_ift (pc' := 65) kc_9_57 rfl rfl ?_
                refine xi_iload_n (pc' := 66) (x := 2) kc_9_65 rfl rfl ?_
                refine xi_iconst (pc' := 67) (v := 1) kc_9_66 rfl rfl ?_
                refine xi_cmt (pc' := 75) kc_9_67 rfl rfl ?_
                refine xi_iload_n (pc' := 76) (x := 2) kc_9_75 rfl rfl ?_
                refine xi_iconst (pc' := 77) (v := 4) kc_9_76 rfl rfl ?_
                refine xi_cmf (pc' := 80) kc_9_77 rfl rfl ?_
                refine xi_bipush (pc' := 82) (v := 50) kc_9_80 rfl rfl ?_
                refine xi_goto (pc' := 96) kc_9_82 rfl ?_
                refine xi_cmt (pc' := 106) kc_9_96 rfl (xc_le_t (X := a8.toInt) (Y := 50) rfl (by decide) (by omega)) ?_
                refine xi_aload_n (pc' := 107) (x := 115) kc_9_106 rfl rfl ?_
                refine xi_iload_n (pc' := 108) (x := a4) kc_9_107 rfl rfl ?_
                refine xi_iload_n (pc' := 109) (x := 2) kc_9_108 rfl rfl ?_
                refine xi_virtual (mj := 13) (as := [.int a4, .int 2]) (st1 := []) (lv0 := [(0, .ref 115), (1, .int a4), (2, .int 2)]) kc_9_109 rfl rfl rfl rfl rfl eh481.1 (Nat.le_of_ble_eq_true rfl) (hJ _ _ _ _ (by decide)) (xm_le ml_13 rfl) rfl ?_
                have F484 := xg6_c I454 (fun c hc => eh481.2.1 c (Ne.symm (xk_nc hc rfl)))
                have F485 := xr5_c I4545 (fun c hc => eh481.2.1 c (Ne.symm (xk_nc hc rfl)))
                have F486 := xra_fr I454W (xl_c (eh481.2.1 121 (by decide)))
                have zc2 : (2 : Int32).toInt = 2 := by decide
                refine xw_rn hJ hov1 hov2 (d := 97) (x1 := a4) (x2 := 2) K483.1 F485 (by omega) (by omega) (fun r487 hr487 => ?_)
                have rr487 := xc_rng r487
                have nqr487 : Int32.toNatClampNeg 2 = 2 := by decide
                rw [nqr487] at hr487
                show xw J ov 99 9 (112, [(0, .ref 115), (1, .int a4), (2, .int 2), (3, .int a8)], [.int r487], hh482) _
                refine xi_istore (pc' := 114) (lv' := [(4, .int r487), (0, .ref 115), (1, .int a4), (2, .int 2), (3, .int a8)]) kc_9_112 rfl rfl (xm_lt ml_9 rfl) ?_
                refine xi_aload_n (pc' := 115) (x := 115) kc_9_114 rfl rfl ?_
                refine xi_iload_n (pc' := 116) (x := a4) kc_9_115 rfl rfl ?_
                refine xi_iload_n (pc' := 117) (x := 2) kc_9_116 rfl rfl ?_
                refine xi_iload_n (pc' := 118) (x := a8) kc_9_117 rfl rfl ?_
                refine xi_virtual (mj := 14) (as := [.int a4, .int 2, .int a8]) (st1 := []) (lv0 := [(0, .ref 115), (1, .int a4), (2, .int 2), (3, .int a8)]) kc_9_118 rfl rfl rfl rfl rfl eh481.1 (Nat.le_of_ble_eq_true rfl) (hJ _ _ _ _ (by decide)) (xm_le ml_14 rfl) rfl ?_
                refine xw_te2 hJ hov1 hov2 (d := 97) (x1 := a4) (x3 := a8) K483.1 F485 F486 (by omega) (by omega) (fun hh488 K489 F490 F491 => ?_)
                have F492 := xg6_k F484 K489 (by decide +kernel)
                have A493 := ((eh481.2.1 64 (by decide)).trans A457)
                have A494 := ((eh481.2.1 0 (by decide)).trans A460)
                have A495 := ((eh481.2.1 1 (by decide)).trans A465)
                have K496 := xk_tr K483 K489 (xsb_ok _ _ (by decide +kernel))
                have A497 := xk_eqa (q := 0) K489 (by decide +kernel) A493
                obtain ⟨u498, u499, bu498, bu499, A500⟩ := xq_0 K496.1
                have e501 : u10 = u499 := xk_eqi (q := 9) K489 (by decide +kernel) A494 A500 rfl rfl
                subst e501
                have e502 : u9 = u498 := xk_eqi (q := 8) K489 (by decide +kernel) A494 A500 rfl rfl
                subst e502
                obtain ⟨u503, u504, bu503, bu504, A505⟩ := xq_1 K496.1
                have e506 : u444 = u503 := xk_eqi (q := 5) K489 (by decide +kernel) A495 A505 rfl rfl
                subst e506
                obtain ⟨u507, u508, u509, u510, u511, u512, u513, u514, u515, u516, u517, u518, u519, bu507, bu508, bu509, bu510, bu511, bu512, bu513, bu514, bu515, bu516, bu517, bu518, bu519, A520⟩ := xq_115 K496.1
                have e521 : u468 = u508 := xk_eqi (q := 1) K489 (by decide +kernel) eh481.1 A520 rfl rfl
                subst e521
                have e522 : u471 = u511 := xk_eqi (q := 23) K489 (by decide +kernel) eh481.1 A520 rfl rfl
                subst e522
                have e523 : u474 = u514 := xk_eqi (q := 34) K489 (by decide +kernel) eh481.1 A520 rfl rfl
                subst e523
                have e524 : u472 = u512 := xk_eqi (q := 32) K489 (by decide +kernel) eh481.1 A520 rfl rfl
                subst e524
                show xw J ov 99 9 (121, [(4, .int r487), (0, .ref 115), (1, .int a4), (2, .int 2), (3, .int a8)], [], hh488) _
                refine xi_iload (pc' := 123) (x := r487) kc_9_121 rfl rfl ?_
                refine xi_ireturn kc_9_123 mr_9 rfl ?_
                show xw J ov 100 195 (237, [(4, .int x4), (3, .ref 167), (2, .ref 115), (1, .ref 0), (0, .ref 1000000)], [.int r487], hh488) _
                refine xi_pop (pc' := 238) kc_195_237 rfl rfl ?_
                refine xi_goto (pc' := 1501) kc_195_238 rfl ?_
                obtain ⟨v525, ev525⟩ : ∃ q : Int32, x4 + 6 = q := ⟨_, rfl⟩
                have zv525 : v525.toInt = (x4.toInt + 6) := by rw [← ev525]; exact (xz_add (X := x4.toInt) (Y := 6) rfl (by decide) (by omega) (by omega)).trans (by omega)
                refine xi_iinc (pc' := 1504) (x := x4) (v := v525) (lv' := [(4, .int v525), (3, .ref 167), (2, .ref 115), (1, .ref 0), (0, .ref 1000000)]) kc_195_1501 rfl rfl ev525 rfl (xm_lt ml_195 rfl) ?_
                refine xi_goto (pc' := 23) kc_195_1504 rfl ?_
                exact kk v525 hh488 (by omega) K496 ⟨((K496.2.1 (0, 9) (by decide +kernel)).trans (I.1.trans (K496.2.1 (115, 1) (by decide +kernel)).symm)), ⟨w, xra_mk A497 R2, F491, WWr⟩, ⟨_, F492, F490⟩, (by rw [(K496.2.1 (13, 0) (by decide +kernel)), (K496.2.1 (122, 0) (by decide +kernel))]; exact I.2.2.2.1), (by rw [(K496.2.1 (16, 0) (by decide +kernel)), (K496.2.1 (122, 0) (by decide +kernel))]; exact I.2.2.2.2.1), (by rw [(K496.2.1 (19, 0) (by decide +kernel)), (K496.2.1 (122, 0) (by decide +kernel))]; exact I.2.2.2.2.2.1), (by rw [(K496.2.1 (22, 0) (by decide +kernel)), (K496.2.1 (122, 0) (by decide +kernel))]; exact I.2.2.2.2.2.2.1), (by rw [(K496.2.1 (25, 0) (by decide +kernel)), (K496.2.1 (122, 0) (by decide +kernel))]; exact I.2.2.2.2.2.2.2.1), (by rw [(K496.2.1 (28, 0) (by decide +kernel)), (K496.2.1 (122, 0) (by decide +kernel))]; exact I.2.2.2.2.2.2.2.2.1), (by rw [(K496.2.1 (6, 0) (by decide +kernel)), (K496.2.1 (123, 0) (by decide +kernel))]; exact I.2.2.2.2.2.2.2.2.2.1), (by rw [(K496.2.1 (9, 0) (by decide +kernel)), (K496.2.1 (124, 0) (by decide +kernel))]; exact I.2.2.2.2.2.2.2.2.2.2.1), (by rw [(K496.2.1 (7, 0) (by decide +kernel)), (K496.2.1 (6, 0) (by decide +kernel))]; exact I.2.2.2.2.2.2.2.2.2.2.2.1), (by rw [(K496.2.1 (10, 0) (by decide +kernel)), (K496.2.1 (9, 0) (by decide +kernel))]; exact I.2.2.2.2.2.2.2.2.2.2.2.2.1), ((K496.2.1 (5, 0) (by decide +kernel)).trans I.2.2.2.2.2.2.2.2.2.2.2.2.2.1), ((K496.2.1 (8, 0) (by decide +kernel)).trans I.2.2.2.2.2.2.2.2.2.2.2.2.2.2.1), (xGR_fr I.2.2.2.2.2.2.2.2.2.2.2.2.2.2.2.1 K496.2.1 (by decide +kernel) (by decide +kernel)), (xGR_fr I.2.2.2.2.2.2.2.2.2.2.2.2.2.2.2.2.1 K496.2.1 (by decide +kernel) (by decide +kernel)), ((K496.2.1 (1, 5) (by decide +kernel)).trans (I.2.2.2.2.2.2.2.2.2.2.2.2.2.2.2.2.2.1.trans (K496.2.1 (115, 23) (by decide +kernel)).symm)), (xGR_fr I.2.2.2.2.2.2.2.2.2.2.2.2.2.2.2.2.2.2.1 K496.2.1 (by decide +kernel) (by decide +kernel)), (xGR_fr I.2.2.2.2.2.2.2.2.2.2.2.2.2.2.2.2.2.2.2.1 K496.2.1 (by decide +kernel) (by decide +kernel)), (xGR_fr I.2.2.2.2.2.2.2.2.2.2.2.2.2.2.2.2.2.2.2.2.1 K496.2.1 (by decide +kernel) (by decide +kernel)), (xGR_fr I.2.2.2.2.2.2.2.2.2.2.2.2.2.2.2.2.2.2.2.2.2.1 K496.2.1 (by decide +kernel) (by decide +kernel)), (by rw [(K496.2.1 (63, 2) (by decide +kernel)), (K496.2.1 (139, 0) (by decide +kernel)), (K496.2.1 (1, 5) (by decide +kernel))]; exact I.2.2.2.2.2.2.2.2.2.2.2.2.2.2.2.2.2.2.2.2.2.2.1), ((K496.2.1 (0, 8) (by decide +kernel)).trans (I.2.2.2.2.2.2.2.2.2.2.2.2.2.2.2.2.2.2.2.2.2.2.2.1.trans (K496.2.1 (115, 34) (by decide +kernel)).symm)), (xGR_fr I.2.2.2.2.2.2.2.2.2.2.2.2.2.2.2.2.2.2.2.2.2.2.2.2.1 K496.2.1 (by decide +kernel) (by decide +kernel)), (xGR_fr I.2.2.2.2.2.2.2.2.2.2.2.2.2.2.2.2.2.2.2.2.2.2.2.2.2.1 K496.2.1 (by decide +kernel) (by decide +kernel)), (xGR_fr I.2.2.2.2.2.2.2.2.2.2.2.2.2.2.2.2.2.2.2.2.2.2.2.2.2.2.1 K496.2.1 (by decide +kernel) (by decide +kernel)), (xGR_fr I.2.2.2.2.2.2.2.2.2.2.2.2.2.2.2.2.2.2.2.2.2.2.2.2.2.2.2.1 K496.2.1 (by decide +kernel) (by decide +kernel)), (xts_fr I.2.2.2.2.2.2.2.2.2.2.2.2.2.2.2.2.2.2.2.2.2.2.2.2.2.2.2.2.1 (fun l hl => K496.2.1 l (xk_el (by decide +kernel) hl))), ((K496.2.1 (63, 3) (by decide +kernel)).trans I.2.2.2.2.2.2.2.2.2.2.2.2.2.2.2.2.2.2.2.2.2.2.2.2.2.2.2.2.2)⟩
              · refine xi_cmf (pc' := 54) kc_88_51 rfl (xc_le_f (X := a8.toInt) (Y := 50) rfl (by decide) (by omega)) ?_
                refine xi_aload_n (pc' := 55) (x := 0) kc_88_54 rfl rfl ?_
                refine xi_bipush (pc' := 57) (v := (-6)) kc_88_55 rfl rfl ?_
                refine xi_virtual (mj := 90) (as := [.int (-6)]) (st1 := []) (lv0 := [(0, .ref 0), (1, .int (-6))]) kc_88_57 rfl rfl rfl rfl rfl A11 (Nat.le_of_ble_eq_true rfl) (hJ _ _ _ _ (by decide)) (xm_le ml_90 rfl) rfl ?_
                refine xi_iload_n (pc' := 1) (x := (-6)) kc_90_0 rfl rfl ?_
                refine xi_ineg (pc' := 2) (v := 6) kc_90_1 rfl rfl ?_
                refine xi_istore_n (pc' := 3) (lv' := [(2, .int 6), (0, .ref 0), (1, .int (-6))]) kc_90_2 rfl rfl (xm_lt ml_90 rfl) ?_
                refine xi_iload_n (pc' := 4) (x := 6) kc_90_3 rfl rfl ?_
                refine xi_iff (pc' := 7) kc_90_4 rfl rfl ?_
                refine xi_iload_n (pc' := 8) (x := 6) kc_90_7 rfl rfl ?_
                refine xi_aload_n (pc' := 9) (x := 0) kc_90_8 rfl rfl ?_
                refine xi_getfield (pc' := 12) (v := .ref 94) kc_90_9 rfl rfl rfl A11 rfl ?_
                obtain ⟨y526, A526, hy526, ry526⟩ := xk_arr K.1 xD_94
                refine xi_arraylength (pc' := 13) (n := 7) (v := 7) kc_90_12 rfl (xl_lenI (by decide) (by decide) A526 hy526) rfl ?_
                refine xi_cmf (pc' := 16) kc_90_13 rfl rfl ?_
                refine xi_aload_n (pc' := 17) (x := 0) kc_90_16 rfl rfl ?_
                refine xi_getfield (pc' := 20) (v := .ref 94) kc_90_17 rfl rfl rfl A11 rfl ?_
                refine xi_iload_n (pc' := 21) (x := 6) kc_90_20 rfl rfl ?_
                refine xi_dup2 (pc' := 22) kc_90_21 rfl ⟨rfl, rfl⟩ ?_
                obtain ⟨v527, ev527, bv527, dv527⟩ := xj_get hy526 ry526 (i := 6) (by decide) (by decide)
                refine xi_iaload (pc' := 23) (v := v527) kc_90_22 rfl A526 (by decide) rfl (xi_in (by decide) (by rw [hy526]; decide)) ev527 ?_
                refine xi_iconst (pc' := 24) (v := 1) kc_90_23 rfl rfl ?_
                obtain ⟨v528, ev528⟩ : ∃ q : Int32, (v527 : Int32) + 1 = q := ⟨_, rfl⟩
                have rv528 := xc_rng v528
                refine xi_iadd (pc' := 25) (v := v528) kc_90_24 rfl ev528 ?_
                obtain ⟨y529, s529, hy529, ry529⟩ := xj_set (v := v528) hy526 ry526 6 (by first | omega | decide) (by first | omega | decide)
                refine xi_iastore (pc' := 26) (x' := y529) kc_90_25 rfl A526 rfl (xi_in (by decide) (by rw [hy526]; decide)) s529 (fun hh529 eh529 => ?_)
                have K530 := xk_pa K (xk_wa (by decide +kernel)) xD_94 hy529 ry529 eh529
                have KR531 := xk_pa KR (xk_wa (by decide +kernel)) xD_94 hy529 ry529 eh529
                refine xi_iload_n (pc' := 27) (x := (-6)) kc_90_26 rfl rfl ?_
                refine xi_ireturn kc_90_27 mr_90 rfl ?_
                show xw J ov 99 88 (60, [(0, .ref 0), (1, .int a4), (2, .int 2), (3, .int a8)], [.int (-6)], hh529) _
                refine xi_ireturn kc_88_60 mr_88 rfl ?_
                show xw J ov 100 195 (214, [(4, .int x4), (3, .ref 167), (2, .ref 115), (1, .ref 0), (0, .ref 1000000)], [.int (-6)], hh529) _
                refine xi_pop (pc' := 215) kc_195_214 rfl rfl ?_
                refine xi_aload_n (pc' := 216) (x := 115) kc_195_215 rfl rfl ?_
                refine xi_aload_n (pc' := 217) (x := 1000000) kc_195_216 rfl rfl ?_
                refine xi_iload (pc' := 219) (x := x4) kc_195_217 rfl rfl ?_
                refine xi_iconst (pc' := 220) (v := 1) kc_195_219 rfl rfl ?_
                refine xi_iadd (pc' := 221) (v := v3) kc_195_220 rfl ev3 ?_
                refine xi_ialoadO (pc' := 222) (v := a4) kc_195_221 rfl (by decide) hov0 (xi_in (by omega) (by omega)) ea4 ?_
                refine xi_aload_n (pc' := 223) (x := 1000000) kc_195_222 rfl rfl ?_
                refine xi_iload (pc' := 225) (x := x4) kc_195_223 rfl rfl ?_
                refine xi_iconst (pc' := 226) (v := 2) kc_195_225 rfl rfl ?_
                refine xi_iadd (pc' := 227) (v := v5) kc_195_226 rfl ev5 ?_
                refine xi_ialoadO (pc' := 228) (v := 2) kc_195_227 rfl (by decide) hov0 (xi_in (by omega) (by omega)) ea6 ?_
                refine xi_aload_n (pc' := 229) (x := 1000000) kc_195_228 rfl rfl ?_
                refine xi_iload (pc' := 231) (x := x4) kc_195_229 rfl rfl ?_
                refine xi_iconst (pc' := 232) (v := 3) kc_195_231 rfl rfl ?_
                refine xi_iadd (pc' := 233) (v := v7) kc_195_232 rfl ev7 ?_
                refine xi_ialoadO (pc' := 234) (v := a8) kc_195_233 rfl (by decide) hov0 (xi_in (by omega) (by omega)) ea8 ?_
                obtain ⟨u532, u533, u534, u535, u536, u537, u538, u539, u540, u541, u542, u543, u544, bu532, bu533, bu534, bu535, bu536, bu537, bu538, bu539, bu540, bu541, bu542, bu543, bu544, A545⟩ := xq_115 K.1
                have A546 := ((eh529.2.1 115 (by decide)).trans A545)
                refine xi_virtual (mj := 9) (as := [.int a4, .int 2, .int a8]) (st1 := []) (lv0 := [(0, .ref 115), (1, .int a4), (2, .int 2), (3, .int a8)]) kc_195_234 rfl rfl rfl rfl rfl A546 (Nat.le_of_ble_eq_true rfl) (hJ _ _ _ _ (by decide)) (xm_le ml_9 rfl) rfl ?_
                refine xi_aload_n (pc' := 1) (x := 115) kc_9_0 rfl rfl ?_
                refine xi_iconst (pc' := 2) (v := 0) kc_9_1 rfl rfl ?_
                refine xi_putfield (pc' := 5) (fs' := [.int 0, .int u533, .ref 116, .ref 117, .ref 118, .ref 119, .ref 120, .ref 121, .ref 122, .ref 123, .ref 124, .ref 125, .ref 126, .ref 127, .ref 128, .ref 129, .int u534, .ref 130, .int u535, .ref 131, .ref 132, .ref 133, .ref 134, .int u536, .ref 135, .ref 136, .ref 137, .ref 138, .ref 139, .ref 140, .ref 141, .ref 142, .int u537, .int u538, .int u539, .ref 143, .ref 144, .ref 145, .ref 146, .ref 147, .ref 148, .int u540, .ref 149, .ref 150, .ref 151, .int u541, .ref 152, .ref 153, .ref 154, .ref 155, .ref 156, .ref 157, .ref 158, .ref 159, .int u542, .ref 160, .int u543, .ref 161, .ref 162, .ref 163, .ref 164, .int u544, .ref 165, .ref 166]) kc_9_2 rfl rfl rfl A546 rfl rfl rfl (Nat.le_of_ble_eq_true rfl) rfl (fun hh548 eh547 => ?_)
                have K549 := xk_pf (k := 0) (v := 0) K530 (xk_wf (by decide +kernel)) xD_115 A546 rfl (by first | omega | decide) (by first | omega | decide) eh547 rfl
                have KR550 := xk_pf (k := 0) (v := 0) KR531 (xk_wf (by decide +kernel)) xD_115 A546 rfl (by first | omega | decide) (by first | omega | decide) eh547 rfl
                refine xi_iload_n (pc' := 6) (x := a4) kc_9_5 rfl rfl ?_
                refine xi_static (mj := 10) (as := [.int a4]) (st1 := []) (lv0 := [(0, .int a4)]) kc_9_6 rfl rfl (Nat.le_of_ble_eq_true rfl) rfl rfl (Nat.le_of_ble_eq_true rfl) (hJ _ _ _ _ (by decide)) (xm_le ml_10 rfl) rfl ?_
                refine xi_iload_n (pc' := 1) (x := a4) kc_10_0 rfl rfl ?_
                refine xi_iconst (pc' := 2) (v := 0) kc_10_1 rfl rfl ?_
                refine xi_iconst (pc' := 3) (v := 5) kc_10_2 rfl rfl ?_
                refine xi_static (mj := 11) (as := [.int a4, .int 0, .int 5]) (st1 := []) (lv0 := [(0, .int a4), (1, .int 0), (2, .int 5)]) kc_10_3 rfl rfl (Nat.le_of_ble_eq_true rfl) rfl rfl (Nat.le_of_ble_eq_true rfl) (hJ _ _ _ _ (by decide)) (xm_le ml_11 rfl) rfl ?_
                refine xi_iload_n (pc' := 1) (x := a4) kc_11_0 rfl rfl ?_
                refine xi_iload_n (pc' := 2) (x := 0) kc_11_1 rfl rfl ?_
                refine xi_cmf (pc' := 5) kc_11_2 rfl (xc_lt_f (X := a4.toInt) (Y := 0) rfl (by decide) (by omega)) ?_
                refine xi_iload_n (pc' := 6) (x := a4) kc_11_5 rfl rfl ?_
                refine xi_iload_n (pc' := 7) (x := 5) kc_11_6 rfl rfl ?_
                refine xi_cmf (pc' := 10) kc_11_7 rfl (xc_gt_f (X := a4.toInt) (Y := 5) rfl (by decide) (by omega)) ?_
                refine xi_iconst (pc' := 11) (v := 1) kc_11_10 rfl rfl ?_
                refine xi_goto (pc' := 15) kc_11_11 rfl ?_
                refine xi_ireturn kc_11_15 mr_11 rfl ?_
                show xw J ov 98 10 (6, [(0, .int a4)], [.int 1], hh548) _
                refine xi_ireturn kc_10_6 mr_10 rfl ?_
                show xw J ov 99 9 (9, [(0, .ref 115), (1, .int a4), (2, .int 2), (3, .int a8)], [.int 1], hh548) _
                refine xi_ift (pc' := 18) kc_9_9 rfl rfl ?_
                refine xi_iload_n (pc' := 19) (x := 2) kc_9_18 rfl rfl ?_
                refine xi_iconst (pc' := 20) (v := 0) kc_9_19 rfl rfl ?_
                refine xi_iconst (pc' := 21) (v := 5) kc_9_20 rfl rfl ?_
                refine xi_static (mj := 11) (as := [.int 2, .int 0, .int 5]) (st1 := []) (lv0 := [(0, .int 2), (1, .int 0), (2, .int 5)]) kc_9_21 rfl rfl (Nat.le_of_ble_eq_true rfl) rfl rfl (Nat.le_of_ble_eq_true rfl) (hJ _ _ _ _ (by decide)) (xm_le ml_11 rfl) rfl ?_
                refine xi_iload_n (pc' := 1) (x := 2) kc_11_0 rfl rfl ?_
                refine xi_iload_n (pc' := 2) (x := 0) kc_11_1 rfl rfl ?_
                refine xi_cmf (pc' := 5) kc_11_2 rfl rfl ?_
                refine xi_iload_n (pc' := 6) (x := 2) kc_11_5 rfl rfl ?_
                refine xi_iload_n (pc' := 7) (x := 5) kc_11_6 rfl rfl ?_
                refine xi_cmf (pc' := 10) kc_11_7 rfl rfl ?_
                refine xi_iconst (pc' := 11) (v := 1) kc_11_10 rfl rfl ?_
                refine xi_goto (pc' := 15) kc_11_11 rfl ?_
                refine xi_ireturn kc_11_15 mr_11 rfl ?_
                show xw J ov 99 9 (24, [(0, .ref 115), (1, .int a4), (2, .int 2), (3, .int a8)], [.int 1], hh548) _
                refine xi_ift (pc' := 34) kc_9_24 rfl rfl ?_
                refine xi_iload_n (pc' := 35) (x := a8) kc_9_34 rfl rfl ?_
                refine xi_iload_n (pc' := 36) (x := 2) kc_9_35 rfl rfl ?_
                refine xi_ift (pc' := 44) kc_9_36 rfl rfl ?_
                refine xi_iconst (pc' := 45) (v := 0) kc_9_44 rfl rfl ?_
                refine xi_cmt (pc' := 55) kc_9_45 rfl (xc_ge_t (X := a8.toInt) (Y := 0) rfl (by decide) (by omega)) ?_
                refine xi_iload_n (pc' := 56) (x := a8) kc_9_55 rfl rfl ?_
                refine xi_iload_n (pc' := 57) (x := 2) kc_9_56 rfl rfl ?_
                refine xi_ift (pc' := 65) kc_9_57 rfl rfl ?_
                refine xi_iload_n (pc' := 66) (x := 2) kc_9_65 rfl rfl ?_
                refine xi_iconst (pc' := 67) (v := 1) kc_9_66 rfl rfl ?_
                refine xi_cmt (pc' := 75) kc_9_67 rfl rfl ?_
                refine xi_iload_n (pc' := 76) (x := 2) kc_9_75 rfl rfl ?_
                refine xi_iconst (pc' := 77) (v := 4) kc_9_76 rfl rfl ?_
                refine xi_cmf (pc' := 80) kc_9_77 rfl rfl ?_
                refine xi_bipush (pc' := 82) (v := 50) kc_9_80 rfl rfl ?_
                refine xi_goto (pc' := 96) kc_9_82 rfl ?_
                refine xi_cmf (pc' := 99) kc_9_96 rfl (xc_le_f (X := a8.toInt) (Y := 50) rfl (by decide) (by omega)) ?_
                refine xi_aload_n (pc' := 100) (x := 115) kc_9_99 rfl rfl ?_
                refine xi_bipush (pc' := 102) (v := (-6)) kc_9_100 rfl rfl ?_
                refine xi_virtual (mj := 12) (as := [.int (-6)]) (st1 := []) (lv0 := [(0, .ref 115), (1, .int (-6))]) kc_9_102 rfl rfl rfl rfl rfl eh547.1 (Nat.le_of_ble_eq_true rfl) (hJ _ _ _ _ (by decide)) (xm_le ml_12 rfl) rfl ?_
                refine xi_aload_n (pc' := 1) (x := 115) kc_12_0 rfl rfl ?_
                refine xi_getfield (pc' := 4) (v := .ref 140) kc_12_1 rfl rfl rfl eh547.1 rfl ?_
                refine xi_iload_n (pc' := 5) (x := (-6)) kc_12_4 rfl rfl ?_
                refine xi_ineg (pc' := 6) (v := 6) kc_12_5 rfl rfl ?_
                refine xi_dup2 (pc' := 7) kc_12_6 rfl ⟨rfl, rfl⟩ ?_
                obtain ⟨y551, A551, hy551, ry551⟩ := xk_arr K.1 xD_140
                obtain ⟨v552, ev552, bv552, dv552⟩ := xj_get hy551 ry551 (i := 6) (by decide) (by decide)
                have A553 := ((eh547.2.1 140 (by decide)).trans ((eh529.2.1 140 (by decide)).trans A551))
                refine xi_iaload (pc' := 8) (v := v552) kc_12_7 rfl A553 (by decide) rfl (xi_in (by decide) (by rw [hy551]; decide)) ev552 ?_
                refine xi_iconst (pc' := 9) (v := 1) kc_12_8 rfl rfl ?_
                obtain ⟨v554, ev554⟩ : ∃ q : Int32, (v552 : Int32) + 1 = q := ⟨_, rfl⟩
                have rv554 := xc_rng v554
                refine xi_iadd (pc' := 10) (v := v554) kc_12_9 rfl ev554 ?_
                obtain ⟨y555, s555, hy555, ry555⟩ := xj_set (v := v554) hy551 ry551 6 (by first | omega | decide) (by first | omega | decide)
                refine xi_iastore (pc' := 11) (x' := y555) kc_12_10 rfl A553 rfl (xi_in (by decide) (by rw [hy551]; decide)) s555 (fun hh555 eh555 => ?_)
                have K556 := xk_pa K549 (xk_wa (by decide +kernel)) xD_140 hy555 ry555 eh555
                have KR557 := xk_pa KR550 (xk_wa (by decide +kernel)) xD_140 hy555 ry555 eh555
                refine xi_iload_n (pc' := 12) (x := (-6)) kc_12_11 rfl rfl ?_
                refine xi_ireturn kc_12_12 mr_12 rfl ?_
                show xw J ov 99 9 (105, [(0, .ref 115), (1, .int a4), (2, .int 2), (3, .int a8)], [.int (-6)], hh555) _
                refine xi_ireturn kc_9_105 mr_9 rfl ?_
                show xw J ov 100 195 (237, [(4, .int x4), (3, .ref 167), (2, .ref 115), (1, .ref 0), (0, .ref 1000000)], [.int (-6)], hh555) _
                refine xi_pop (pc' := 238) kc_195_237 rfl rfl ?_
                refine xi_goto (pc' := 1501) kc_195_238 rfl ?_
                obtain ⟨v558, ev558⟩ : ∃ q : Int32, x4 + 6 = q := ⟨_, rfl⟩
                have zv558 : v558.toInt = (x4.toInt + 6) := by rw [← ev558]; exact (xz_add (X := x4.toInt) (Y := 6) rfl (by decide) (by omega) (by omega)).trans (by omega)
                refine xi_iinc (pc' := 1504) (x := x4) (v := v558) (lv' := [(4, .int v558), (3, .ref 167), (2, .ref 115), (1, .ref 0), (0, .ref 1000000)]) kc_195_1501 rfl rfl ev558 rfl (xm_lt ml_195 rfl) ?_
                refine xi_goto (pc' := 23) kc_195_1504 rfl ?_
                exact kk v558 hh555 (by omega) K556 (xI_kept I KR557.2.1)
            · refine xi_cmf (pc' := 38) kc_88_35 rfl (xc_ge_f (X := a8.toInt) (Y := 0) rfl (by decide) (by omega)) ?_
              refine xi_aload_n (pc' := 39) (x := 0) kc_88_38 rfl rfl ?_
              refine xi_bipush (pc' := 41) (v := (-4)) kc_88_39 rfl rfl ?_
              refine xi_virtual (mj := 90) (as := [.int (-4)]) (st1 := []) (lv0 := [(0, .ref 0), (1, .int (-4))]) kc_88_41 rfl rfl rfl rfl rfl A11 (Nat.le_of_ble_eq_true rfl) (hJ _ _ _ _ (by decide)) (xm_le ml_90 rfl) rfl ?_
              refine xi_iload_n (pc' := 1) (x := (-4)) kc_90_0 rfl rfl ?_
              refine xi_ineg (pc' := 2) (v := 4) kc_90_1 rfl rfl ?_
              refine xi_istore_n (pc' := 3) (lv' := [(2, .int 4), (0, .ref 0), (1, .int (-4))]) kc_90_2 rfl rfl (xm_lt ml_90 rfl) ?_
              refine xi_iload_n (pc' := 4) (x := 4) kc_90_3 rfl rfl ?_
              refine xi_iff (pc' := 7) kc_90_4 rfl rfl ?_
              refine xi_iload_n (pc' := 8) (x := 4) kc_90_7 rfl rfl ?_
              refine xi_aload_n (pc' := 9) (x := 0) kc_90_8 rfl rfl ?_
              refine xi_getfield (pc' := 12) (v := .ref 94) kc_90_9 rfl rfl rfl A11 rfl ?_
              obtain ⟨y559, A559, hy559, ry559⟩ := xk_arr K.1 xD_94
              refine xi_arraylength (pc' := 13) (n := 7) (v := 7) kc_90_12 rfl (xl_lenI (by decide) (by decide) A559 hy559) rfl ?_
              refine xi_cmf (pc' := 16) kc_90_13 rfl rfl ?_
              refine xi_aload_n (pc' := 17) (x := 0) kc_90_16 rfl rfl ?_
              refine xi_getfield (pc' := 20) (v := .ref 94) kc_90_17 rfl rfl rfl A11 rfl ?_
              refine xi_iload_n (pc' := 21) (x := 4) kc_90_20 rfl rfl ?_
              refine xi_dup2 (pc' := 22) kc_90_21 rfl ⟨rfl, rfl⟩ ?_
              obtain ⟨v560, ev560, bv560, dv560⟩ := xj_get hy559 ry559 (i := 4) (by decide) (by decide)
              refine xi_iaload (pc' := 23) (v := v560) kc_90_22 rfl A559 (by decide) rfl (xi_in (by decide) (by rw [hy559]; decide)) ev560 ?_
              refine xi_iconst (pc' := 24) (v := 1) kc_90_23 rfl rfl ?_
              obtain ⟨v561, ev561⟩ : ∃ q : Int32, (v560 : Int32) + 1 = q := ⟨_, rfl⟩
              have rv561 := xc_rng v561
              refine xi_iadd (pc' := 25) (v := v561) kc_90_24 rfl ev561 ?_
              obtain ⟨y562, s562, hy562, ry562⟩ := xj_set (v := v561) hy559 ry559 4 (by first | omega | decide) (by first | omega | decide)
              refine xi_iastore (pc' := 26) (x' := y562) kc_90_25 rfl A559 rfl (xi_in (by decide) (by rw [hy559]; decide)) s562 (fun hh562 eh562 => ?_)
              have K563 := xk_pa K (xk_wa (by decide +kernel)) xD_94 hy562 ry562 eh562
              have KR564 := xk_pa KR (xk_wa (by decide +kernel)) xD_94 hy562 ry562 eh562
              refine xi_iload_n (pc' := 27) (x := (-4)) kc_90_26 rfl rfl ?_
              refine xi_ireturn kc_90_27 mr_90 rfl ?_
              show xw J ov 99 88 (44, [(0, .ref 0), (1, .int a4), (2, .int 2), (3, .int a8)], [.int (-4)], hh562) _
              refine xi_ireturn kc_88_44 mr_88 rfl ?_
              show xw J ov 100 195 (214, [(4, .int x4), (3, .ref 167), (2, .ref 115), (1, .ref 0), (0, .ref 1000000)], [.int (-4)], hh562) _
              refine xi_pop (pc' := 215) kc_195_214 rfl rfl ?_
              refine xi_aload_n (pc' := 216) (x := 115) kc_195_215 rfl rfl ?_
              refine xi_aload_n (pc' := 217) (x := 1000000) kc_195_216 rfl rfl ?_
              refine xi_iload (pc' := 219) (x := x4) kc_195_217 rfl rfl ?_
              refine xi_iconst (pc' := 220) (v := 1) kc_195_219 rfl rfl ?_
              refine xi_iadd (pc' := 221) (v := v3) kc_195_220 rfl ev3 ?_
              refine xi_ialoadO (pc' := 222) (v := a4) kc_195_221 rfl (by decide) hov0 (xi_in (by omega) (by omega)) ea4 ?_
              refine xi_aload_n (pc' := 223) (x := 1000000) kc_195_222 rfl rfl ?_
              refine xi_iload (pc' := 225) (x := x4) kc_195_223 rfl rfl ?_
              refine xi_iconst (pc' := 226) (v := 2) kc_195_225 rfl rfl ?_
              refine xi_iadd (pc' := 227) (v := v5) kc_195_226 rfl ev5 ?_
              refine xi_ialoadO (pc' := 228) (v := 2) kc_195_227 rfl (by decide) hov0 (xi_in (by omega) (by omega)) ea6 ?_
              refine xi_aload_n (pc' := 229) (x := 1000000) kc_195_228 rfl rfl ?_
              refine xi_iload (pc' := 231) (x := x4) kc_195_229 rfl rfl ?_
              refine xi_iconst (pc' := 232) (v := 3) kc_195_231 rfl rfl ?_
              refine xi_iadd (pc' := 233) (v := v7) kc_195_232 rfl ev7 ?_
              refine xi_ialoadO (pc' := 234) (v := a8) kc_195_233 rfl (by decide) hov0 (xi_in (by omega) (by omega)) ea8 ?_
              obtain ⟨u565, u566, u567, u568, u569, u570, u571, u572, u573, u574, u575, u576, u577, bu565, bu566, bu567, bu568, bu569, bu570, bu571, bu572, bu573, bu574, bu575, bu576, bu577, A578⟩ := xq_115 K.1
              have A579 := ((eh562.2.1 115 (by decide)).trans A578)
              refine xi_virtual (mj := 9) (as := [.int a4, .int 2, .int a8]) (st1 := []) (lv0 := [(0, .ref 115), (1, .int a4), (2, .int 2), (3, .int a8)]) kc_195_234 rfl rfl rfl rfl rfl A579 (Nat.le_of_ble_eq_true rfl) (hJ _ _ _ _ (by decide)) (xm_le ml_9 rfl) rfl ?_
              refine xi_aload_n (pc' := 1) (x := 115) kc_9_0 rfl rfl ?_
              refine xi_iconst (pc' := 2) (v := 0) kc_9_1 rfl rfl ?_
              refine xi_putfield (pc' := 5) (fs' := [.int 0, .int u566, .ref 116, .ref 117, .ref 118, .ref 119, .ref 120, .ref 121, .ref 122, .ref 123, .ref 124, .ref 125, .ref 126, .ref 127, .ref 128, .ref 129, .int u567, .ref 130, .int u568, .ref 131, .ref 132, .ref 133, .ref 134, .int u569, .ref 135, .ref 136, .ref 137, .ref 138, .ref 139, .ref 140, .ref 141, .ref 142, .int u570, .int u571, .int u572, .ref 143, .ref 144, .ref 145, .ref 146, .ref 147, .ref 148, .int u573, .ref 149, .ref 150, .ref 151, .int u574, .ref 152, .ref 153, .ref 154, .ref 155, .ref 156, .ref 157, .ref 158, .ref 159, .int u575, .ref 160, .int u576, .ref 161, .ref 162, .ref 163, .ref 164, .int u577, .ref 165, .ref 166]) kc_9_2 rfl rfl rfl A579 rfl rfl rfl (Nat.le_of_ble_eq_true rfl) rfl (fun hh581 eh580 => ?_)
              have K582 := xk_pf (k := 0) (v := 0) K563 (xk_wf (by decide +kernel)) xD_115 A579 rfl (by first | omega | decide) (by first | omega | decide) eh580 rfl
              have KR583 := xk_pf (k := 0) (v := 0) KR564 (xk_wf (by decide +kernel)) xD_115 A579 rfl (by first | omega | decide) (by first | omega | decide) eh580 rfl
              refine xi_iload_n (pc' := 6) (x := a4) kc_9_5 rfl rfl ?_
              refine xi_static (mj := 10) (as := [.int a4]) (st1 := []) (lv0 := [(0, .int a4)]) kc_9_6 rfl rfl (Nat.le_of_ble_eq_true rfl) rfl rfl (Nat.le_of_ble_eq_true rfl) (hJ _ _ _ _ (by decide)) (xm_le ml_10 rfl) rfl ?_
              refine xi_iload_n (pc' := 1) (x := a4) kc_10_0 rfl rfl ?_
              refine xi_iconst (pc' := 2) (v := 0) kc_10_1 rfl rfl ?_
              refine xi_iconst (pc' := 3) (v := 5) kc_10_2 rfl rfl ?_
              refine xi_static (mj := 11) (as := [.int a4, .int 0, .int 5]) (st1 := []) (lv0 := [(0, .int a4), (1, .int 0), (2, .int 5)]) kc_10_3 rfl rfl (Nat.le_of_ble_eq_true rfl) rfl rfl (Nat.le_of_ble_eq_true rfl) (hJ _ _ _ _ (by decide)) (xm_le ml_11 rfl) rfl ?_
              refine xi_iload_n (pc' := 1) (x := a4) kc_11_0 rfl rfl ?_
              refine xi_iload_n (pc' := 2) (x := 0) kc_11_1 rfl rfl ?_
              refine xi_cmf (pc' := 5) kc_11_2 rfl (xc_lt_f (X := a4.toInt) (Y := 0) rfl (by decide) (by omega)) ?_
              refine xi_iload_n (pc' := 6) (x := a4) kc_11_5 rfl rfl ?_
              refine xi_iload_n (pc' := 7) (x := 5) kc_11_6 rfl rfl ?_
              refine xi_cmf (pc' := 10) kc_11_7 rfl (xc_gt_f (X := a4.toInt) (Y := 5) rfl (by decide) (by omega)) ?_
              refine xi_iconst (pc' := 11) (v := 1) kc_11_10 rfl rfl ?_
              refine xi_goto (pc' := 15) kc_11_11 rfl ?_
              refine xi_ireturn kc_11_15 mr_11 rfl ?_
              show xw J ov 98 10 (6, [(0, .int a4)], [.int 1], hh581) _
              refine xi_ireturn kc_10_6 mr_10 rfl ?_
              show xw J ov 99 9 (9, [(0, .ref 115), (1, .int a4), (2, .int 2), (3, .int a8)], [.int 1], hh581) _
              refine xi_ift (pc' := 18) kc_9_9 rfl rfl ?_
              refine xi_iload_n (pc' := 19) (x := 2) kc_9_18 rfl rfl ?_
              refine xi_iconst (pc' := 20) (v := 0) kc_9_19 rfl rfl ?_
              refine xi_iconst (pc' := 21) (v := 5) kc_9_20 rfl rfl ?_
              refine xi_static (mj := 11) (as := [.int 2, .int 0, .int 5]) (st1 := []) (lv0 := [(0, .int 2), (1, .int 0), (2, .int 5)]) kc_9_21 rfl rfl (Nat.le_of_ble_eq_true rfl) rfl rfl (Nat.le_of_ble_eq_true rfl) (hJ _ _ _ _ (by decide)) (xm_le ml_11 rfl) rfl ?_
              refine xi_iload_n (pc' := 1) (x := 2) kc_11_0 rfl rfl ?_
              refine xi_iload_n (pc' := 2) (x := 0) kc_11_1 rfl rfl ?_
              refine xi_cmf (pc' := 5) kc_11_2 rfl rfl ?_
              refine xi_iload_n (pc' := 6) (x := 2) kc_11_5 rfl rfl ?_
              refine xi_iload_n (pc' := 7) (x := 5) kc_11_6 rfl rfl ?_
              refine xi_cmf (pc' := 10) kc_11_7 rfl rfl ?_
              refine xi_iconst (pc' := 11) (v := 1) kc_11_10 rfl rfl ?_
              refine xi_goto (pc' := 15) kc_11_11 rfl ?_
              refine xi_ireturn kc_11_15 mr_11 rfl ?_
              show xw J ov 99 9 (24, [(0, .ref 115), (1, .int a4), (2, .int 2), (3, .int a8)], [.int 1], hh581) _
              refine xi_ift (pc' := 34) kc_9_24 rfl rfl ?_
              refine xi_iload_n (pc' := 35) (x := a8) kc_9_34 rfl rfl ?_
              refine xi_iload_n (pc' := 36) (x := 2) kc_9_35 rfl rfl ?_
              refine xi_ift (pc' := 44) kc_9_36 rfl rfl ?_
              refine xi_iconst (pc' := 45) (v := 0) kc_9_44 rfl rfl ?_
              refine xi_cmf (pc' := 48) kc_9_45 rfl (xc_ge_f (X := a8.toInt) (Y := 0) rfl (by decide) (by omega)) ?_
              refine xi_aload_n (pc' := 49) (x := 115) kc_9_48 rfl rfl ?_
              refine xi_bipush (pc' := 51) (v := (-4)) kc_9_49 rfl rfl ?_
              refine xi_virtual (mj := 12) (as := [.int (-4)]) (st1 := []) (lv0 := [(0, .ref 115), (1, .int (-4))]) kc_9_51 rfl rfl rfl rfl rfl eh580.1 (Nat.le_of_ble_eq_true rfl) (hJ _ _ _ _ (by decide)) (xm_le ml_12 rfl) rfl ?_
              refine xi_aload_n (pc' := 1) (x := 115) kc_12_0 rfl rfl ?_
              refine xi_getfield (pc' := 4) (v := .ref 140) kc_12_1 rfl rfl rfl eh580.1 rfl ?_
              refine xi_iload_n (pc' := 5) (x := (-4)) kc_12_4 rfl rfl ?_
              refine xi_ineg (pc' := 6) (v := 4) kc_12_5 rfl rfl ?_
              refine xi_dup2 (pc' := 7) kc_12_6 rfl ⟨rfl, rfl⟩ ?_
              obtain ⟨y584, A584, hy584, ry584⟩ := xk_arr K.1 xD_140
              obtain ⟨v585, ev585, bv585, dv585⟩ := xj_get hy584 ry584 (i := 4) (by decide) (by decide)
              have A586 := ((eh580.2.1 140 (by decide)).trans ((eh562.2.1 140 (by decide)).trans A584))
              refine xi_iaload (pc' := 8) (v := v585) kc_12_7 rfl A586 (by decide) rfl (xi_in (by decide) (by rw [hy584]; decide)) ev585 ?_
              refine xi_iconst (pc' := 9) (v := 1) kc_12_8 rfl rfl ?_
              obtain ⟨v587, ev587⟩ : ∃ q : Int32, (v585 : Int32) + 1 = q := ⟨_, rfl⟩
              have rv587 := xc_rng v587
              refine xi_iadd (pc' := 10) (v := v587) kc_12_9 rfl ev587 ?_
              obtain ⟨y588, s588, hy588, ry588⟩ := xj_set (v := v587) hy584 ry584 4 (by first | omega | decide) (by first | omega | decide)
              refine xi_iastore (pc' := 11) (x' := y588) kc_12_10 rfl A586 rfl (xi_in (by decide) (by rw [hy584]; decide)) s588 (fun hh588 eh588 => ?_)
              have K589 := xk_pa K582 (xk_wa (by decide +kernel)) xD_140 hy588 ry588 eh588
              have KR590 := xk_pa KR583 (xk_wa (by decide +kernel)) xD_140 hy588 ry588 eh588
              refine xi_iload_n (pc' := 12) (x := (-4)) kc_12_11 rfl rfl ?_
              refine xi_ireturn kc_12_12 mr_12 rfl ?_
              show xw J ov 99 9 (54, [(0, .ref 115), (1, .int a4), (2, .int 2), (3, .int a8)], [.int (-4)], hh588) _
              refine xi_ireturn kc_9_54 mr_9 rfl ?_
              show xw J ov 100 195 (237, [(4, .int x4), (3, .ref 167), (2, .ref 115), (1, .ref 0), (0, .ref 1000000)], [.int (-4)], hh588) _
              refine xi_pop (pc' := 238) kc_195_237 rfl rfl ?_
              refine xi_goto (pc' := 1501) kc_195_238 rfl ?_
              obtain ⟨v591, ev591⟩ : ∃ q : Int32, x4 + 6 = q := ⟨_, rfl⟩
              have zv591 : v591.toInt = (x4.toInt + 6) := by rw [← ev591]; exact (xz_add (X := x4.toInt) (Y := 6) rfl (by decide) (by omega) (by omega)).trans (by omega)
              refine xi_iinc (pc' := 1504) (x := x4) (v := v591) (lv' := [(4, .int v591), (3, .ref 167), (2, .ref 115), (1, .ref 0), (0, .ref 1000000)]) kc_195_1501 rfl rfl ev591 rfl (xm_lt ml_195 rfl) ?_
              refine xi_goto (pc' := 23) kc_195_1504 rfl ?_
              exact kk v591 hh588 (by omega) K589 (xI_kept I KR590.2.1)
          by_cases c592 : a6.toInt = 3
          · have qa6 : a6 = 3 := xc_of (Eq.trans (by omega) (show (3 : Int) = (3 : Int32).toInt by decide))
            subst qa6
            refine xi_ialoadO (pc' := 35) (v := 0) kc_88_34 rfl (by decide) hov1 (xi_in (n := 6) (by decide) (by decide)) rfl ?_
            by_cases c593 : 0 ≤ a8.toInt
            · refine xi_cmt (pc' := 45) kc_88_35 rfl (xc_ge_t (X := a8.toInt) (Y := 0) rfl (by decide) (by omega)) ?_
              refine xi_iload_n (pc' := 46) (x := a8) kc_88_45 rfl rfl ?_
              refine xi_getstatic (pc' := 49) (j := 1000002) kc_88_46 rfl rfl ?_
              refine xi_iload_n (pc' := 50) (x := 3) kc_88_49 rfl rfl ?_
              refine xi_ialoadO (pc' := 51) (v := 50) kc_88_50 rfl (by decide) hov2 (xi_in (n := 6) (by decide) (by decide)) rfl ?_
              by_cases c594 : a8.toInt ≤ 50
              · refine xi_cmt (pc' := 61) kc_88_51 rfl (xc_le_t (X := a8.toInt) (Y := 50) rfl (by decide) (by omega)) ?_
                refine xi_iload_n (pc' := 62) (x := 3) kc_88_61 rfl rfl ?_
                refine xi_iconst (pc' := 63) (v := 5) kc_88_62 rfl rfl ?_
                refine xi_cmt (pc' := 90) kc_88_63 rfl rfl ?_
                refine xi_aload_n (pc' := 91) (x := 0) kc_88_90 rfl rfl ?_
                refine xi_getfield (pc' := 94) (v := .ref 66) kc_88_91 rfl rfl rfl A11 rfl ?_
                obtain ⟨u596, wl595, bu596, A597⟩ := xq_66 K.1
                refine xi_virtual (mj := 91) (as := []) (st1 := []) (lv0 := [(0, .ref 66)]) kc_88_94 rfl rfl rfl rfl rfl A597 (Nat.le_of_ble_eq_true rfl) (hJ _ _ _ _ (by decide)) (xm_le ml_91 rfl) rfl ?_
                refine xi_aload_n (pc' := 1) (x := 66) kc_91_0 rfl rfl ?_
                refine xi_lconst (pc' := 2) (v := 0) kc_91_1 rfl rfl ?_
                refine xi_putfield (pc' := 5) (fs' := [.ref 1, .ref 67, .ref 70, .ref 71, .ref 72, .ref 73, .ref 74, .long 0, .int u596]) kc_91_2 rfl rfl rfl A597 rfl rfl rfl (Nat.le_of_ble_eq_true rfl) rfl (fun hh599 eh598 => ?_)
                have K600 := xk_pl (k := 7) (v := 0) K (xk_wf (by decide +kernel)) xD_66 A597 rfl eh598 rfl
                have KR601 := xk_pl (k := 7) (v := 0) KR (xk_wf (by decide +kernel)) xD_66 A597 rfl eh598 rfl
                refine xi_return kc_91_5 mr_91 ?_
                show xw J ov 99 88 (97, [(0, .ref 0), (1, .int a4), (2, .int 3), (3, .int a8)], [], hh599) _
                refine xi_aload_n (pc' := 98) (x := 0) kc_88_97 rfl rfl ?_
                have A602 := ((eh598.2.1 0 (by decide)).trans A11)
                refine xi_getfield (pc' := 101) (v := .ref 1) kc_88_98 rfl rfl rfl A602 rfl ?_
                refine xi_iload_n (pc' := 102) (x := a4) kc_88_101 rfl rfl ?_
                refine xi_iload_n (pc' := 103) (x := 3) kc_88_102 rfl rfl ?_
                refine xi_iload_n (pc' := 104) (x := a8) kc_88_103 rfl rfl ?_
                obtain ⟨u603, u604, bu603, bu604, A605⟩ := xq_1 K.1
                have A606 := ((eh598.2.1 1 (by decide)).trans A605)
                refine xi_virtual (mj := 92) (as := [.int a4, .int 3, .int a8]) (st1 := []) (lv0 := [(0, .ref 1), (1, .int a4), (2, .int 3), (3, .int a8)]) kc_88_104 rfl rfl rfl rfl rfl A606 (Nat.le_of_ble_eq_true rfl) (hJ _ _ _ _ (by decide)) (xm_le ml_92 rfl) rfl ?_
                have F607 := xra_fr WWb (xl_c (eh598.2.1 121 (by decide)))
                have F608 := xg6_c I6 (fun c hc => eh598.2.1 c (Ne.symm (xk_nc hc rfl)))
                have F609 := xr5_c I5 (fun c hc => eh598.2.1 c (Ne.symm (xk_nc hc rfl)))
                have zc3 : (3 : Int32).toInt = 3 := by decide
                refine xw_chg hJ hov1 hov2 (d := 96) (x1 := a4) (x2 := 3) (x3 := a8) K600.1 F608 (by omega) (by omega) (fun r610 hh611 hr610 K612 I613 => ?_)
                have rr610 := xc_rng r610
                have nqr610 : Int32.toNatClampNeg 3 = 3 := by decide
                rw [nqr610] at hr610 I613
                have I6135 := xr5_k F609 K612 (by decide +kernel)
                have I613W := xra_fr F607 (K612.2.1 (121, 0) (by decide +kernel))
                have A614 := ((eh598.2.1 64 (by decide)).trans A1)
                have K615 := xk_tr K600 K612 (xsb_ok _ _ (by decide +kernel))
                have A616 := xk_eqa (q := 0) K612 (by decide +kernel) A614
                obtain ⟨u617, u618, bu617, bu618, A619⟩ := xq_0 K615.1
                have e620 : u10 = u618 := xk_eqi (q := 9) K612 (by decide +kernel) A602 A619 rfl rfl
                subst e620
                have e621 : u9 = u617 := xk_eqi (q := 8) K612 (by decide +kernel) A602 A619 rfl rfl
                subst e621
                obtain ⟨u622, u623, bu622, bu623, A624⟩ := xq_1 K615.1
                have e625 : u603 = u622 := xk_eqi (q := 5) K612 (by decide +kernel) A606 A624 rfl rfl
                subst e625
                show xw J ov 99 88 (107, [(0, .ref 0), (1, .int a4), (2, .int 3), (3, .int a8)], [.int r610], hh611) _
                refine xi_ireturn kc_88_107 mr_88 rfl ?_
                show xw J ov 100 195 (214, [(4, .int x4), (3, .ref 167), (2, .ref 115), (1, .ref 0), (0, .ref 1000000)], [.int r610], hh611) _
                refine xi_pop (pc' := 215) kc_195_214 rfl rfl ?_
                refine xi_aload_n (pc' := 216) (x := 115) kc_195_215 rfl rfl ?_
                refine xi_aload_n (pc' := 217) (x := 1000000) kc_195_216 rfl rfl ?_
                refine xi_iload (pc' := 219) (x := x4) kc_195_217 rfl rfl ?_
                refine xi_iconst (pc' := 220) (v := 1) kc_195_219 rfl rfl ?_
                refine xi_iadd (pc' := 221) (v := v3) kc_195_220 rfl ev3 ?_
                refine xi_ialoadO (pc' := 222) (v := a4) kc_195_221 rfl (by decide) hov0 (xi_in (by omega) (by omega)) ea4 ?_
                refine xi_aload_n (pc' := 223) (x := 1000000) kc_195_222 rfl rfl ?_
                refine xi_iload (pc' := 225) (x := x4) kc_195_223 rfl rfl ?_
                refine xi_iconst (pc' := 226) (v := 2) kc_195_225 rfl rfl ?_
                refine xi_iadd (pc' := 227) (v := v5) kc_195_226 rfl ev5 ?_
                refine xi_ialoadO (pc' := 228) (v := 3) kc_195_227 rfl (by decide) hov0 (xi_in (by omega) (by omega)) ea6 ?_
                refine xi_aload_n (pc' := 229) (x := 1000000) kc_195_228 rfl rfl ?_
                refine xi_iload (pc' := 231) (x := x4) kc_195_229 rfl rfl ?_
                refine xi_iconst (pc' := 232) (v := 3) kc_195_231 rfl rfl ?_
                refine xi_iadd (pc' := 233) (v := v7) kc_195_232 rfl ev7 ?_
                refine xi_ialoadO (pc' := 234) (v := a8) kc_195_233 rfl (by decide) hov0 (xi_in (by omega) (by omega)) ea8 ?_
                obtain ⟨u626, u627, u628, u629, u630, u631, u632, u633, u634, u635, u636, u637, u638, bu626, bu627, bu628, bu629, bu630, bu631, bu632, bu633, bu634, bu635, bu636, bu637, bu638, A639⟩ := xq_115 K615.1
                refine xi_virtual (mj := 9) (as := [.int a4, .int 3, .int a8]) (st1 := []) (lv0 := [(0, .ref 115), (1, .int a4), (2, .int 3), (3, .int a8)]) kc_195_234 rfl rfl rfl rfl rfl A639 (Nat.le_of_ble_eq_true rfl) (hJ _ _ _ _ (by decide)) (xm_le ml_9 rfl) rfl ?_
                refine xi_aload_n (pc' := 1) (x := 115) kc_9_0 rfl rfl ?_
                refine xi_iconst (pc' := 2) (v := 0) kc_9_1 rfl rfl ?_
                refine xi_putfield (pc' := 5) (fs' := [.int 0, .int u627, .ref 116, .ref 117, .ref 118, .ref 119, .ref 120, .ref 121, .ref 122, .ref 123, .ref 124, .ref 125, .ref 126, .ref 127, .ref 128, .ref 129, .int u628, .ref 130, .int u629, .ref 131, .ref 132, .ref 133, .ref 134, .int u630, .ref 135, .ref 136, .ref 137, .ref 138, .ref 139, .ref 140, .ref 141, .ref 142, .int u631, .int u632, .int u633, .ref 143, .ref 144, .ref 145, .ref 146, .ref 147, .ref 148, .int u634, .ref 149, .ref 150, .ref 151, .int u635, .ref 152, .ref 153, .ref 154, .ref 155, .ref 156, .ref 157, .ref 158, .ref 159, .int u636, .ref 160, .int u637, .ref 161, .ref 162, .ref 163, .ref 164, .int u638, .ref 165, .ref 166]) kc_9_2 rfl rfl rfl A639 rfl rfl rfl (Nat.le_of_ble_eq_true rfl) rfl (fun hh641 eh640 => ?_)
                have K642 := xk_pf (k := 0) (v := 0) K615 (xk_wf (by decide +kernel)) xD_115 A639 rfl (by first | omega | decide) (by first | omega | decide) eh640 rfl
                refine xi_iload_n (pc' := 6) (x := a4) kc_9_5 rfl rfl ?_
                refine xi_static (mj := 10) (as := [.int a4]) (st1 := []) (lv0 := [(0, .int a4)]) kc_9_6 rfl rfl (Nat.le_of_ble_eq_true rfl) rfl rfl (Nat.le_of_ble_eq_true rfl) (hJ _ _ _ _ (by decide)) (xm_le ml_10 rfl) rfl ?_
                refine xi_iload_n (pc' := 1) (x := a4) kc_10_0 rfl rfl ?_
                refine xi_iconst (pc' := 2) (v := 0) kc_10_1 rfl rfl ?_
                refine xi_iconst (pc' := 3) (v := 5) kc_10_2 rfl rfl ?_
                refine xi_static (mj := 11) (as := [.int a4, .int 0, .int 5]) (st1 := []) (lv0 := [(0, .int a4), (1, .int 0), (2, .int 5)]) kc_10_3 rfl rfl (Nat.le_of_ble_eq_true rfl) rfl rfl (Nat.le_of_ble_eq_true rfl) (hJ _ _ _ _ (by decide)) (xm_le ml_11 rfl) rfl ?_
                refine xi_iload_n (pc' := 1) (x := a4) kc_11_0 rfl rfl ?_
                refine xi_iload_n (pc' := 2) (x := 0) kc_11_1 rfl rfl ?_
                refine xi_cmf (pc' := 5) kc_11_2 rfl (xc_lt_f (X := a4.toInt) (Y := 0) rfl (by decide) (by omega)) ?_
                refine xi_iload_n (pc' := 6) (x := a4) kc_11_5 rfl rfl ?_
                refine xi_iload_n (pc' := 7) (x := 5) kc_11_6 rfl rfl ?_
                refine xi_cmf (pc' := 10) kc_11_7 rfl (xc_gt_f (X := a4.toInt) (Y := 5) rfl (by decide) (by omega)) ?_
                refine xi_iconst (pc' := 11) (v := 1) kc_11_10 rfl rfl ?_
                refine xi_goto (pc' := 15) kc_11_11 rfl ?_
                refine xi_ireturn kc_11_15 mr_11 rfl ?_
                show xw J ov 98 10 (6, [(0, .int a4)], [.int 1], hh641) _
                refine xi_ireturn kc_10_6 mr_10 rfl ?_
                show xw J ov 99 9 (9, [(0, .ref 115), (1, .int a4), (2, .int 3), (3, .int a8)], [.int 1], hh641) _
                refine xi_ift (pc' := 18) kc_9_9 rfl rfl ?_
                refine xi_iload_n (pc' := 19) (x := 3) kc_9_18 rfl rfl ?_
                refine xi_iconst (pc' := 20) (v := 0) kc_9_19 rfl rfl ?_
                refine xi_iconst (pc' := 21) (v := 5) kc_9_20 rfl rfl ?_
                refine xi_static (mj := 11) (as := [.int 3, .int 0, .int 5]) (st1 := []) (lv0 := [(0, .int 3), (1, .int 0), (2, .int 5)]) kc_9_21 rfl rfl (Nat.le_of_ble_eq_true rfl) rfl rfl (Nat.le_of_ble_eq_true rfl) (hJ _ _ _ _ (by decide)) (xm_le ml_11 rfl) rfl ?_
                refine xi_iload_n (pc' := 1) (x := 3) kc_11_0 rfl rfl ?_
                refine xi_iload_n (pc' := 2) (x := 0) kc_11_1 rfl rfl ?_
                refine xi_cmf (pc' := 5) kc_11_2 rfl rfl ?_
                refine xi_iload_n (pc' := 6) (x := 3) kc_11_5 rfl rfl ?_
                refine xi_iload_n (pc' := 7) (x := 5) kc_11_6 rfl rfl ?_
                refine xi_cmf (pc' := 10) kc_11_7 rfl rfl ?_
                refine xi_iconst (pc' := 11) (v := 1) kc_11_10 rfl rfl ?_
                refine xi_goto (pc' := 15) kc_11_11 rfl ?_
                refine xi_ireturn kc_11_15 mr_11 rfl ?_
                show xw J ov 99 9 (24, [(0, .ref 115), (1, .int a4), (2, .int 3), (3, .int a8)], [.int 1], hh641) _
                refine xi_ift (pc' := 34) kc_9_24 rfl rfl ?_
                refine xi_iload_n (pc' := 35) (x := a8) kc_9_34 rfl rfl ?_
                refine xi_iload_n (pc' := 36) (x := 3) kc_9_35 rfl rfl ?_
                refine xi_ift (pc' := 44) kc_9_36 rfl rfl ?_
                refine xi_iconst (pc' := 45) (v := 0) kc_9_44 rfl rfl ?_
                refine xi_cmt (pc' := 55) kc_9_45 rfl (xc_ge_t (X := a8.toInt) (Y := 0) rfl (by decide) (by omega)) ?_
                refine xi_iload_n (pc' := 56) (x := a8) kc_9_55 rfl rfl ?_
                refine xi_iload_n (pc' := 57) (x := 3) kc_9_56 rfl rfl ?_
                refine xi_ift (pc' := 65) kc_9_57 rfl rfl ?_
                refine xi_iload_n (pc' := 66) (x := 3) kc_9_65 rfl rfl ?_
                refine xi_iconst (pc' := 67) (v := 1) kc_9_66 rfl rfl ?_
                refine xi_cmt (pc' := 75) kc_9_67 rfl rfl ?_
                refine xi_iload_n (pc' := 76) (x := 3) kc_9_75 rfl rfl ?_
                refine xi_iconst (pc' := 77) (v := 4) kc_9_76 rfl rfl ?_
                refine xi_cmf (pc' := 80) kc_9_77 rfl rfl ?_
                refine xi_bipush (pc' := 82) (v := 50) kc_9_80 rfl rfl ?_
                refine xi_goto (pc' := 96) kc_9_82 rfl ?_
                refine xi_cmt (pc' := 106) kc_9_96 rfl (xc_le_t (X := a8.toInt) (Y := 50) rfl (by decide) (by omega)) ?_
                refine xi_aload_n (pc' := 107) (x := 115) kc_9_106 rfl rfl ?_
                refine xi_iload_n (pc' := 108) (x := a4) kc_9_107 rfl rfl ?_
                refine xi_iload_n (pc' := 109) (x := 3) kc_9_108 rfl rfl ?_
                refine xi_virtual (mj := 13) (as := [.int a4, .int 3]) (st1 := []) (lv0 := [(0, .ref 115), (1, .int a4), (2, .int 3)]) kc_9_109 rfl rfl rfl rfl rfl eh640.1 (Nat.le_of_ble_eq_true rfl) (hJ _ _ _ _ (by decide)) (xm_le ml_13 rfl) rfl ?_
                have F643 := xg6_c I613 (fun c hc => eh640.2.1 c (Ne.symm (xk_nc hc rfl)))
                have F644 := xr5_c I6135 (fun c hc => eh640.2.1 c (Ne.symm (xk_nc hc rfl)))
                have F645 := xra_fr I613W (xl_c (eh640.2.1 121 (by decide)))
                have zc3 : (3 : Int32).toInt = 3 := by decide
                refine xw_rn hJ hov1 hov2 (d := 97) (x1 := a4) (x2 := 3) K642.1 F644 (by omega) (by omega) (fun r646 hr646 => ?_)
                have rr646 := xc_rng r646
                have nqr646 : Int32.toNatClampNeg 3 = 3 := by decide
                rw [nqr646] at hr646
                show xw J ov 99 9 (112, [(0, .ref 115), (1, .int a4), (2, .int 3), (3, .int a8)], [.int r646], hh641) _
                refine xi_istore (pc' := 114) (lv' := [(4, .int r646), (0, .ref 115), (1, .int a4), (2, .int 3), (3, .int a8)]) kc_9_112 rfl rfl (xm_lt ml_9 rfl) ?_
                refine xi_aload_n (pc' := 115) (x := 115) kc_9_114 rfl rfl ?_
                refine xi_iload_n (pc' := 116) (x := a4) kc_9_115 rfl rfl ?_
                refine xi_iload_n (pc' := 117) (x := 3) kc_9_116 rfl rfl ?_
                refine xi_iload_n (pc' := 118) (x := a8) kc_9_117 rfl rfl ?_
                refine xi_virtual (mj := 14) (as := [.int a4, .int 3, .int a8]) (st1 := []) (lv0 := [(0, .ref 115), (1, .int a4), (2, .int 3), (3, .int a8)]) kc_9_118 rfl rfl rfl rfl rfl eh640.1 (Nat.le_of_ble_eq_true rfl) (hJ _ _ _ _ (by decide)) (xm_le ml_14 rfl) rfl ?_
                refine xw_te3 hJ hov1 hov2 (d := 97) (x1 := a4) (x3 := a8) K642.1 F644 F645 (by omega) (by omega) (fun hh647 K648 F649 F650 => ?_)
                have F651 := xg6_k F643 K648 (by decide +kernel)
                have A652 := ((eh640.2.1 64 (by decide)).trans A616)
                have A653 := ((eh640.2.1 0 (by decide)).trans A619)
                have A654 := ((eh640.2.1 1 (by decide)).trans A624)
                have K655 := xk_tr K642 K648 (xsb_ok _ _ (by decide +kernel))
                have A656 := xk_eqa (q := 0) K648 (by decide +kernel) A652
                obtain ⟨u657, u658, bu657, bu658, A659⟩ := xq_0 K655.1
                have e660 : u10 = u658 := xk_eqi (q := 9) K648 (by decide +kernel) A653 A659 rfl rfl
                subst e660
                have e661 : u9 = u657 := xk_eqi (q := 8) K648 (by decide +kernel) A653 A659 rfl rfl
                subst e661
                obtain ⟨u662, u663, bu662, bu663, A664⟩ := xq_1 K655.1
                have e665 : u603 = u662 := xk_eqi (q := 5) K648 (by decide +kernel) A654 A664 rfl rfl
                subst e665
                obtain ⟨u666, u667, u668, u669, u670, u671, u672, u673, u674, u675, u676, u677, u678, bu666, bu667, bu668, bu669, bu670, bu671, bu672, bu673, bu674, bu675, bu676, bu677, bu678, A679⟩ := xq_115 K655.1
                have e680 : u627 = u667 := xk_eqi (q := 1) K648 (by decide +kernel) eh640.1 A679 rfl rfl
                subst e680
                have e681 : u630 = u670 := xk_eqi (q := 23) K648 (by decide +kernel) eh640.1 A679 rfl rfl
                subst e681
                have e682 : u633 = u673 := xk_eqi (q := 34) K648 (by decide +kernel) eh640.1 A679 rfl rfl
                subst e682
                have e683 : u631 = u671 := xk_eqi (q := 32) K648 (by decide +kernel) eh640.1 A679 rfl rfl
                subst e683
                show xw J ov 99 9 (121, [(4, .int r646), (0, .ref 115), (1, .int a4), (2, .int 3), (3, .int a8)], [], hh647) _
                refine xi_iload (pc' := 123) (x := r646) kc_9_121 rfl rfl ?_
                refine xi_ireturn kc_9_123 mr_9 rfl ?_
                show xw J ov 100 195 (237, [(4, .int x4), (3, .ref 167), (2, .ref 115), (1, .ref 0), (0, .ref 1000000)], [.int r646], hh647) _
                refine xi_pop (pc' := 238) kc_195_237 rfl rfl ?_
                refine xi_goto (pc' := 1501) kc_195_238 rfl ?_
                obtain ⟨v684, ev684⟩ : ∃ q : Int32, x4 + 6 = q := ⟨_, rfl⟩
                have zv684 : v684.toInt = (x4.toInt + 6) := by rw [← ev684]; exact (xz_add (X := x4.toInt) (Y := 6) rfl (by decide) (by omega) (by omega)).trans (by omega)
                refine xi_iinc (pc' := 1504) (x := x4) (v := v684) (lv' := [(4, .int v684), (3, .ref 167), (2, .ref 115), (1, .ref 0), (0, .ref 1000000)]) kc_195_1501 rfl rfl ev684 rfl (xm_lt ml_195 rfl) ?_
                refine xi_goto (pc' := 23) kc_195_1504 rfl ?_
                exact kk v684 hh647 (by omega) K655 ⟨((K655.2.1 (0, 9) (by decide +kernel)).trans (I.1.trans (K655.2.1 (115, 1) (by decide +kernel)).symm)), ⟨w, xra_mk A656 R2, F650, WWr⟩, ⟨_, F651, F649⟩, (by rw [(K655.2.1 (13, 0) (by decide +kernel)), (K655.2.1 (122, 0) (by decide +kernel))]; exact I.2.2.2.1), (by rw [(K655.2.1 (16, 0) (by decide +kernel)), (K655.2.1 (122, 0) (by decide +kernel))]; exact I.2.2.2.2.1), (by rw [(K655.2.1 (19, 0) (by decide +kernel)), (K655.2.1 (122, 0) (by decide +kernel))]; exact I.2.2.2.2.2.1), (by rw [(K655.2.1 (22, 0) (by decide +kernel)), (K655.2.1 (122, 0) (by decide +kernel))]; exact I.2.2.2.2.2.2.1), (by rw [(K655.2.1 (25, 0) (by decide +kernel)), (K655.2.1 (122, 0) (by decide +kernel))]; exact I.2.2.2.2.2.2.2.1), (by rw [(K655.2.1 (28, 0) (by decide +kernel)), (K655.2.1 (122, 0) (by decide +kernel))]; exact I.2.2.2.2.2.2.2.2.1), (by rw [(K655.2.1 (6, 0) (by decide +kernel)), (K655.2.1 (123, 0) (by decide +kernel))]; exact I.2.2.2.2.2.2.2.2.2.1), (by rw [(K655.2.1 (9, 0) (by decide +kernel)), (K655.2.1 (124, 0) (by decide +kernel))]; exact I.2.2.2.2.2.2.2.2.2.2.1), (by rw [(K655.2.1 (7, 0) (by decide +kernel)), (K655.2.1 (6, 0) (by decide +kernel))]; exact I.2.2.2.2.2.2.2.2.2.2.2.1), (by rw [(K655.2.1 (10, 0) (by decide +kernel)), (K655.2.1 (9, 0) (by decide +kernel))]; exact I.2.2.2.2.2.2.2.2.2.2.2.2.1), ((K655.2.1 (5, 0) (by decide +kernel)).trans I.2.2.2.2.2.2.2.2.2.2.2.2.2.1), ((K655.2.1 (8, 0) (by decide +kernel)).trans I.2.2.2.2.2.2.2.2.2.2.2.2.2.2.1), (xGR_fr I.2.2.2.2.2.2.2.2.2.2.2.2.2.2.2.1 K655.2.1 (by decide +kernel) (by decide +kernel)), (xGR_fr I.2.2.2.2.2.2.2.2.2.2.2.2.2.2.2.2.1 K655.2.1 (by decide +kernel) (by decide +kernel)), ((K655.2.1 (1, 5) (by decide +kernel)).trans (I.2.2.2.2.2.2.2.2.2.2.2.2.2.2.2.2.2.1.trans (K655.2.1 (115, 23) (by decide +kernel)).symm)), (xGR_fr I.2.2.2.2.2.2.2.2.2.2.2.2.2.2.2.2.2.2.1 K655.2.1 (by decide +kernel) (by decide +kernel)), (xGR_fr I.2.2.2.2.2.2.2.2.2.2.2.2.2.2.2.2.2.2.2.1 K655.2.1 (by decide +kernel) (by decide +kernel)), (xGR_fr I.2.2.2.2.2.2.2.2.2.2.2.2.2.2.2.2.2.2.2.2.1 K655.2.1 (by decide +kernel) (by decide +kernel)), (xGR_fr I.2.2.2.2.2.2.2.2.2.2.2.2.2.2.2.2.2.2.2.2.2.1 K655.2.1 (by decide +kernel) (by decide +kernel)), (by rw [(K655.2.1 (63, 2) (by decide +kernel)), (K655.2.1 (139, 0) (by decide +kernel)), (K655.2.1 (1, 5) (by decide +kernel))]; exact I.2.2.2.2.2.2.2.2.2.2.2.2.2.2.2.2.2.2.2.2.2.2.1), ((K655.2.1 (0, 8) (by decide +kernel)).trans (I.2.2.2.2.2.2.2.2.2.2.2.2.2.2.2.2.2.2.2.2.2.2.2.1.trans (K655.2.1 (115, 34) (by decide +kernel)).symm)), (xGR_fr I.2.2.2.2.2.2.2.2.2.2.2.2.2.2.2.2.2.2.2.2.2.2.2.2.1 K655.2.1 (by decide +kernel) (by decide +kernel)), (xGR_fr I.2.2.2.2.2.2.2.2.2.2.2.2.2.2.2.2.2.2.2.2.2.2.2.2.2.1 K655.2.1 (by decide +kernel) (by decide +kernel)), (xGR_fr I.2.2.2.2.2.2.2.2.2.2.2.2.2.2.2.2.2.2.2.2.2.2.2.2.2.2.1 K655.2.1 (by decide +kernel) (by decide +kernel)), (xGR_fr I.2.2.2.2.2.2.2.2.2.2.2.2.2.2.2.2.2.2.2.2.2.2.2.2.2.2.2.1 K655.2.1 (by decide +kernel) (by decide +kernel)), (xts_fr I.2.2.2.2.2.2.2.2.2.2.2.2.2.2.2.2.2.2.2.2.2.2.2.2.2.2.2.2.1 (fun l hl => K655.2.1 l (xk_el (by decide +kernel) hl))), ((K655.2.1 (63, 3) (by decide +kernel)).trans I.2.2.2.2.2.2.2.2.2.2.2.2.2.2.2.2.2.2.2.2.2.2.2.2.2.2.2.2.2)⟩
              · refine xi_cmf (pc' := 54) kc_88_51 rfl (xc_le_f (X := a8.toInt) (Y := 50) rfl (by decide) (by omega)) ?_
                refine xi_aload_n (pc' := 55) (x := 0) kc_88_54 rfl rfl ?_
                refine xi_bipush (pc' := 57) (v := (-6)) kc_88_55 rfl rfl ?_
                refine xi_virtual (mj := 90) (as := [.int (-6)]) (st1 := []) (lv0 := [(0, .ref 0), (1, .int (-6))]) kc_88_57 rfl rfl rfl rfl rfl A11 (Nat.le_of_ble_eq_true rfl) (hJ _ _ _ _ (by decide)) (xm_le ml_90 rfl) rfl ?_
                refine xi_iload_n (pc' := 1) (x := (-6)) kc_90_0 rfl rfl ?_
                refine xi_ineg (pc' := 2) (v := 6) kc_90_1 rfl rfl ?_
                refine xi_istore_n (pc' := 3) (lv' := [(2, .int 6), (0, .ref 0), (1, .int (-6))]) kc_90_2 rfl rfl (xm_lt ml_90 rfl) ?_
                refine xi_iload_n (pc' := 4) (x := 6) kc_90_3 rfl rfl ?_
                refine xi_iff (pc' := 7) kc_90_4 rfl rfl ?_
                refine xi_iload_n (pc' := 8) (x := 6) kc_90_7 rfl rfl ?_
                refine xi_aload_n (pc' := 9) (x := 0) kc_90_8 rfl rfl ?_
                refine xi_getfield (pc' := 12) (v := .ref 94) kc_90_9 rfl rfl rfl A11 rfl ?_
                obtain ⟨y685, A685, hy685, ry685⟩ := xk_arr K.1 xD_94
                refine xi_arraylength (pc' := 13) (n := 7) (v := 7) kc_90_12 rfl (xl_lenI (by decide) (by decide) A685 hy685) rfl ?_
                refine xi_cmf (pc' := 16) kc_90_13 rfl rfl ?_
                refine xi_aload_n (pc' := 17) (x := 0) kc_90_16 rfl rfl ?_
                refine xi_getfield (pc' := 20) (v := .ref 94) kc_90_17 rfl rfl rfl A11 rfl ?_
                refine xi_iload_n (pc' := 21) (x := 6) kc_90_20 rfl rfl ?_
                refine xi_dup2 (pc' := 22) kc_90_21 rfl ⟨rfl, rfl⟩ ?_
                obtain ⟨v686, ev686, bv686, dv686⟩ := xj_get hy685 ry685 (i := 6) (by decide) (by decide)
                refine xi_iaload (pc' := 23) (v := v686) kc_90_22 rfl A685 (by decide) rfl (xi_in (by decide) (by rw [hy685]; decide)) ev686 ?_
                refine xi_iconst (pc' := 24) (v := 1) kc_90_23 rfl rfl ?_
                obtain ⟨v687, ev687⟩ : ∃ q : Int32, (v686 : Int32) + 1 = q := ⟨_, rfl⟩
                have rv687 := xc_rng v687
                refine xi_iadd (pc' := 25) (v := v687) kc_90_24 rfl ev687 ?_
                obtain ⟨y688, s688, hy688, ry688⟩ := xj_set (v := v687) hy685 ry685 6 (by first | omega | decide) (by first | omega | decide)
                refine xi_iastore (pc' := 26) (x' := y688) kc_90_25 rfl A685 rfl (xi_in (by decide) (by rw [hy685]; decide)) s688 (fun hh688 eh688 => ?_)
                have K689 := xk_pa K (xk_wa (by decide +kernel)) xD_94 hy688 ry688 eh688
                have KR690 := xk_pa KR (xk_wa (by decide +kernel)) xD_94 hy688 ry688 eh688
                refine xi_iload_n (pc' := 27) (x := (-6)) kc_90_26 rfl rfl ?_
                refine xi_ireturn kc_90_27 mr_90 rfl ?_
                show xw J ov 99 88 (60, [(0, .ref 0), (1, .int a4), (2, .int 3), (3, .int a8)], [.int (-6)], hh688) _
                refine xi_ireturn kc_88_60 mr_88 rfl ?_
                show xw J ov 100 195 (214, [(4, .int x4), (3, .ref 167), (2, .ref 115), (1, .ref 0), (0, .ref 1000000)], [.int (-6)], hh688) _
                refine xi_pop (pc' := 215) kc_195_214 rfl rfl ?_
                refine xi_aload_n (pc' := 216) (x := 115) kc_195_215 rfl rfl ?_
                refine xi_aload_n (pc' := 217) (x := 1000000) kc_195_216 rfl rfl ?_
                refine xi_iload (pc' := 219) (x := x4) kc_195_217 rfl rfl ?_
                refine xi_iconst (pc' := 220) (v := 1) kc_195_219 rfl rfl ?_
                refine xi_iadd (pc' := 221) (v := v3) kc_195_220 rfl ev3 ?_
                refine xi_ialoadO (pc' := 222) (v := a4) kc_195_221 rfl (by decide) hov0 (xi_in (by omega) (by omega)) ea4 ?_
                refine xi_aload_n (pc' := 223) (x := 1000000) kc_195_222 rfl rfl ?_
                refine xi_iload (pc' := 225) (x := x4) kc_195_223 rfl rfl ?_
                refine xi_iconst (pc' := 226) (v := 2) kc_195_225 rfl rfl ?_
                refine xi_iadd (pc' := 227) (v := v5) kc_195_226 rfl ev5 ?_
                refine xi_ialoadO (pc' := 228) (v := 3) kc_195_227 rfl (by decide) hov0 (xi_in (by omega) (by omega)) ea6 ?_
                refine xi_aload_n (pc' := 229) (x := 1000000) kc_195_228 rfl rfl ?_
                refine xi_iload (pc' := 231) (x := x4) kc_195_229 rfl rfl ?_
                refine xi_iconst (pc' := 232) (v := 3) kc_195_231 rfl rfl ?_
                refine xi_iadd (pc' := 233) (v := v7) kc_195_232 rfl ev7 ?_
                refine xi_ialoadO (pc' := 234) (v := a8) kc_195_233 rfl (by decide) hov0 (xi_in (by omega) (by omega)) ea8 ?_
                obtain ⟨u691, u692, u693, u694, u695, u696, u697, u698, u699, u700, u701, u702, u703, bu691, bu692, bu693, bu694, bu695, bu696, bu697, bu698, bu699, bu700, bu701, bu702, bu703, A704⟩ := xq_115 K.1
                have A705 := ((eh688.2.1 115 (by decide)).trans A704)
                refine xi_virtual (mj := 9) (as := [.int a4, .int 3, .int a8]) (st1 := []) (lv0 := [(0, .ref 115), (1, .int a4), (2, .int 3), (3, .int a8)]) kc_195_234 rfl rfl rfl rfl rfl A705 (Nat.le_of_ble_eq_true rfl) (hJ _ _ _ _ (by decide)) (xm_le ml_9 rfl) rfl ?_
                refine xi_aload_n (pc' := 1) (x := 115) kc_9_0 rfl rfl ?_
                refine xi_iconst (pc' := 2) (v := 0) kc_9_1 rfl rfl ?_
                refine xi_putfield (pc' := 5) (fs' := [.int 0, .int u692, .ref 116, .ref 117, .ref 118, .ref 119, .ref 120, .ref 121, .ref 122, .ref 123, .ref 124, .ref 125, .ref 126, .ref 127, .ref 128, .ref 129, .int u693, .ref 130, .int u694, .ref 131, .ref 132, .ref 133, .ref 134, .int u695, .ref 135, .ref 136, .ref 137, .ref 138, .ref 139, .ref 140, .ref 141, .ref 142, .int u696, .int u697, .int u698, .ref 143, .ref 144, .ref 145, .ref 146, .ref 147, .ref 148, .int u699, .ref 149, .ref 150, .ref 151, .int u700, .ref 152, .ref 153, .ref 154, .ref 155, .ref 156, .ref 157, .ref 158, .ref 159, .int u701, .ref 160, .int u702, .ref 161, .ref 162, .ref 163, .ref 164, .int u703, .ref 165, .ref 166]) kc_9_2 rfl rfl rfl A705 rfl rfl rfl (Nat.le_of_ble_eq_true rfl) rfl (fun hh707 eh706 => ?_)
                have K708 := xk_pf (k := 0) (v := 0) K689 (xk_wf (by decide +kernel)) xD_115 A705 rfl (by first | omega | decide) (by first | omega | decide) eh706 rfl
                have KR709 := xk_pf (k := 0) (v := 0) KR690 (xk_wf (by decide +kernel)) xD_115 A705 rfl (by first | omega | decide) (by first | omega | decide) eh706 rfl
                refine xi_iload_n (pc' := 6) (x := a4) kc_9_5 rfl rfl ?_
                refine xi_static (mj := 10) (as := [.int a4]) (st1 := []) (lv0 := [(0, .int a4)]) kc_9_6 rfl rfl (Nat.le_of_ble_eq_true rfl) rfl rfl (Nat.le_of_ble_eq_true rfl) (hJ _ _ _ _ (by decide)) (xm_le ml_10 rfl) rfl ?_
                refine xi_iload_n (pc' := 1) (x := a4) kc_10_0 rfl rfl ?_
                refine xi_iconst (pc' := 2) (v := 0) kc_10_1 rfl rfl ?_
                refine xi_iconst (pc' := 3) (v := 5) kc_10_2 rfl rfl ?_
                refine xi_static (mj := 11) (as := [.int a4, .int 0, .int 5]) (st1 := []) (lv0 := [(0, .int a4), (1, .int 0), (2, .int 5)]) kc_10_3 rfl rfl (Nat.le_of_ble_eq_true rfl) rfl rfl (Nat.le_of_ble_eq_true rfl) (hJ _ _ _ _ (by decide)) (xm_le ml_11 rfl) rfl ?_
                refine xi_iload_n (pc' := 1) (x := a4) kc_11_0 rfl rfl ?_
                refine xi_iload_n (pc' := 2) (x := 0) kc_11_1 rfl rfl ?_
                refine xi_cmf (pc' := 5) kc_11_2 rfl (xc_lt_f (X := a4.toInt) (Y := 0) rfl (by decide) (by omega)) ?_
                refine xi_iload_n (pc' := 6) (x := a4) kc_11_5 rfl rfl ?_
                refine xi_iload_n (pc' := 7) (x := 5) kc_11_6 rfl rfl ?_
                refine xi_cmf (pc' := 10) kc_11_7 rfl (xc_gt_f (X := a4.toInt) (Y := 5) rfl (by decide) (by omega)) ?_
                refine xi_iconst (pc' := 11) (v := 1) kc_11_10 rfl rfl ?_
                refine xi_goto (pc' := 15) kc_11_11 rfl ?_
                refine xi_ireturn kc_11_15 mr_11 rfl ?_
                show xw J ov 98 10 (6, [(0, .int a4)], [.int 1], hh707) _
                refine xi_ireturn kc_10_6 mr_10 rfl ?_
                show xw J ov 99 9 (9, [(0, .ref 115), (1, .int a4), (2, .int 3), (3, .int a8)], [.int 1], hh707) _
                refine xi_ift (pc' := 18) kc_9_9 rfl rfl ?_
                refine xi_iload_n (pc' := 19) (x := 3) kc_9_18 rfl rfl ?_
                refine xi_iconst (pc' := 20) (v := 0) kc_9_19 rfl rfl ?_
                refine xi_iconst (pc' := 21) (v := 5) kc_9_20 rfl rfl ?_
                refine xi_static (mj := 11) (as := [.int 3, .int 0, .int 5]) (st1 := []) (lv0 := [(0, .int 3), (1, .int 0), (2, .int 5)]) kc_9_21 rfl rfl (Nat.le_of_ble_eq_true rfl) rfl rfl (Nat.le_of_ble_eq_true rfl) (hJ _ _ _ _ (by decide)) (xm_le ml_11 rfl) rfl ?_
                refine xi_iload_n (pc' := 1) (x := 3) kc_11_0 rfl rfl ?_
                refine xi_iload_n (pc' := 2) (x := 0) kc_11_1 rfl rfl ?_
                refine xi_cmf (pc' := 5) kc_11_2 rfl rfl ?_
                refine xi_iload_n (pc' := 6) (x := 3) kc_11_5 rfl rfl ?_
                refine xi_iload_n (pc' := 7) (x := 5) kc_11_6 rfl rfl ?_
                refine xi_cmf (pc' := 10) kc_11_7 rfl rfl ?_
                refine xi_iconst (pc' := 11) (v := 1) kc_11_10 rfl rfl ?_
                refine xi_goto (pc' := 15) kc_11_11 rfl ?_
                refine xi_ireturn kc_11_15 mr_11 rfl ?_
                show xw J ov 99 9 (24, [(0, .ref 115), (1, .int a4), (2, .int 3), (3, .int a8)], [.int 1], hh707) _
                refine xi_ift (pc' := 34) kc_9_24 rfl rfl ?_
                refine xi_iload_n (pc' := 35) (x := a8) kc_9_34 rfl rfl ?_
                refine xi_iload_n (pc' := 36) (x := 3) kc_9_35 rfl rfl ?_
                refine xi_ift (pc' := 44) kc_9_36 rfl rfl ?_
                refine xi_iconst (pc' := 45) (v := 0) kc_9_44 rfl rfl ?_
                refine xi_cmt (pc' := 55) kc_9_45 rfl (xc_ge_t (X := a8.toInt) (Y := 0) rfl (by decide) (by omega)) ?_
                refine xi_iload_n (pc' := 56) (x := a8) kc_9_55 rfl rfl ?_
                refine xi_iload_n (pc' := 57) (x := 3) kc_9_56 rfl rfl ?_
                refine xi_ift (pc' := 65) kc_9_57 rfl rfl ?_
                refine xi_iload_n (pc' := 66) (x := 3) kc_9_65 rfl rfl ?_
                refine xi_iconst (pc' := 67) (v := 1) kc_9_66 rfl rfl ?_
                refine xi_cmt (pc' := 75) kc_9_67 rfl rfl ?_
                refine xi_iload_n (pc' := 76) (x := 3) kc_9_75 rfl rfl ?_
                refine xi_iconst (pc' := 77) (v := 4) kc_9_76 rfl rfl ?_
                refine xi_cmf (pc' := 80) kc_9_77 rfl rfl ?_
                refine xi_bipush (pc' := 82) (v := 50) kc_9_80 rfl rfl ?_
                refine xi_goto (pc' := 96) kc_9_82 rfl ?_
                refine xi_cmf (pc' := 99) kc_9_96 rfl (xc_le_f (X := a8.toInt) (Y := 50) rfl (by decide) (by omega)) ?_
                refine xi_aload_n (pc' := 100) (x := 115) kc_9_99 rfl rfl ?_
                refine xi_bipush (pc' := 102) (v := (-6)) kc_9_100 rfl rfl ?_
                refine xi_virtual (mj := 12) (as := [.int (-6)]) (st1 := []) (lv0 := [(0, .ref 115), (1, .int (-6))]) kc_9_102 rfl rfl rfl rfl rfl eh706.1 (Nat.le_of_ble_eq_true rfl) (hJ _ _ _ _ (by decide)) (xm_le ml_12 rfl) rfl ?_
                refine xi_aload_n (pc' := 1) (x := 115) kc_12_0 rfl rfl ?_
                refine xi_getfield (pc' := 4) (v := .ref 140) kc_12_1 rfl rfl rfl eh706.1 rfl ?_
                refine xi_iload_n (pc' := 5) (x := (-6)) kc_12_4 rfl rfl ?_
                refine xi_ineg (pc' := 6) (v := 6) kc_12_5 rfl rfl ?_
                refine xi_dup2 (pc' := 7) kc_12_6 rfl ⟨rfl, rfl⟩ ?_
                obtain ⟨y710, A710, hy710, ry710⟩ := xk_arr K.1 xD_140
                obtain ⟨v711, ev711, bv711, dv711⟩ := xj_get hy710 ry710 (i := 6) (by decide) (by decide)
                have A712 := ((eh706.2.1 140 (by decide)).trans ((eh688.2.1 140 (by decide)).trans A710))
                refine xi_iaload (pc' := 8) (v := v711) kc_12_7 rfl A712 (by decide) rfl (xi_in (by decide) (by rw [hy710]; decide)) ev711 ?_
                refine xi_iconst (pc' := 9) (v := 1) kc_12_8 rfl rfl ?_
                obtain ⟨v713, ev713⟩ : ∃ q : Int32, (v711 : Int32) + 1 = q := ⟨_, rfl⟩
                have rv713 := xc_rng v713
                refine xi_iadd (pc' := 10) (v := v713) kc_12_9 rfl ev713 ?_
                obtain ⟨y714, s714, hy714, ry714⟩ := xj_set (v := v713) hy710 ry710 6 (by first | omega | decide) (by first | omega | decide)
                refine xi_iastore (pc' := 11) (x' := y714) kc_12_10 rfl A712 rfl (xi_in (by decide) (by rw [hy710]; decide)) s714 (fun hh714 eh714 => ?_)
                have K715 := xk_pa K708 (xk_wa (by decide +kernel)) xD_140 hy714 ry714 eh714
                have KR716 := xk_pa KR709 (xk_wa (by decide +kernel)) xD_140 hy714 ry714 eh714
                refine xi_iload_n (pc' := 12) (x := (-6)) kc_12_11 rfl rfl ?_
                refine xi_ireturn kc_12_12 mr_12 rfl ?_
                show xw J ov 99 9 (105, [(0, .ref 115), (1, .int a4), (2, .int 3), (3, .int a8)], [.int (-6)], hh714) _
                refine xi_ireturn kc_9_105 mr_9 rfl ?_
                show xw J ov 100 195 (237, [(4, .int x4), (3, .ref 167), (2, .ref 115), (1, .ref 0), (0, .ref 1000000)], [.int (-6)], hh714) _
                refine xi_pop (pc' := 238) kc_195_237 rfl rfl ?_
                refine xi_goto (pc' := 1501) kc_195_238 rfl ?_
                obtain ⟨v717, ev717⟩ : ∃ q : Int32, x4 + 6 = q := ⟨_, rfl⟩
                have zv717 : v717.toInt = (x4.toInt + 6) := by rw [← ev717]; exact (xz_add (X := x4.toInt) (Y := 6) rfl (by decide) (by omega) (by omega)).trans (by omega)
                refine xi_iinc (pc' := 1504) (x := x4) (v := v717) (lv' := [(4, .int v717), (3, .ref 167), (2, .ref 115), (1, .ref 0), (0, .ref 1000000)]) kc_195_1501 rfl rfl ev717 rfl (xm_lt ml_195 rfl) ?_
                refine xi_goto (pc' := 23) kc_195_1504 rfl ?_
                exact kk v717 hh714 (by omega) K715 (xI_kept I KR716.2.1)
            · refine xi_cmf (pc' := 38) kc_88_35 rfl (xc_ge_f (X := a8.toInt) (Y := 0) rfl (by decide) (by omega)) ?_
              refine xi_aload_n (pc' := 39) (x := 0) kc_88_38 rfl rfl ?_
              refine xi_bipush (pc' := 41) (v := (-4)) kc_88_39 rfl rfl ?_
              refine xi_virtual (mj := 90) (as := [.int (-4)]) (st1 := []) (lv0 := [(0, .ref 0), (1, .int (-4))]) kc_88_41 rfl rfl rfl rfl rfl A11 (Nat.le_of_ble_eq_true rfl) (hJ _ _ _ _ (by decide)) (xm_le ml_90 rfl) rfl ?_
              refine xi_iload_n (pc' := 1) (x := (-4)) kc_90_0 rfl rfl ?_
              refine xi_ineg (pc' := 2) (v := 4) kc_90_1 rfl rfl ?_
              refine xi_istore_n (pc' := 3) (lv' := [(2, .int 4), (0, .ref 0), (1, .int (-4))]) kc_90_2 rfl rfl (xm_lt ml_90 rfl) ?_
              refine xi_iload_n (pc' := 4) (x := 4) kc_90_3 rfl rfl ?_
              refine xi_iff (pc' := 7) kc_90_4 rfl rfl ?_
              refine xi_iload_n (pc' := 8) (x := 4) kc_90_7 rfl rfl ?_
              refine xi_aload_n (pc' := 9) (x := 0) kc_90_8 rfl rfl ?_
              refine xi_getfield (pc' := 12) (v := .ref 94) kc_90_9 rfl rfl rfl A11 rfl ?_
              obtain ⟨y718, A718, hy718, ry718⟩ := xk_arr K.1 xD_94
              refine xi_arraylength (pc' := 13) (n := 7) (v := 7) kc_90_12 rfl (xl_lenI (by decide) (by decide) A718 hy718) rfl ?_
              refine xi_cmf (pc' := 16) kc_90_13 rfl rfl ?_
              refine xi_aload_n (pc' := 17) (x := 0) kc_90_16 rfl rfl ?_
              refine xi_getfield (pc' := 20) (v := .ref 94) kc_90_17 rfl rfl rfl A11 rfl ?_
              refine xi_iload_n (pc' := 21) (x := 4) kc_90_20 rfl rfl ?_
              refine xi_dup2 (pc' := 22) kc_90_21 rfl ⟨rfl, rfl⟩ ?_
              obtain ⟨v719, ev719, bv719, dv719⟩ := xj_get hy718 ry718 (i := 4) (by decide) (by decide)
              refine xi_iaload (pc' := 23) (v := v719) kc_90_22 rfl A718 (by decide) rfl (xi_in (by decide) (by rw [hy718]; decide)) ev719 ?_
              refine xi_iconst (pc' := 24) (v := 1) kc_90_23 rfl rfl ?_
              obtain ⟨v720, ev720⟩ : ∃ q : Int32, (v719 : Int32) + 1 = q := ⟨_, rfl⟩
              have rv720 := xc_rng v720
              refine xi_iadd (pc' := 25) (v := v720) kc_90_24 rfl ev720 ?_
              obtain ⟨y721, s721, hy721, ry721⟩ := xj_set (v := v720) hy718 ry718 4 (by first | omega | decide) (by first | omega | decide)
              refine xi_iastore (pc' := 26) (x' := y721) kc_90_25 rfl A718 rfl (xi_in (by decide) (by rw [hy718]; decide)) s721 (fun hh721 eh721 => ?_)
              have K722 := xk_pa K (xk_wa (by decide +kernel)) xD_94 hy721 ry721 eh721
              have KR723 := xk_pa KR (xk_wa (by decide +kernel)) xD_94 hy721 ry721 eh721
              refine xi_iload_n (pc' := 27) (x := (-4)) kc_90_26 rfl rfl ?_
              refine xi_ireturn kc_90_27 mr_90 rfl ?_
              show xw J ov 99 88 (44, [(0, .ref 0), (1, .int a4), (2, .int 3), (3, .int a8)], [.int (-4)], hh721) _
              refine xi_ireturn kc_88_44 mr_88 rfl ?_
              show xw J ov 100 195 (214, [(4, .int x4), (3, .ref 167), (2, .ref 115), (1, .ref 0), (0, .ref 1000000)], [.int (-4)], hh721) _
              refine xi_pop (pc' := 215) kc_195_214 rfl rfl ?_
              refine xi_aload_n (pc' := 216) (x := 115) kc_195_215 rfl rfl ?_
              refine xi_aload_n (pc' := 217) (x := 1000000) kc_195_216 rfl rfl ?_
              refine xi_iload (pc' := 219) (x := x4) kc_195_217 rfl rfl ?_
              refine xi_iconst (pc' := 220) (v := 1) kc_195_219 rfl rfl ?_
              refine xi_iadd (pc' := 221) (v := v3) kc_195_220 rfl ev3 ?_
              refine xi_ialoadO (pc' := 222) (v := a4) kc_195_221 rfl (by decide) hov0 (xi_in (by omega) (by omega)) ea4 ?_
              refine xi_aload_n (pc' := 223) (x := 1000000) kc_195_222 rfl rfl ?_
              refine xi_iload (pc' := 225) (x := x4) kc_195_223 rfl rfl ?_
              refine xi_iconst (pc' := 226) (v := 2) kc_195_225 rfl rfl ?_
              refine xi_iadd (pc' := 227) (v := v5) kc_195_226 rfl ev5 ?_
              refine xi_ialoadO (pc' := 228) (v := 3) kc_195_227 rfl (by decide) hov0 (xi_in (by omega) (by omega)) ea6 ?_
              refine xi_aload_n (pc' := 229) (x := 1000000) kc_195_228 rfl rfl ?_
              refine xi_iload (pc' := 231) (x := x4) kc_195_229 rfl rfl ?_
              refine xi_iconst (pc' := 232) (v := 3) kc_195_231 rfl rfl ?_
              refine xi_iadd (pc' := 233) (v := v7) kc_195_232 rfl ev7 ?_
              refine xi_ialoadO (pc' := 234) (v := a8) kc_195_233 rfl (by decide) hov0 (xi_in (by omega) (by omega)) ea8 ?_
              obtain ⟨u724, u725, u726, u727, u728, u729, u730, u731, u732, u733, u734, u735, u736, bu724, bu725, bu726, bu727, bu728, bu729, bu730, bu731, bu732, bu733, bu734, bu735, bu736, A737⟩ := xq_115 K.1
              have A738 := ((eh721.2.1 115 (by decide)).trans A737)
              refine xi_virtual (mj := 9) (as := [.int a4, .int 3, .int a8]) (st1 := []) (lv0 := [(0, .ref 115), (1, .int a4), (2, .int 3), (3, .int a8)]) kc_195_234 rfl rfl rfl rfl rfl A738 (Nat.le_of_ble_eq_true rfl) (hJ _ _ _ _ (by decide)) (xm_le ml_9 rfl) rfl ?_
              refine xi_aload_n (pc' := 1) (x := 115) kc_9_0 rfl rfl ?_
              refine xi_iconst (pc' := 2) (v := 0) kc_9_1 rfl rfl ?_
              refine xi_putfield (pc' := 5) (fs' := [.int 0, .int u725, .ref 116, .ref 117, .ref 118, .ref 119, .ref 120, .ref 121, .ref 122, .ref 123, .ref 124, .ref 125, .ref 126, .ref 127, .ref 128, .ref 129, .int u726, .ref 130, .int u727, .ref 131, .ref 132, .ref 133, .ref 134, .int u728, .ref 135, .ref 136, .ref 137, .ref 138, .ref 139, .ref 140, .ref 141, .ref 142, .int u729, .int u730, .int u731, .ref 143, .ref 144, .ref 145, .ref 146, .ref 147, .ref 148, .int u732, .ref 149, .ref 150, .ref 151, .int u733, .ref 152, .ref 153, .ref 154, .ref 155, .ref 156, .ref 157, .ref 158, .ref 159, .int u734, .ref 160, .int u735, .ref 161, .ref 162, .ref 163, .ref 164, .int u736, .ref 165, .ref 166]) kc_9_2 rfl rfl rfl A738 rfl rfl rfl (Nat.le_of_ble_eq_true rfl) rfl (fun hh740 eh739 => ?_)
              have K741 := xk_pf (k := 0) (v := 0) K722 (xk_wf (by decide +kernel)) xD_115 A738 rfl (by first | omega | decide) (by first | omega | decide) eh739 rfl
              have KR742 := xk_pf (k := 0) (v := 0) KR723 (xk_wf (by decide +kernel)) xD_115 A738 rfl (by first | omega | decide) (by first | omega | decide) eh739 rfl
              refine xi_iload_n (pc' := 6) (x := a4) kc_9_5 rfl rfl ?_
              refine xi_static (mj := 10) (as := [.int a4]) (st1 := []) (lv0 := [(0, .int a4)]) kc_9_6 rfl rfl (Nat.le_of_ble_eq_true rfl) rfl rfl (Nat.le_of_ble_eq_true rfl) (hJ _ _ _ _ (by decide)) (xm_le ml_10 rfl) rfl ?_
              refine xi_iload_n (pc' := 1) (x := a4) kc_10_0 rfl rfl ?_
              refine xi_iconst (pc' := 2) (v := 0) kc_10_1 rfl rfl ?_
              refine xi_iconst (pc' := 3) (v := 5) kc_10_2 rfl rfl ?_
              refine xi_static (mj := 11) (as := [.int a4, .int 0, .int 5]) (st1 := []) (lv0 := [(0, .int a4), (1, .int 0), (2, .int 5)]) kc_10_3 rfl rfl (Nat.le_of_ble_eq_true rfl) rfl rfl (Nat.le_of_ble_eq_true rfl) (hJ _ _ _ _ (by decide)) (xm_le ml_11 rfl) rfl ?_
              refine xi_iload_n (pc' := 1) (x := a4) kc_11_0 rfl rfl ?_
              refine xi_iload_n (pc' := 2) (x := 0) kc_11_1 rfl rfl ?_
              refine xi_cmf (pc' := 5) kc_11_2 rfl (xc_lt_f (X := a4.toInt) (Y := 0) rfl (by decide) (by omega)) ?_
              refine xi_iload_n (pc' := 6) (x := a4) kc_11_5 rfl rfl ?_
              refine xi_iload_n (pc' := 7) (x := 5) kc_11_6 rfl rfl ?_
              refine xi_cmf (pc' := 10) kc_11_7 rfl (xc_gt_f (X := a4.toInt) (Y := 5) rfl (by decide) (by omega)) ?_
              refine xi_iconst (pc' := 11) (v := 1) kc_11_10 rfl rfl ?_
              refine xi_goto (pc' := 15) kc_11_11 rfl ?_
              refine xi_ireturn kc_11_15 mr_11 rfl ?_
              show xw J ov 98 10 (6, [(0, .int a4)], [.int 1], hh740) _
              refine xi_ireturn kc_10_6 mr_10 rfl ?_
              show xw J ov 99 9 (9, [(0, .ref 115), (1, .int a4), (2, .int 3), (3, .int a8)], [.int 1], hh740) _
              refine xi_ift (pc' := 18) kc_9_9 rfl rfl ?_
              refine xi_iload_n (pc' := 19) (x := 3) kc_9_18 rfl rfl ?_
              refine xi_iconst (pc' := 20) (v := 0) kc_9_19 rfl rfl ?_
              refine xi_iconst (pc' := 21) (v := 5) kc_9_20 rfl rfl ?_
              refine xi_static (mj := 11) (as := [.int 3, .int 0, .int 5]) (st1 := []) (lv0 := [(0, .int 3), (1, .int 0), (2, .int 5)]) kc_9_21 rfl rfl (Nat.le_of_ble_eq_true rfl) rfl rfl (Nat.le_of_ble_eq_true rfl) (hJ _ _ _ _ (by decide)) (xm_le ml_11 rfl) rfl ?_
              refine xi_iload_n (pc' := 1) (x := 3) kc_11_0 rfl rfl ?_
              refine xi_iload_n (pc' := 2) (x := 0) kc_11_1 rfl rfl ?_
              refine xi_cmf (pc' := 5) kc_11_2 rfl rfl ?_
              refine xi_iload_n (pc' := 6) (x := 3) kc_11_5 rfl rfl ?_
              refine xi_iload_n (pc' := 7) (x := 5) kc_11_6 rfl rfl ?_
              refine xi_cmf (pc' := 10) kc_11_7 rfl rfl ?_
              refine xi_iconst (pc' := 11) (v := 1) kc_11_10 rfl rfl ?_
              refine xi_goto (pc' := 15) kc_11_11 rfl ?_
              refine xi_ireturn kc_11_15 mr_11 rfl ?_
              show xw J ov 99 9 (24, [(0, .ref 115), (1, .int a4), (2, .int 3), (3, .int a8)], [.int 1], hh740) _
              refine xi_ift (pc' := 34) kc_9_24 rfl rfl ?_
              refine xi_iload_n (pc' := 35) (x := a8) kc_9_34 rfl rfl ?_
              refine xi_iload_n (pc' := 36) (x := 3) kc_9_35 rfl rfl ?_
              refine xi_ift (pc' := 44) kc_9_36 rfl rfl ?_
              refine xi_iconst (pc' := 45) (v := 0) kc_9_44 rfl rfl ?_
              refine xi_cmf (pc' := 48) kc_9_45 rfl (xc_ge_f (X := a8.toInt) (Y := 0) rfl (by decide) (by omega)) ?_
              refine xi_aload_n (pc' := 49) (x := 115) kc_9_48 rfl rfl ?_
              refine xi_bipush (pc' := 51) (v := (-4)) kc_9_49 rfl rfl ?_
              refine xi_virtual (mj := 12) (as := [.int (-4)]) (st1 := []) (lv0 := [(0, .ref 115), (1, .int (-4))]) kc_9_51 rfl rfl rfl rfl rfl eh739.1 (Nat.le_of_ble_eq_true rfl) (hJ _ _ _ _ (by decide)) (xm_le ml_12 rfl) rfl ?_
              refine xi_aload_n (pc' := 1) (x := 115) kc_12_0 rfl rfl ?_
              refine xi_getfield (pc' := 4) (v := .ref 140) kc_12_1 rfl rfl rfl eh739.1 rfl ?_
              refine xi_iload_n (pc' := 5) (x := (-4)) kc_12_4 rfl rfl ?_
              refine xi_ineg (pc' := 6) (v := 4) kc_12_5 rfl rfl ?_
              refine xi_dup2 (pc' := 7) kc_12_6 rfl ⟨rfl, rfl⟩ ?_
              obtain ⟨y743, A743, hy743, ry743⟩ := xk_arr K.1 xD_140
              obtain ⟨v744, ev744, bv744, dv744⟩ := xj_get hy743 ry743 (i := 4) (by decide) (by decide)
              have A745 := ((eh739.2.1 140 (by decide)).trans ((eh721.2.1 140 (by decide)).trans A743))
              refine xi_iaload (pc' := 8) (v := v744) kc_12_7 rfl A745 (by decide) rfl (xi_in (by decide) (by rw [hy743]; decide)) ev744 ?_
              refine xi_iconst (pc' := 9) (v := 1) kc_12_8 rfl rfl ?_
              obtain ⟨v746, ev746⟩ : ∃ q : Int32, (v744 : Int32) + 1 = q := ⟨_, rfl⟩
              have rv746 := xc_rng v746
              refine xi_iadd (pc' := 10) (v := v746) kc_12_9 rfl ev746 ?_
              obtain ⟨y747, s747, hy747, ry747⟩ := xj_set (v := v746) hy743 ry743 4 (by first | omega | decide) (by first | omega | decide)
              refine xi_iastore (pc' := 11) (x' := y747) kc_12_10 rfl A745 rfl (xi_in (by decide) (by rw [hy743]; decide)) s747 (fun hh747 eh747 => ?_)
              have K748 := xk_pa K741 (xk_wa (by decide +kernel)) xD_140 hy747 ry747 eh747
              have KR749 := xk_pa KR742 (xk_wa (by decide +kernel)) xD_140 hy747 ry747 eh747
              refine xi_iload_n (pc' := 12) (x := (-4)) kc_12_11 rfl rfl ?_
              refine xi_ireturn kc_12_12 mr_12 rfl ?_
              show xw J ov 99 9 (54, [(0, .ref 115), (1, .int a4), (2, .int 3), (3, .int a8)], [.int (-4)], hh747) _
              refine xi_ireturn kc_9_54 mr_9 rfl ?_
              show xw J ov 100 195 (237, [(4, .int x4), (3, .ref 167), (2, .ref 115), (1, .ref 0), (0, .ref 1000000)], [.int (-4)], hh747) _
              refine xi_pop (pc' := 238) kc_195_237 rfl rfl ?_
              refine xi_goto (pc' := 1501) kc_195_238 rfl ?_
              obtain ⟨v750, ev750⟩ : ∃ q : Int32, x4 + 6 = q := ⟨_, rfl⟩
              have zv750 : v750.toInt = (x4.toInt + 6) := by rw [← ev750]; exact (xz_add (X := x4.toInt) (Y := 6) rfl (by decide) (by omega) (by omega)).trans (by omega)
              refine xi_iinc (pc' := 1504) (x := x4) (v := v750) (lv' := [(4, .int v750), (3, .ref 167), (2, .ref 115), (1, .ref 0), (0, .ref 1000000)]) kc_195_1501 rfl rfl ev750 rfl (xm_lt ml_195 rfl) ?_
              refine xi_goto (pc' := 23) kc_195_1504 rfl ?_
              exact kk v750 hh747 (by omega) K748 (xI_kept I KR749.2.1)
          by_cases c751 : a6.toInt = 4
          · have qa6 : a6 = 4 := xc_of (Eq.trans (by omega) (show (4 : Int) = (4 : Int32).toInt by decide))
            subst qa6
            refine xi_ialoadO (pc' := 35) (v := 0) kc_88_34 rfl (by decide) hov1 (xi_in (n := 6) (by decide) (by decide)) rfl ?_
            by_cases c752 : 0 ≤ a8.toInt
            · refine xi_cmt (pc' := 45) kc_88_35 rfl (xc_ge_t (X := a8.toInt) (Y := 0) rfl (by decide) (by omega)) ?_
              refine xi_iload_n (pc' := 46) (x := a8) kc_88_45 rfl rfl ?_
              refine xi_getstatic (pc' := 49) (j := 1000002) kc_88_46 rfl rfl ?_
              refine xi_iload_n (pc' := 50) (x := 4) kc_88_49 rfl rfl ?_
              refine xi_ialoadO (pc' := 51) (v := 1) kc_88_50 rfl (by decide) hov2 (xi_in (n := 6) (by decide) (by decide)) rfl ?_
              by_cases c753 : a8.toInt ≤ 1
              · refine xi_cmt (pc' := 61) kc_88_51 rfl (xc_le_t (X := a8.toInt) (Y := 1) rfl (by decide) (by omega)) ?_
                refine xi_iload_n (pc' := 62) (x := 4) kc_88_61 rfl rfl ?_
                refine xi_iconst (pc' := 63) (v := 5) kc_88_62 rfl rfl ?_
                refine xi_cmt (pc' := 90) kc_88_63 rfl rfl ?_
                refine xi_aload_n (pc' := 91) (x := 0) kc_88_90 rfl rfl ?_
                refine xi_getfield (pc' := 94) (v := .ref 66) kc_88_91 rfl rfl rfl A11 rfl ?_
                obtain ⟨u755, wl754, bu755, A756⟩ := xq_66 K.1
                refine xi_virtual (mj := 91) (as := []) (st1 := []) (lv0 := [(0, .ref 66)]) kc_88_94 rfl rfl rfl rfl rfl A756 (Nat.le_of_ble_eq_true rfl) (hJ _ _ _ _ (by decide)) (xm_le ml_91 rfl) rfl ?_
                refine xi_aload_n (pc' := 1) (x := 66) kc_91_0 rfl rfl ?_
                refine xi_lconst (pc' := 2) (v := 0) kc_91_1 rfl rfl ?_
                refine xi_putfield (pc' := 5) (fs' := [.ref 1, .ref 67, .ref 70, .ref 71, .ref 72, .ref 73, .ref 74, .long 0, .int u755]) kc_91_2 rfl rfl rfl A756 rfl rfl rfl (Nat.le_of_ble_eq_true rfl) rfl (fun hh758 eh757 => ?_)
                have K759 := xk_pl (k := 7) (v := 0) K (xk_wf (by decide +kernel)) xD_66 A756 rfl eh757 rfl
                have KR760 := xk_pl (k := 7) (v := 0) KR (xk_wf (by decide +kernel)) xD_66 A756 rfl eh757 rfl
                refine xi_return kc_91_5 mr_91 ?_
                show xw J ov 99 88 (97, [(0, .ref 0), (1, .int a4), (2, .int 4), (3, .int a8)], [], hh758) _
                refine xi_aload_n (pc' := 98) (x := 0) kc_88_97 rfl rfl ?_
                have A761 := ((eh757.2.1 0 (by decide)).trans A11)
                refine xi_getfield (pc' := 101) (v := .ref 1) kc_88_98 rfl rfl rfl A761 rfl ?_
                refine xi_iload_n (pc' := 102) (x := a4) kc_88_101 rfl rfl ?_
                refine xi_iload_n (pc' := 103) (x := 4) kc_88_102 rfl rfl ?_
                refine xi_iload_n (pc' := 104) (x := a8) kc_88_103 rfl rfl ?_
                obtain ⟨u762, u763, bu762, bu763, A764⟩ := xq_1 K.1
                have A765 := ((eh757.2.1 1 (by decide)).trans A764)
                refine xi_virtual (mj := 92) (as := [.int a4, .int 4, .int a8]) (st1 := []) (lv0 := [(0, .ref 1), (1, .int a4), (2, .int 4), (3, .int a8)]) kc_88_104 rfl rfl rfl rfl rfl A765 (Nat.le_of_ble_eq_true rfl) (hJ _ _ _ _ (by decide)) (xm_le ml_92 rfl) rfl ?_
                have F766 := xra_fr WWb (xl_c (eh757.2.1 121 (by decide)))
                have F767 := xg6_c I6 (fun c hc => eh757.2.1 c (Ne.symm (xk_nc hc rfl)))
                have F768 := xr5_c I5 (fun c hc => eh757.2.1 c (Ne.symm (xk_nc hc rfl)))
                have zc4 : (4 : Int32).toInt = 4 := by decide
                refine xw_chg hJ hov1 hov2 (d := 96) (x1 := a4) (x2 := 4) (x3 := a8) K759.1 F767 (by omega) (by omega) (fun r769 hh770 hr769 K771 I772 => ?_)
                have rr769 := xc_rng r769
                have nqr769 : Int32.toNatClampNeg 4 = 4 := by decide
                rw [nqr769] at hr769 I772
                have I7725 := xr5_k F768 K771 (by decide +kernel)
                have I772W := xra_fr F766 (K771.2.1 (121, 0) (by decide +kernel))
                have A773 := ((eh757.2.1 64 (by decide)).trans A1)
                have K774 := xk_tr K759 K771 (xsb_ok _ _ (by decide +kernel))
                have A775 := xk_eqa (q := 0) K771 (by decide +kernel) A773
                obtain ⟨u776, u777, bu776, bu777, A778⟩ := xq_0 K774.1
                have e779 : u10 = u777 := xk_eqi (q := 9) K771 (by decide +kernel) A761 A778 rfl rfl
                subst e779
                have e780 : u9 = u776 := xk_eqi (q := 8) K771 (by decide +kernel) A761 A778 rfl rfl
                subst e780
                obtain ⟨u781, u782, bu781, bu782, A783⟩ := xq_1 K774.1
                have e784 : u762 = u781 := xk_eqi (q := 5) K771 (by decide +kernel) A765 A783 rfl rfl
                subst e784
                show xw J ov 99 88 (107, [(0, .ref 0), (1, .int a4), (2, .int 4), (3, .int a8)], [.int r769], hh770) _
                refine xi_ireturn kc_88_107 mr_88 rfl ?_
                show xw J ov 100 195 (214, [(4, .int x4), (3, .ref 167), (2, .ref 115), (1, .ref 0), (0, .ref 1000000)], [.int r769], hh770) _
                refine xi_pop (pc' := 215) kc_195_214 rfl rfl ?_
                refine xi_aload_n (pc' := 216) (x := 115) kc_195_215 rfl rfl ?_
                refine xi_aload_n (pc' := 217) (x := 1000000) kc_195_216 rfl rfl ?_
                refine xi_iload (pc' := 219) (x := x4) kc_195_217 rfl rfl ?_
                refine xi_iconst (pc' := 220) (v := 1) kc_195_219 rfl rfl ?_
                refine xi_iadd (pc' := 221) (v := v3) kc_195_220 rfl ev3 ?_
                refine xi_ialoadO (pc' := 222) (v := a4) kc_195_221 rfl (by decide) hov0 (xi_in (by omega) (by omega)) ea4 ?_
                refine xi_aload_n (pc' := 223) (x := 1000000) kc_195_222 rfl rfl ?_
                refine xi_iload (pc' := 225) (x := x4) kc_195_223 rfl rfl ?_
                refine xi_iconst (pc' := 226) (v := 2) kc_195_225 rfl rfl ?_
                refine xi_iadd (pc' := 227) (v := v5) kc_195_226 rfl ev5 ?_
                refine xi_ialoadO (pc' := 228) (v := 4) kc_195_227 rfl (by decide) hov0 (xi_in (by omega) (by omega)) ea6 ?_
                refine xi_aload_n (pc' := 229) (x := 1000000) kc_195_228 rfl rfl ?_
                refine xi_iload (pc' := 231) (x := x4) kc_195_229 rfl rfl ?_
                refine xi_iconst (pc' := 232) (v := 3) kc_195_231 rfl rfl ?_
                refine xi_iadd (pc' := 233) (v := v7) kc_195_232 rfl ev7 ?_
                refine xi_ialoadO (pc' := 234) (v := a8) kc_195_233 rfl (by decide) hov0 (xi_in (by omega) (by omega)) ea8 ?_
                obtain ⟨u785, u786, u787, u788, u789, u790, u791, u792, u793, u794, u795, u796, u797, bu785, bu786, bu787, bu788, bu789, bu790, bu791, bu792, bu793, bu794, bu795, bu796, bu797, A798⟩ := xq_115 K774.1
                refine xi_virtual (mj := 9) (as := [.int a4, .int 4, .int a8]) (st1 := []) (lv0 := [(0, .ref 115), (1, .int a4), (2, .int 4), (3, .int a8)]) kc_195_234 rfl rfl rfl rfl rfl A798 (Nat.le_of_ble_eq_true rfl) (hJ _ _ _ _ (by decide)) (xm_le ml_9 rfl) rfl ?_
                refine xi_aload_n (pc' := 1) (x := 115) kc_9_0 rfl rfl ?_
                refine xi_iconst (pc' := 2) (v := 0) kc_9_1 rfl rfl ?_
                refine xi_putfield (pc' := 5) (fs' := [.int 0, .int u786, .ref 116, .ref 117, .ref 118, .ref 119, .ref 120, .ref 121, .ref 122, .ref 123, .ref 124, .ref 125, .ref 126, .ref 127, .ref 128, .ref 129, .int u787, .ref 130, .int u788, .ref 131, .ref 132, .ref 133, .ref 134, .int u789, .ref 135, .ref 136, .ref 137, .ref 138, .ref 139, .ref 140, .ref 141, .ref 142, .int u790, .int u791, .int u792, .ref 143, .ref 144, .ref 145, .ref 146, .ref 147, .ref 148, .int u793, .ref 149, .ref 150, .ref 151, .int u794, .ref 152, .ref 153, .ref 154, .ref 155, .ref 156, .ref 157, .ref 158, .ref 159, .int u795, .ref 160, .int u796, .ref 161, .ref 162, .ref 163, .ref 164, .int u797, .ref 165, .ref 166]) kc_9_2 rfl rfl rfl A798 rfl rfl rfl (Nat.le_of_ble_eq_true rfl) rfl (fun hh800 eh799 => ?_)
                have K801 := xk_pf (k := 0) (v := 0) K774 (xk_wf (by decide +kernel)) xD_115 A798 rfl (by first | omega | decide) (by first | omega | decide) eh799 rfl
                refine xi_iload_n (pc' := 6) (x := a4) kc_9_5 rfl rfl ?_
                refine xi_static (mj := 10) (as := [.int a4]) (st1 := []) (lv0 := [(0, .int a4)]) kc_9_6 rfl rfl (Nat.le_of_ble_eq_true rfl) rfl rfl (Nat.le_of_ble_eq_true rfl) (hJ _ _ _ _ (by decide)) (xm_le ml_10 rfl) rfl ?_
                refine xi_iload_n (pc' := 1) (x := a4) kc_10_0 rfl rfl ?_
                refine xi_iconst (pc' := 2) (v := 0) kc_10_1 rfl rfl ?_
                refine xi_iconst (pc' := 3) (v := 5) kc_10_2 rfl rfl ?_
                refine xi_static (mj := 11) (as := [.int a4, .int 0, .int 5]) (st1 := []) (lv0 := [(0, .int a4), (1, .int 0), (2, .int 5)]) kc_10_3 rfl rfl (Nat.le_of_ble_eq_true rfl) rfl rfl (Nat.le_of_ble_eq_true rfl) (hJ _ _ _ _ (by decide)) (xm_le ml_11 rfl) rfl ?_
                refine xi_iload_n (pc' := 1) (x := a4) kc_11_0 rfl rfl ?_
                refine xi_iload_n (pc' := 2) (x := 0) kc_11_1 rfl rfl ?_
                refine xi_cmf (pc' := 5) kc_11_2 rfl (xc_lt_f (X := a4.toInt) (Y := 0) rfl (by decide) (by omega)) ?_
                refine xi_iload_n (pc' := 6) (x := a4) kc_11_5 rfl rfl ?_
                refine xi_iload_n (pc' := 7) (x := 5) kc_11_6 rfl rfl ?_
                refine xi_cmf (pc' := 10) kc_11_7 rfl (xc_gt_f (X := a4.toInt) (Y := 5) rfl (by decide) (by omega)) ?_
                refine xi_iconst (pc' := 11) (v := 1) kc_11_10 rfl rfl ?_
                refine xi_goto (pc' := 15) kc_11_11 rfl ?_
                refine xi_ireturn kc_11_15 mr_11 rfl ?_
                show xw J ov 98 10 (6, [(0, .int a4)], [.int 1], hh800) _
                refine xi_ireturn kc_10_6 mr_10 rfl ?_
                show xw J ov 99 9 (9, [(0, .ref 115), (1, .int a4), (2, .int 4), (3, .int a8)], [.int 1], hh800) _
                refine xi_ift (pc' := 18) kc_9_9 rfl rfl ?_
                refine xi_iload_n (pc' := 19) (x := 4) kc_9_18 rfl rfl ?_
                refine xi_iconst (pc' := 20) (v := 0) kc_9_19 rfl rfl ?_
                refine xi_iconst (pc' := 21) (v := 5) kc_9_20 rfl rfl ?_
                refine xi_static (mj := 11) (as := [.int 4, .int 0, .int 5]) (st1 := []) (lv0 := [(0, .int 4), (1, .int 0), (2, .int 5)]) kc_9_21 rfl rfl (Nat.le_of_ble_eq_true rfl) rfl rfl (Nat.le_of_ble_eq_true rfl) (hJ _ _ _ _ (by decide)) (xm_le ml_11 rfl) rfl ?_
                refine xi_iload_n (pc' := 1) (x := 4) kc_11_0 rfl rfl ?_
                refine xi_iload_n (pc' := 2) (x := 0) kc_11_1 rfl rfl ?_
                refine xi_cmf (pc' := 5) kc_11_2 rfl rfl ?_
                refine xi_iload_n (pc' := 6) (x := 4) kc_11_5 rfl rfl ?_
                refine xi_iload_n (pc' := 7) (x := 5) kc_11_6 rfl rfl ?_
                refine xi_cmf (pc' := 10) kc_11_7 rfl rfl ?_
                refine xi_iconst (pc' := 11) (v := 1) kc_11_10 rfl rfl ?_
                refine xi_goto (pc' := 15) kc_11_11 rfl ?_
                refine xi_ireturn kc_11_15 mr_11 rfl ?_
                show xw J ov 99 9 (24, [(0, .ref 115), (1, .int a4), (2, .int 4), (3, .int a8)], [.int 1], hh800) _
                refine xi_ift (pc' := 34) kc_9_24 rfl rfl ?_
                refine xi_iload_n (pc' := 35) (x := a8) kc_9_34 rfl rfl ?_
                refine xi_iload_n (pc' := 36) (x := 4) kc_9_35 rfl rfl ?_
                refine xi_ift (pc' := 44) kc_9_36 rfl rfl ?_
                refine xi_iconst (pc' := 45) (v := 0) kc_9_44 rfl rfl ?_
                refine xi_cmt (pc' := 55) kc_9_45 rfl (xc_ge_t (X := a8.toInt) (Y := 0) rfl (by decide) (by omega)) ?_
                refine xi_iload_n (pc' := 56) (x := a8) kc_9_55 rfl rfl ?_
                refine xi_iload_n (pc' := 57) (x := 4) kc_9_56 rfl rfl ?_
                refine xi_ift (pc' := 65) kc_9_57 rfl rfl ?_
                refine xi_iload_n (pc' := 66) (x := 4) kc_9_65 rfl rfl ?_
                refine xi_iconst (pc' := 67) (v := 1) kc_9_66 rfl rfl ?_
                refine xi_cmt (pc' := 75) kc_9_67 rfl rfl ?_
                refine xi_iload_n (pc' := 76) (x := 4) kc_9_75 rfl rfl ?_
                refine xi_iconst (pc' := 77) (v := 4) kc_9_76 rfl rfl ?_
                refine xi_cmt (pc' := 85) kc_9_77 rfl rfl ?_
                refine xi_iload_n (pc' := 86) (x := 4) kc_9_85 rfl rfl ?_
                refine xi_iconst (pc' := 87) (v := 4) kc_9_86 rfl rfl ?_
                refine xi_cmf (pc' := 90) kc_9_87 rfl rfl ?_
                refine xi_iconst (pc' := 91) (v := 1) kc_9_90 rfl rfl ?_
                refine xi_goto (pc' := 96) kc_9_91 rfl ?_
                refine xi_cmt (pc' := 106) kc_9_96 rfl (xc_le_t (X := a8.toInt) (Y := 1) rfl (by decide) (by omega)) ?_
                refine xi_aload_n (pc' := 107) (x := 115) kc_9_106 rfl rfl ?_
                refine xi_iload_n (pc' := 108) (x := a4) kc_9_107 rfl rfl ?_
                refine xi_iload_n (pc' := 109) (x := 4) kc_9_108 rfl rfl ?_
                refine xi_virtual (mj := 13) (as := [.int a4, .int 4]) (st1 := []) (lv0 := [(0, .ref 115), (1, .int a4), (2, .int 4)]) kc_9_109 rfl rfl rfl rfl rfl eh799.1 (Nat.le_of_ble_eq_true rfl) (hJ _ _ _ _ (by decide)) (xm_le ml_13 rfl) rfl ?_
                have F802 := xg6_c I772 (fun c hc => eh799.2.1 c (Ne.symm (xk_nc hc rfl)))
                have F803 := xr5_c I7725 (fun c hc => eh799.2.1 c (Ne.symm (xk_nc hc rfl)))
                have F804 := xra_fr I772W (xl_c (eh799.2.1 121 (by decide)))
                have zc4 : (4 : Int32).toInt = 4 := by decide
                refine xw_rn hJ hov1 hov2 (d := 97) (x1 := a4) (x2 := 4) K801.1 F803 (by omega) (by omega) (fun r805 hr805 => ?_)
                have rr805 := xc_rng r805
                have nqr805 : Int32.toNatClampNeg 4 = 4 := by decide
                rw [nqr805] at hr805
                show xw J ov 99 9 (112, [(0, .ref 115), (1, .int a4), (2, .int 4), (3, .int a8)], [.int r805], hh800) _
                refine xi_istore (pc' := 114) (lv' := [(4, .int r805), (0, .ref 115), (1, .int a4), (2, .int 4), (3, .int a8)]) kc_9_112 rfl rfl (xm_lt ml_9 rfl) ?_
                refine xi_aload_n (pc' := 115) (x := 115) kc_9_114 rfl rfl ?_
                refine xi_iload_n (pc' := 116) (x := a4) kc_9_115 rfl rfl ?_
                refine xi_iload_n (pc' := 117) (x := 4) kc_9_116 rfl rfl ?_
                refine xi_iload_n (pc' := 118) (x := a8) kc_9_117 rfl rfl ?_
                refine xi_virtual (mj := 14) (as := [.int a4, .int 4, .int a8]) (st1 := []) (lv0 := [(0, .ref 115), (1, .int a4), (2, .int 4), (3, .int a8)]) kc_9_118 rfl rfl rfl rfl rfl eh799.1 (Nat.le_of_ble_eq_true rfl) (hJ _ _ _ _ (by decide)) (xm_le ml_14 rfl) rfl ?_
                refine xw_te4 hJ hov1 hov2 (d := 97) (x1 := a4) (x3 := a8) K801.1 F803 F804 (by omega) (by omega) (fun hh806 K807 F808 F809 => ?_)
                have F810 := xg6_k F802 K807 (by decide +kernel)
                have A811 := ((eh799.2.1 64 (by decide)).trans A775)
                have A812 := ((eh799.2.1 0 (by decide)).trans A778)
                have A813 := ((eh799.2.1 1 (by decide)).trans A783)
                have K814 := xk_tr K801 K807 (xsb_ok _ _ (by decide +kernel))
                have A815 := xk_eqa (q := 0) K807 (by decide +kernel) A811
                obtain ⟨u816, u817, bu816, bu817, A818⟩ := xq_0 K814.1
                have e819 : u10 = u817 := xk_eqi (q := 9) K807 (by decide +kernel) A812 A818 rfl rfl
                subst e819
                have e820 : u9 = u816 := xk_eqi (q := 8) K807 (by decide +kernel) A812 A818 rfl rfl
                subst e820
                obtain ⟨u821, u822, bu821, bu822, A823⟩ := xq_1 K814.1
                have e824 : u762 = u821 := xk_eqi (q := 5) K807 (by decide +kernel) A813 A823 rfl rfl
                subst e824
                obtain ⟨u825, u826, u827, u828, u829, u830, u831, u832, u833, u834, u835, u836, u837, bu825, bu826, bu827, bu828, bu829, bu830, bu831, bu832, bu833, bu834, bu835, bu836, bu837, A838⟩ := xq_115 K814.1
                have e839 : u786 = u826 := xk_eqi (q := 1) K807 (by decide +kernel) eh799.1 A838 rfl rfl
                subst e839
                have e840 : u789 = u829 := xk_eqi (q := 23) K807 (by decide +kernel) eh799.1 A838 rfl rfl
                subst e840
                have e841 : u792 = u832 := xk_eqi (q := 34) K807 (by decide +kernel) eh799.1 A838 rfl rfl
                subst e841
                have e842 : u790 = u830 := xk_eqi (q := 32) K807 (by decide +kernel) eh799.1 A838 rfl rfl
                subst e842
                show xw J ov 99 9 (121, [(4, .int r805), (0, .ref 115), (1, .int a4), (2, .int 4), (3, .int a8)], [], hh806) _
                refine xi_iload (pc' := 123) (x := r805) kc_9_121 rfl rfl ?_
                refine xi_ireturn kc_9_123 mr_9 rfl ?_
                show xw J ov 100 195 (237, [(4, .int x4), (3, .ref 167), (2, .ref 115), (1, .ref 0), (0, .ref 1000000)], [.int r805], hh806) _
                refine xi_pop (pc' := 238) kc_195_237 rfl rfl ?_
                refine xi_goto (pc' := 1501) kc_195_238 rfl ?_
                obtain ⟨v843, ev843⟩ : ∃ q : Int32, x4 + 6 = q := ⟨_, rfl⟩
                have zv843 : v843.toInt = (x4.toInt + 6) := by rw [← ev843]; exact (xz_add (X := x4.toInt) (Y := 6) rfl (by decide) (by omega) (by omega)).trans (by omega)
                refine xi_iinc (pc' := 1504) (x := x4) (v := v843) (lv' := [(4, .int v843), (3, .ref 167), (2, .ref 115), (1, .ref 0), (0, .ref 1000000)]) kc_195_1501 rfl rfl ev843 rfl (xm_lt ml_195 rfl) ?_
                refine xi_goto (pc' := 23) kc_195_1504 rfl ?_
                exact kk v843 hh806 (by omega) K814 ⟨((K814.2.1 (0, 9) (by decide +kernel)).trans (I.1.trans (K814.2.1 (115, 1) (by decide +kernel)).symm)), ⟨w, xra_mk A815 R2, F809, WWr⟩, ⟨_, F810, F808⟩, (by rw [(K814.2.1 (13, 0) (by decide +kernel)), (K814.2.1 (122, 0) (by decide +kernel))]; exact I.2.2.2.1), (by rw [(K814.2.1 (16, 0) (by decide +kernel)), (K814.2.1 (122, 0) (by decide +kernel))]; exact I.2.2.2.2.1), (by rw [(K814.2.1 (19, 0) (by decide +kernel)), (K814.2.1 (122, 0) (by decide +kernel))]; exact I.2.2.2.2.2.1), (by rw [(K814.2.1 (22, 0) (by decide +kernel)), (K814.2.1 (122, 0) (by decide +kernel))]; exact I.2.2.2.2.2.2.1), (by rw [(K814.2.1 (25, 0) (by decide +kernel)), (K814.2.1 (122, 0) (by decide +kernel))]; exact I.2.2.2.2.2.2.2.1), (by rw [(K814.2.1 (28, 0) (by decide +kernel)), (K814.2.1 (122, 0) (by decide +kernel))]; exact I.2.2.2.2.2.2.2.2.1), (by rw [(K814.2.1 (6, 0) (by decide +kernel)), (K814.2.1 (123, 0) (by decide +kernel))]; exact I.2.2.2.2.2.2.2.2.2.1), (by rw [(K814.2.1 (9, 0) (by decide +kernel)), (K814.2.1 (124, 0) (by decide +kernel))]; exact I.2.2.2.2.2.2.2.2.2.2.1), (by rw [(K814.2.1 (7, 0) (by decide +kernel)), (K814.2.1 (6, 0) (by decide +kernel))]; exact I.2.2.2.2.2.2.2.2.2.2.2.1), (by rw [(K814.2.1 (10, 0) (by decide +kernel)), (K814.2.1 (9, 0) (by decide +kernel))]; exact I.2.2.2.2.2.2.2.2.2.2.2.2.1), ((K814.2.1 (5, 0) (by decide +kernel)).trans I.2.2.2.2.2.2.2.2.2.2.2.2.2.1), ((K814.2.1 (8, 0) (by decide +kernel)).trans I.2.2.2.2.2.2.2.2.2.2.2.2.2.2.1), (xGR_fr I.2.2.2.2.2.2.2.2.2.2.2.2.2.2.2.1 K814.2.1 (by decide +kernel) (by decide +kernel)), (xGR_fr I.2.2.2.2.2.2.2.2.2.2.2.2.2.2.2.2.1 K814.2.1 (by decide +kernel) (by decide +kernel)), ((K814.2.1 (1, 5) (by decide +kernel)).trans (I.2.2.2.2.2.2.2.2.2.2.2.2.2.2.2.2.2.1.trans (K814.2.1 (115, 23) (by decide +kernel)).symm)), (xGR_fr I.2.2.2.2.2.2.2.2.2.2.2.2.2.2.2.2.2.2.1 K814.2.1 (by decide +kernel) (by decide +kernel)), (xGR_fr I.2.2.2.2.2.2.2.2.2.2.2.2.2.2.2.2.2.2.2.1 K814.2.1 (by decide +kernel) (by decide +kernel)), (xGR_fr I.2.2.2.2.2.2.2.2.2.2.2.2.2.2.2.2.2.2.2.2.1 K814.2.1 (by decide +kernel) (by decide +kernel)), (xGR_fr I.2.2.2.2.2.2.2.2.2.2.2.2.2.2.2.2.2.2.2.2.2.1 K814.2.1 (by decide +kernel) (by decide +kernel)), (by rw [(K814.2.1 (63, 2) (by decide +kernel)), (K814.2.1 (139, 0) (by decide +kernel)), (K814.2.1 (1, 5) (by decide +kernel))]; exact I.2.2.2.2.2.2.2.2.2.2.2.2.2.2.2.2.2.2.2.2.2.2.1), ((K814.2.1 (0, 8) (by decide +kernel)).trans (I.2.2.2.2.2.2.2.2.2.2.2.2.2.2.2.2.2.2.2.2.2.2.2.1.trans (K814.2.1 (115, 34) (by decide +kernel)).symm)), (xGR_fr I.2.2.2.2.2.2.2.2.2.2.2.2.2.2.2.2.2.2.2.2.2.2.2.2.1 K814.2.1 (by decide +kernel) (by decide +kernel)), (xGR_fr I.2.2.2.2.2.2.2.2.2.2.2.2.2.2.2.2.2.2.2.2.2.2.2.2.2.1 K814.2.1 (by decide +kernel) (by decide +kernel)), (xGR_fr I.2.2.2.2.2.2.2.2.2.2.2.2.2.2.2.2.2.2.2.2.2.2.2.2.2.2.1 K814.2.1 (by decide +kernel) (by decide +kernel)), (xGR_fr I.2.2.2.2.2.2.2.2.2.2.2.2.2.2.2.2.2.2.2.2.2.2.2.2.2.2.2.1 K814.2.1 (by decide +kernel) (by decide +kernel)), (xts_fr I.2.2.2.2.2.2.2.2.2.2.2.2.2.2.2.2.2.2.2.2.2.2.2.2.2.2.2.2.1 (fun l hl => K814.2.1 l (xk_el (by decide +kernel) hl))), ((K814.2.1 (63, 3) (by decide +kernel)).trans I.2.2.2.2.2.2.2.2.2.2.2.2.2.2.2.2.2.2.2.2.2.2.2.2.2.2.2.2.2)⟩
              · refine xi_cmf (pc' := 54) kc_88_51 rfl (xc_le_f (X := a8.toInt) (Y := 1) rfl (by decide) (by omega)) ?_
                refine xi_aload_n (pc' := 55) (x := 0) kc_88_54 rfl rfl ?_
                refine xi_bipush (pc' := 57) (v := (-6)) kc_88_55 rfl rfl ?_
                refine xi_virtual (mj := 90) (as := [.int (-6)]) (st1 := []) (lv0 := [(0, .ref 0), (1, .int (-6))]) kc_88_57 rfl rfl rfl rfl rfl A11 (Nat.le_of_ble_eq_true rfl) (hJ _ _ _ _ (by decide)) (xm_le ml_90 rfl) rfl ?_
                refine xi_iload_n (pc' := 1) (x := (-6)) kc_90_0 rfl rfl ?_
                refine xi_ineg (pc' := 2) (v := 6) kc_90_1 rfl rfl ?_
                refine xi_istore_n (pc' := 3) (lv' := [(2, .int 6), (0, .ref 0), (1, .int (-6))]) kc_90_2 rfl rfl (xm_lt ml_90 rfl) ?_
                refine xi_iload_n (pc' := 4) (x := 6) kc_90_3 rfl rfl ?_
                refine xi_iff (pc' := 7) kc_90_4 rfl rfl ?_
                refine xi_iload_n (pc' := 8) (x := 6) kc_90_7 rfl rfl ?_
                refine xi_aload_n (pc' := 9) (x := 0) kc_90_8 rfl rfl ?_
                refine xi_getfield (pc' := 12) (v := .ref 94) kc_90_9 rfl rfl rfl A11 rfl ?_
                obtain ⟨y844, A844, hy844, ry844⟩ := xk_arr K.1 xD_94
                refine xi_arraylength (pc' := 13) (n := 7) (v := 7) kc_90_12 rfl (xl_lenI (by decide) (by decide) A844 hy844) rfl ?_
                refine xi_cmf (pc' := 16) kc_90_13 rfl rfl ?_
                refine xi_aload_n (pc' := 17) (x := 0) kc_90_16 rfl rfl ?_
                refine xi_getfield (pc' := 20) (v := .ref 94) kc_90_17 rfl rfl rfl A11 rfl ?_
                refine xi_iload_n (pc' := 21) (x := 6) kc_90_20 rfl rfl ?_
                refine xi_dup2 (pc' := 22) kc_90_21 rfl ⟨rfl, rfl⟩ ?_
                obtain ⟨v845, ev845, bv845, dv845⟩ := xj_get hy844 ry844 (i := 6) (by decide) (by decide)
                refine xi_iaload (pc' := 23) (v := v845) kc_90_22 rfl A844 (by decide) rfl (xi_in (by decide) (by rw [hy844]; decide)) ev845 ?_
                refine xi_iconst (pc' := 24) (v := 1) kc_90_23 rfl rfl ?_
                obtain ⟨v846, ev846⟩ : ∃ q : Int32, (v845 : Int32) + 1 = q := ⟨_, rfl⟩
                have rv846 := xc_rng v846
                refine xi_iadd (pc' := 25) (v := v846) kc_90_24 rfl ev846 ?_
                obtain ⟨y847, s847, hy847, ry847⟩ := xj_set (v := v846) hy844 ry844 6 (by first | omega | decide) (by first | omega | decide)
                refine xi_iastore (pc' := 26) (x' := y847) kc_90_25 rfl A844 rfl (xi_in (by decide) (by rw [hy844]; decide)) s847 (fun hh847 eh847 => ?_)
                have K848 := xk_pa K (xk_wa (by decide +kernel)) xD_94 hy847 ry847 eh847
                have KR849 := xk_pa KR (xk_wa (by decide +kernel)) xD_94 hy847 ry847 eh847
                refine xi_iload_n (pc' := 27) (x := (-6)) kc_90_26 rfl rfl ?_
                refine xi_ireturn kc_90_27 mr_90 rfl ?_
                show xw J ov 99 88 (60, [(0, .ref 0), (1, .int a4), (2, .int 4), (3, .int a8)], [.int (-6)], hh847) _
                refine xi_ireturn kc_88_60 mr_88 rfl ?_
                show xw J ov 100 195 (214, [(4, .int x4), (3, .ref 167), (2, .ref 115), (1, .ref 0), (0, .ref 1000000)], [.int (-6)], hh847) _
                refine xi_pop (pc' := 215) kc_195_214 rfl rfl ?_
                refine xi_aload_n (pc' := 216) (x := 115) kc_195_215 rfl rfl ?_
                refine xi_aload_n (pc' := 217) (x := 1000000) kc_195_216 rfl rfl ?_
                refine xi_iload (pc' := 219) (x := x4) kc_195_217 rfl rfl ?_
                refine xi_iconst (pc' := 220) (v := 1) kc_195_219 rfl rfl ?_
                refine xi_iadd (pc' := 221) (v := v3) kc_195_220 rfl ev3 ?_
                refine xi_ialoadO (pc' := 222) (v := a4) kc_195_221 rfl (by decide) hov0 (xi_in (by omega) (by omega)) ea4 ?_
                refine xi_aload_n (pc' := 223) (x := 1000000) kc_195_222 rfl rfl ?_
                refine xi_iload (pc' := 225) (x := x4) kc_195_223 rfl rfl ?_
                refine xi_iconst (pc' := 226) (v := 2) kc_195_225 rfl rfl ?_
                refine xi_iadd (pc' := 227) (v := v5) kc_195_226 rfl ev5 ?_
                refine xi_ialoadO (pc' := 228) (v := 4) kc_195_227 rfl (by decide) hov0 (xi_in (by omega) (by omega)) ea6 ?_
                refine xi_aload_n (pc' := 229) (x := 1000000) kc_195_228 rfl rfl ?_
                refine xi_iload (pc' := 231) (x := x4) kc_195_229 rfl rfl ?_
                refine xi_iconst (pc' := 232) (v := 3) kc_195_231 rfl rfl ?_
                refine xi_iadd (pc' := 233) (v := v7) kc_195_232 rfl ev7 ?_
                refine xi_ialoadO (pc' := 234) (v := a8) kc_195_233 rfl (by decide) hov0 (xi_in (by omega) (by omega)) ea8 ?_
                obtain ⟨u850, u851, u852, u853, u854, u855, u856, u857, u858, u859, u860, u861, u862, bu850, bu851, bu852, bu853, bu854, bu855, bu856, bu857, bu858, bu859, bu860, bu861, bu862, A863⟩ := xq_115 K.1
                have A864 := ((eh847.2.1 115 (by decide)).trans A863)
                refine xi_virtual (mj := 9) (as := [.int a4, .int 4, .int a8]) (st1 := []) (lv0 := [(0, .ref 115), (1, .int a4), (2, .int 4), (3, .int a8)]) kc_195_234 rfl rfl rfl rfl rfl A864 (Nat.le_of_ble_eq_true rfl) (hJ _ _ _ _ (by decide)) (xm_le ml_9 rfl) rfl ?_
                refine xi_aload_n (pc' := 1) (x := 115) kc_9_0 rfl rfl ?_
                refine xi_iconst (pc' := 2) (v := 0) kc_9_1 rfl rfl ?_
                refine xi_putfield (pc' := 5) (fs' := [.int 0, .int u851, .ref 116, .ref 117, .ref 118, .ref 119, .ref 120, .ref 121, .ref 122, .ref 123, .ref 124, .ref 125, .ref 126, .ref 127, .ref 128, .ref 129, .int u852, .ref 130, .int u853, .ref 131, .ref 132, .ref 133, .ref 134, .int u854, .ref 135, .ref 136, .ref 137, .ref 138, .ref 139, .ref 140, .ref 141, .ref 142, .int u855, .int u856, .int u857, .ref 143, .ref 144, .ref 145, .ref 146, .ref 147, .ref 148, .int u858, .ref 149, .ref 150, .ref 151, .int u859, .ref 152, .ref 153, .ref 154, .ref 155, .ref 156, .ref 157, .ref 158, .ref 159, .int u860, .ref 160, .int u861, .ref 161, .ref 162, .ref 163, .ref 164, .int u862, .ref 165, .ref 166]) kc_9_2 rfl rfl rfl A864 rfl rfl rfl (Nat.le_of_ble_eq_true rfl) rfl (fun hh866 eh865 => ?_)
                have K867 := xk_pf (k := 0) (v := 0) K848 (xk_wf (by decide +kernel)) xD_115 A864 rfl (by first | omega | decide) (by first | omega | decide) eh865 rfl
                have KR868 := xk_pf (k := 0) (v := 0) KR849 (xk_wf (by decide +kernel)) xD_115 A864 rfl (by first | omega | decide) (by first | omega | decide) eh865 rfl
                refine xi_iload_n (pc' := 6) (x := a4) kc_9_5 rfl rfl ?_
                refine xi_static (mj := 10) (as := [.int a4]) (st1 := []) (lv0 := [(0, .int a4)]) kc_9_6 rfl rfl (Nat.le_of_ble_eq_true rfl) rfl rfl (Nat.le_of_ble_eq_true rfl) (hJ _ _ _ _ (by decide)) (xm_le ml_10 rfl) rfl ?_
                refine xi_iload_n (pc' := 1) (x := a4) kc_10_0 rfl rfl ?_
                refine xi_iconst (pc' := 2) (v := 0) kc_10_1 rfl rfl ?_
                refine xi_iconst (pc' := 3) (v := 5) kc_10_2 rfl rfl ?_
                refine xi_static (mj := 11) (as := [.int a4, .int 0, .int 5]) (st1 := []) (lv0 := [(0, .int a4), (1, .int 0), (2, .int 5)]) kc_10_3 rfl rfl (Nat.le_of_ble_eq_true rfl) rfl rfl (Nat.le_of_ble_eq_true rfl) (hJ _ _ _ _ (by decide)) (xm_le ml_11 rfl) rfl ?_
                refine xi_iload_n (pc' := 1) (x := a4) kc_11_0 rfl rfl ?_
                refine xi_iload_n (pc' := 2) (x := 0) kc_11_1 rfl rfl ?_
                refine xi_cmf (pc' := 5) kc_11_2 rfl (xc_lt_f (X := a4.toInt) (Y := 0) rfl (by decide) (by omega)) ?_
                refine xi_iload_n (pc' := 6) (x := a4) kc_11_5 rfl rfl ?_
                refine xi_iload_n (pc' := 7) (x := 5) kc_11_6 rfl rfl ?_
                refine xi_cmf (pc' := 10) kc_11_7 rfl (xc_gt_f (X := a4.toInt) (Y := 5) rfl (by decide) (by omega)) ?_
                refine xi_iconst (pc' := 11) (v := 1) kc_11_10 rfl rfl ?_
                refine xi_goto (pc' := 15) kc_11_11 rfl ?_
                refine xi_ireturn kc_11_15 mr_11 rfl ?_
                show xw J ov 98 10 (6, [(0, .int a4)], [.int 1], hh866) _
                refine xi_ireturn kc_10_6 mr_10 rfl ?_
                show xw J ov 99 9 (9, [(0, .ref 115), (1, .int a4), (2, .int 4), (3, .int a8)], [.int 1], hh866) _
                refine xi_ift (pc' := 18) kc_9_9 rfl rfl ?_
                refine xi_iload_n (pc' := 19) (x := 4) kc_9_18 rfl rfl ?_
                refine xi_iconst (pc' := 20) (v := 0) kc_9_19 rfl rfl ?_
                refine xi_iconst (pc' := 21) (v := 5) kc_9_20 rfl rfl ?_
                refine xi_static (mj := 11) (as := [.int 4, .int 0, .int 5]) (st1 := []) (lv0 := [(0, .int 4), (1, .int 0), (2, .int 5)]) kc_9_21 rfl rfl (Nat.le_of_ble_eq_true rfl) rfl rfl (Nat.le_of_ble_eq_true rfl) (hJ _ _ _ _ (by decide)) (xm_le ml_11 rfl) rfl ?_
                refine xi_iload_n (pc' := 1) (x := 4) kc_11_0 rfl rfl ?_
                refine xi_iload_n (pc' := 2) (x := 0) kc_11_1 rfl rfl ?_
                refine xi_cmf (pc' := 5) kc_11_2 rfl rfl ?_
                refine xi_iload_n (pc' := 6) (x := 4) kc_11_5 rfl rfl ?_
                refine xi_iload_n (pc' := 7) (x := 5) kc_11_6 rfl rfl ?_
                refine xi_cmf (pc' := 10) kc_11_7 rfl rfl ?_
                refine xi_iconst (pc' := 11) (v := 1) kc_11_10 rfl rfl ?_
                refine xi_goto (pc' := 15) kc_11_11 rfl ?_
                refine xi_ireturn kc_11_15 mr_11 rfl ?_
                show xw J ov 99 9 (24, [(0, .ref 115), (1, .int a4), (2, .int 4), (3, .int a8)], [.int 1], hh866) _
                refine xi_ift (pc' := 34) kc_9_24 rfl rfl ?_
                refine xi_iload_n (pc' := 35) (x := a8) kc_9_34 rfl rfl ?_
                refine xi_iload_n (pc' := 36) (x := 4) kc_9_35 rfl rfl ?_
                refine xi_ift (pc' := 44) kc_9_36 rfl rfl ?_
                refine xi_iconst (pc' := 45) (v := 0) kc_9_44 rfl rfl ?_
                refine xi_cmt (pc' := 55) kc_9_45 rfl (xc_ge_t (X := a8.toInt) (Y := 0) rfl (by decide) (by omega)) ?_
                refine xi_iload_n (pc' := 56) (x := a8) kc_9_55 rfl rfl ?_
                refine xi_iload_n (pc' := 57) (x := 4) kc_9_56 rfl rfl ?_
                refine xi_ift (pc' := 65) kc_9_57 rfl rfl ?_
                refine xi_iload_n (pc' := 66) (x := 4) kc_9_65 rfl rfl ?_
                refine xi_iconst (pc' := 67) (v := 1) kc_9_66 rfl rfl ?_
                refine xi_cmt (pc' := 75) kc_9_67 rfl rfl ?_
                refine xi_iload_n (pc' := 76) (x := 4) kc_9_75 rfl rfl ?_
                refine xi_iconst (pc' := 77) (v := 4) kc_9_76 rfl rfl ?_
                refine xi_cmt (pc' := 85) kc_9_77 rfl rfl ?_
                refine xi_iload_n (pc' := 86) (x := 4) kc_9_85 rfl rfl ?_
                refine xi_iconst (pc' := 87) (v := 4) kc_9_86 rfl rfl ?_
                refine xi_cmf (pc' := 90) kc_9_87 rfl rfl ?_
                refine xi_iconst (pc' := 91) (v := 1) kc_9_90 rfl rfl ?_
                refine xi_goto (pc' := 96) kc_9_91 rfl ?_
                refine xi_cmf (pc' := 99) kc_9_96 rfl (xc_le_f (X := a8.toInt) (Y := 1) rfl (by decide) (by omega)) ?_
                refine xi_aload_n (pc' := 100) (x := 115) kc_9_99 rfl rfl ?_
                refine xi_bipush (pc' := 102) (v := (-6)) kc_9_100 rfl rfl ?_
                refine xi_virtual (mj := 12) (as := [.int (-6)]) (st1 := []) (lv0 := [(0, .ref 115), (1, .int (-6))]) kc_9_102 rfl rfl rfl rfl rfl eh865.1 (Nat.le_of_ble_eq_true rfl) (hJ _ _ _ _ (by decide)) (xm_le ml_12 rfl) rfl ?_
                refine xi_aload_n (pc' := 1) (x := 115) kc_12_0 rfl rfl ?_
                refine xi_getfield (pc' := 4) (v := .ref 140) kc_12_1 rfl rfl rfl eh865.1 rfl ?_
                refine xi_iload_n (pc' := 5) (x := (-6)) kc_12_4 rfl rfl ?_
                refine xi_ineg (pc' := 6) (v := 6) kc_12_5 rfl rfl ?_
                refine xi_dup2 (pc' := 7) kc_12_6 rfl ⟨rfl, rfl⟩ ?_
                obtain ⟨y869, A869, hy869, ry869⟩ := xk_arr K.1 xD_140
                obtain ⟨v870, ev870, bv870, dv870⟩ := xj_get hy869 ry869 (i := 6) (by decide) (by decide)
                have A871 := ((eh865.2.1 140 (by decide)).trans ((eh847.2.1 140 (by decide)).trans A869))
                refine xi_iaload (pc' := 8) (v := v870) kc_12_7 rfl A871 (by decide) rfl (xi_in (by decide) (by rw [hy869]; decide)) ev870 ?_
                refine xi_iconst (pc' := 9) (v := 1) kc_12_8 rfl rfl ?_
                obtain ⟨v872, ev872⟩ : ∃ q : Int32, (v870 : Int32) + 1 = q := ⟨_, rfl⟩
                have rv872 := xc_rng v872
                refine xi_iadd (pc' := 10) (v := v872) kc_12_9 rfl ev872 ?_
                obtain ⟨y873, s873, hy873, ry873⟩ := xj_set (v := v872) hy869 ry869 6 (by first | omega | decide) (by first | omega | decide)
                refine xi_iastore (pc' := 11) (x' := y873) kc_12_10 rfl A871 rfl (xi_in (by decide) (by rw [hy869]; decide)) s873 (fun hh873 eh873 => ?_)
                have K874 := xk_pa K867 (xk_wa (by decide +kernel)) xD_140 hy873 ry873 eh873
                have KR875 := xk_pa KR868 (xk_wa (by decide +kernel)) xD_140 hy873 ry873 eh873
                refine xi_iload_n (pc' := 12) (x := (-6)) kc_12_11 rfl rfl ?_
                refine xi_ireturn kc_12_12 mr_12 rfl ?_
                show xw J ov 99 9 (105, [(0, .ref 115), (1, .int a4), (2, .int 4), (3, .int a8)], [.int (-6)], hh873) _
                refine xi_ireturn kc_9_105 mr_9 rfl ?_
                show xw J ov 100 195 (237, [(4, .int x4), (3, .ref 167), (2, .ref 115), (1, .ref 0), (0, .ref 1000000)], [.int (-6)], hh873) _
                refine xi_pop (pc' := 238) kc_195_237 rfl rfl ?_
                refine xi_goto (pc' := 1501) kc_195_238 rfl ?_
                obtain ⟨v876, ev876⟩ : ∃ q : Int32, x4 + 6 = q := ⟨_, rfl⟩
                have zv876 : v876.toInt = (x4.toInt + 6) := by rw [← ev876]; exact (xz_add (X := x4.toInt) (Y := 6) rfl (by decide) (by omega) (by omega)).trans (by omega)
                refine xi_iinc (pc' := 1504) (x := x4) (v := v876) (lv' := [(4, .int v876), (3, .ref 167), (2, .ref 115), (1, .ref 0), (0, .ref 1000000)]) kc_195_1501 rfl rfl ev876 rfl (xm_lt ml_195 rfl) ?_
                refine xi_goto (pc' := 23) kc_195_1504 rfl ?_
                exact kk v876 hh873 (by omega) K874 (xI_kept I KR875.2.1)
            · refine xi_cmf (pc' := 38) kc_88_35 rfl (xc_ge_f (X := a8.toInt) (Y := 0) rfl (by decide) (by omega)) ?_
              refine xi_aload_n (pc' := 39) (x := 0) kc_88_38 rfl rfl ?_
              refine xi_bipush (pc' := 41) (v := (-4)) kc_88_39 rfl rfl ?_
              refine xi_virtual (mj := 90) (as := [.int (-4)]) (st1 := []) (lv0 := [(0, .ref 0), (1, .int (-4))]) kc_88_41 rfl rfl rfl rfl rfl A11 (Nat.le_of_ble_eq_true rfl) (hJ _ _ _ _ (by decide)) (xm_le ml_90 rfl) rfl ?_
              refine xi_iload_n (pc' := 1) (x := (-4)) kc_90_0 rfl rfl ?_
              refine xi_ineg (pc' := 2) (v := 4) kc_90_1 rfl rfl ?_
              refine xi_istore_n (pc' := 3) (lv' := [(2, .int 4), (0, .ref 0), (1, .int (-4))]) kc_90_2 rfl rfl (xm_lt ml_90 rfl) ?_
              refine xi_iload_n (pc' := 4) (x := 4) kc_90_3 rfl rfl ?_
              refine xi_iff (pc' := 7) kc_90_4 rfl rfl ?_
              refine xi_iload_n (pc' := 8) (x := 4) kc_90_7 rfl rfl ?_
              refine xi_aload_n (pc' := 9) (x := 0) kc_90_8 rfl rfl ?_
              refine xi_getfield (pc' := 12) (v := .ref 94) kc_90_9 rfl rfl rfl A11 rfl ?_
              obtain ⟨y877, A877, hy877, ry877⟩ := xk_arr K.1 xD_94
              refine xi_arraylength (pc' := 13) (n := 7) (v := 7) kc_90_12 rfl (xl_lenI (by decide) (by decide) A877 hy877) rfl ?_
              refine xi_cmf (pc' := 16) kc_90_13 rfl rfl ?_
              refine xi_aload_n (pc' := 17) (x := 0) kc_90_16 rfl rfl ?_
              refine xi_getfield (pc' := 20) (v := .ref 94) kc_90_17 rfl rfl rfl A11 rfl ?_
              refine xi_iload_n (pc' := 21) (x := 4) kc_90_20 rfl rfl ?_
              refine xi_dup2 (pc' := 22) kc_90_21 rfl ⟨rfl, rfl⟩ ?_
              obtain ⟨v878, ev878, bv878, dv878⟩ := xj_get hy877 ry877 (i := 4) (by decide) (by decide)
              refine xi_iaload (pc' := 23) (v := v878) kc_90_22 rfl A877 (by decide) rfl (xi_in (by decide) (by rw [hy877]; decide)) ev878 ?_
              refine xi_iconst (pc' := 24) (v := 1) kc_90_23 rfl rfl ?_
              obtain ⟨v879, ev879⟩ : ∃ q : Int32, (v878 : Int32) + 1 = q := ⟨_, rfl⟩
              have rv879 := xc_rng v879
              refine xi_iadd (pc' := 25) (v := v879) kc_90_24 rfl ev879 ?_
              obtain ⟨y880, s880, hy880, ry880⟩ := xj_set (v := v879) hy877 ry877 4 (by first | omega | decide) (by first | omega | decide)
              refine xi_iastore (pc' := 26) (x' := y880) kc_90_25 rfl A877 rfl (xi_in (by decide) (by rw [hy877]; decide)) s880 (fun hh880 eh880 => ?_)
              have K881 := xk_pa K (xk_wa (by decide +kernel)) xD_94 hy880 ry880 eh880
              have KR882 := xk_pa KR (xk_wa (by decide +kernel)) xD_94 hy880 ry880 eh880
              refine xi_iload_n (pc' := 27) (x := (-4)) kc_90_26 rfl rfl ?_
              refine xi_ireturn kc_90_27 mr_90 rfl ?_
              show xw J ov 99 88 (44, [(0, .ref 0), (1, .int a4), (2, .int 4), (3, .int a8)], [.int (-4)], hh880) _
              refine xi_ireturn kc_88_44 mr_88 rfl ?_
              show xw J ov 100 195 (214, [(4, .int x4), (3, .ref 167), (2, .ref 115), (1, .ref 0), (0, .ref 1000000)], [.int (-4)], hh880) _
              refine xi_pop (pc' := 215) kc_195_214 rfl rfl ?_
              refine xi_aload_n (pc' := 216) (x := 115) kc_195_215 rfl rfl ?_
              refine xi_aload_n (pc' := 217) (x := 1000000) kc_195_216 rfl rfl ?_
              refine xi_iload (pc' := 219) (x := x4) kc_195_217 rfl rfl ?_
              refine xi_iconst (pc' := 220) (v := 1) kc_195_219 rfl rfl ?_
              refine xi_iadd (pc' := 221) (v := v3) kc_195_220 rfl ev3 ?_
              refine xi_ialoadO (pc' := 222) (v := a4) kc_195_221 rfl (by decide) hov0 (xi_in (by omega) (by omega)) ea4 ?_
              refine xi_aload_n (pc' := 223) (x := 1000000) kc_195_222 rfl rfl ?_
              refine xi_iload (pc' := 225) (x := x4) kc_195_223 rfl rfl ?_
              refine xi_iconst (pc' := 226) (v := 2) kc_195_225 rfl rfl ?_
              refine xi_iadd (pc' := 227) (v := v5) kc_195_226 rfl ev5 ?_
              refine xi_ialoadO (pc' := 228) (v := 4) kc_195_227 rfl (by decide) hov0 (xi_in (by omega) (by omega)) ea6 ?_
              refine xi_aload_n (pc' := 229) (x := 1000000) kc_195_228 rfl rfl ?_
              refine xi_iload (pc' := 231) (x := x4) kc_195_229 rfl rfl ?_
              refine xi_iconst (pc' := 232) (v := 3) kc_195_231 rfl rfl ?_
              refine xi_iadd (pc' := 233) (v := v7) kc_195_232 rfl ev7 ?_
              refine xi_ialoadO (pc' := 234) (v := a8) kc_195_233 rfl (by decide) hov0 (xi_in (by omega) (by omega)) ea8 ?_
              obtain ⟨u883, u884, u885, u886, u887, u888, u889, u890, u891, u892, u893, u894, u895, bu883, bu884, bu885, bu886, bu887, bu888, bu889, bu890, bu891, bu892, bu893, bu894, bu895, A896⟩ := xq_115 K.1
              have A897 := ((eh880.2.1 115 (by decide)).trans A896)
              refine xi_virtual (mj := 9) (as := [.int a4, .int 4, .int a8]) (st1 := []) (lv0 := [(0, .ref 115), (1, .int a4), (2, .int 4), (3, .int a8)]) kc_195_234 rfl rfl rfl rfl rfl A897 (Nat.le_of_ble_eq_true rfl) (hJ _ _ _ _ (by decide)) (xm_le ml_9 rfl) rfl ?_
              refine xi_aload_n (pc' := 1) (x := 115) kc_9_0 rfl rfl ?_
              refine xi_iconst (pc' := 2) (v := 0) kc_9_1 rfl rfl ?_
              refine xi_putfield (pc' := 5) (fs' := [.int 0, .int u884, .ref 116, .ref 117, .ref 118, .ref 119, .ref 120, .ref 121, .ref 122, .ref 123, .ref 124, .ref 125, .ref 126, .ref 127, .ref 128, .ref 129, .int u885, .ref 130, .int u886, .ref 131, .ref 132, .ref 133, .ref 134, .int u887, .ref 135, .ref 136, .ref 137, .ref 138, .ref 139, .ref 140, .ref 141, .ref 142, .int u888, .int u889, .int u890, .ref 143, .ref 144, .ref 145, .ref 146, .ref 147, .ref 148, .int u891, .ref 149, .ref 150, .ref 151, .int u892, .ref 152, .ref 153, .ref 154, .ref 155, .ref 156, .ref 157, .ref 158, .ref 159, .int u893, .ref 160, .int u894, .ref 161, .ref 162, .ref 163, .ref 164, .int u895, .ref 165, .ref 166]) kc_9_2 rfl rfl rfl A897 rfl rfl rfl (Nat.le_of_ble_eq_true rfl) rfl (fun hh899 eh898 => ?_)
              have K900 := xk_pf (k := 0) (v := 0) K881 (xk_wf (by decide +kernel)) xD_115 A897 rfl (by first | omega | decide) (by first | omega | decide) eh898 rfl
              have KR901 := xk_pf (k := 0) (v := 0) KR882 (xk_wf (by decide +kernel)) xD_115 A897 rfl (by first | omega | decide) (by first | omega | decide) eh898 rfl
              refine xi_iload_n (pc' := 6) (x := a4) kc_9_5 rfl rfl ?_
              refine xi_static (mj := 10) (as := [.int a4]) (st1 := []) (lv0 := [(0, .int a4)]) kc_9_6 rfl rfl (Nat.le_of_ble_eq_true rfl) rfl rfl (Nat.le_of_ble_eq_true rfl) (hJ _ _ _ _ (by decide)) (xm_le ml_10 rfl) rfl ?_
              refine xi_iload_n (pc' := 1) (x := a4) kc_10_0 rfl rfl ?_
              refine xi_iconst (pc' := 2) (v := 0) kc_10_1 rfl rfl ?_
              refine xi_iconst (pc' := 3) (v := 5) kc_10_2 rfl rfl ?_
              refine xi_static (mj := 11) (as := [.int a4, .int 0, .int 5]) (st1 := []) (lv0 := [(0, .int a4), (1, .int 0), (2, .int 5)]) kc_10_3 rfl rfl (Nat.le_of_ble_eq_true rfl) rfl rfl (Nat.le_of_ble_eq_true rfl) (hJ _ _ _ _ (by decide)) (xm_le ml_11 rfl) rfl ?_
              refine xi_iload_n (pc' := 1) (x := a4) kc_11_0 rfl rfl ?_
              refine xi_iload_n (pc' := 2) (x := 0) kc_11_1 rfl rfl ?_
              refine xi_cmf (pc' := 5) kc_11_2 rfl (xc_lt_f (X := a4.toInt) (Y := 0) rfl (by decide) (by omega)) ?_
              refine xi_iload_n (pc' := 6) (x := a4) kc_11_5 rfl rfl ?_
              refine xi_iload_n (pc' := 7) (x := 5) kc_11_6 rfl rfl ?_
              refine xi_cmf (pc' := 10) kc_11_7 rfl (xc_gt_f (X := a4.toInt) (Y := 5) rfl (by decide) (by omega)) ?_
              refine xi_iconst (pc' := 11) (v := 1) kc_11_10 rfl rfl ?_
              refine xi_goto (pc' := 15) kc_11_11 rfl ?_
              refine xi_ireturn kc_11_15 mr_11 rfl ?_
              show xw J ov 98 10 (6, [(0, .int a4)], [.int 1], hh899) _
              refine xi_ireturn kc_10_6 mr_10 rfl ?_
              show xw J ov 99 9 (9, [(0, .ref 115), (1, .int a4), (2, .int 4), (3, .int a8)], [.int 1], hh899) _
              refine xi_ift (pc' := 18) kc_9_9 rfl rfl ?_
              refine xi_iload_n (pc' := 19) (x := 4) kc_9_18 rfl rfl ?_
              refine xi_iconst (pc' := 20) (v := 0) kc_9_19 rfl rfl ?_
              refine xi_iconst (pc' := 21) (v := 5) kc_9_20 rfl rfl ?_
              refine xi_static (mj := 11) (as := [.int 4, .int 0, .int 5]) (st1 := []) (lv0 := [(0, .int 4), (1, .int 0), (2, .int 5)]) kc_9_21 rfl rfl (Nat.le_of_ble_eq_true rfl) rfl rfl (Nat.le_of_ble_eq_true rfl) (hJ _ _ _ _ (by decide)) (xm_le ml_11 rfl) rfl ?_
              refine xi_iload_n (pc' := 1) (x := 4) kc_11_0 rfl rfl ?_
              refine xi_iload_n (pc' := 2) (x := 0) kc_11_1 rfl rfl ?_
              refine xi_cmf (pc' := 5) kc_11_2 rfl rfl ?_
              refine xi_iload_n (pc' := 6) (x := 4) kc_11_5 rfl rfl ?_
              refine xi_iload_n (pc' := 7) (x := 5) kc_11_6 rfl rfl ?_
              refine xi_cmf (pc' := 10) kc_11_7 rfl rfl ?_
              refine xi_iconst (pc' := 11) (v := 1) kc_11_10 rfl rfl ?_
              refine xi_goto (pc' := 15) kc_11_11 rfl ?_
              refine xi_ireturn kc_11_15 mr_11 rfl ?_
              show xw J ov 99 9 (24, [(0, .ref 115), (1, .int a4), (2, .int 4), (3, .int a8)], [.int 1], hh899) _
              refine xi_ift (pc' := 34) kc_9_24 rfl rfl ?_
              refine xi_iload_n (pc' := 35) (x := a8) kc_9_34 rfl rfl ?_
              refine xi_iload_n (pc' := 36) (x := 4) kc_9_35 rfl rfl ?_
              refine xi_ift (pc' := 44) kc_9_36 rfl rfl ?_
              refine xi_iconst (pc' := 45) (v := 0) kc_9_44 rfl rfl ?_
              refine xi_cmf (pc' := 48) kc_9_45 rfl (xc_ge_f (X := a8.toInt) (Y := 0) rfl (by decide) (by omega)) ?_
              refine xi_aload_n (pc' := 49) (x := 115) kc_9_48 rfl rfl ?_
              refine xi_bipush (pc' := 51) (v := (-4)) kc_9_49 rfl rfl ?_
              refine xi_virtual (mj := 12) (as := [.int (-4)]) (st1 := []) (lv0 := [(0, .ref 115), (1, .int (-4))]) kc_9_51 rfl rfl rfl rfl rfl eh898.1 (Nat.le_of_ble_eq_true rfl) (hJ _ _ _ _ (by decide)) (xm_le ml_12 rfl) rfl ?_
              refine xi_aload_n (pc' := 1) (x := 115) kc_12_0 rfl rfl ?_
              refine xi_getfield (pc' := 4) (v := .ref 140) kc_12_1 rfl rfl rfl eh898.1 rfl ?_
              refine xi_iload_n (pc' := 5) (x := (-4)) kc_12_4 rfl rfl ?_
              refine xi_ineg (pc' := 6) (v := 4) kc_12_5 rfl rfl ?_
              refine xi_dup2 (pc' := 7) kc_12_6 rfl ⟨rfl, rfl⟩ ?_
              obtain ⟨y902, A902, hy902, ry902⟩ := xk_arr K.1 xD_140
              obtain ⟨v903, ev903, bv903, dv903⟩ := xj_get hy902 ry902 (i := 4) (by decide) (by decide)
              have A904 := ((eh898.2.1 140 (by decide)).trans ((eh880.2.1 140 (by decide)).trans A902))
              refine xi_iaload (pc' := 8) (v := v903) kc_12_7 rfl A904 (by decide) rfl (xi_in (by decide) (by rw [hy902]; decide)) ev903 ?_
              refine xi_iconst (pc' := 9) (v := 1) kc_12_8 rfl rfl ?_
              obtain ⟨v905, ev905⟩ : ∃ q : Int32, (v903 : Int32) + 1 = q := ⟨_, rfl⟩
              have rv905 := xc_rng v905
              refine xi_iadd (pc' := 10) (v := v905) kc_12_9 rfl ev905 ?_
              obtain ⟨y906, s906, hy906, ry906⟩ := xj_set (v := v905) hy902 ry902 4 (by first | omega | decide) (by first | omega | decide)
              refine xi_iastore (pc' := 11) (x' := y906) kc_12_10 rfl A904 rfl (xi_in (by decide) (by rw [hy902]; decide)) s906 (fun hh906 eh906 => ?_)
              have K907 := xk_pa K900 (xk_wa (by decide +kernel)) xD_140 hy906 ry906 eh906
              have KR908 := xk_pa KR901 (xk_wa (by decide +kernel)) xD_140 hy906 ry906 eh906
              refine xi_iload_n (pc' := 12) (x := (-4)) kc_12_11 rfl rfl ?_
              refine xi_ireturn kc_12_12 mr_12 rfl ?_
              show xw J ov 99 9 (54, [(0, .ref 115), (1, .int a4), (2, .int 4), (3, .int a8)], [.int (-4)], hh906) _
              refine xi_ireturn kc_9_54 mr_9 rfl ?_
              show xw J ov 100 195 (237, [(4, .int x4), (3, .ref 167), (2, .ref 115), (1, .ref 0), (0, .ref 1000000)], [.int (-4)], hh906) _
              refine xi_pop (pc' := 238) kc_195_237 rfl rfl ?_
              refine xi_goto (pc' := 1501) kc_195_238 rfl ?_
              obtain ⟨v909, ev909⟩ : ∃ q : Int32, x4 + 6 = q := ⟨_, rfl⟩
              have zv909 : v909.toInt = (x4.toInt + 6) := by rw [← ev909]; exact (xz_add (X := x4.toInt) (Y := 6) rfl (by decide) (by omega) (by omega)).trans (by omega)
              refine xi_iinc (pc' := 1504) (x := x4) (v := v909) (lv' := [(4, .int v909), (3, .ref 167), (2, .ref 115), (1, .ref 0), (0, .ref 1000000)]) kc_195_1501 rfl rfl ev909 rfl (xm_lt ml_195 rfl) ?_
              refine xi_goto (pc' := 23) kc_195_1504 rfl ?_
              exact kk v909 hh906 (by omega) K907 (xI_kept I KR908.2.1)
          have qa6 : a6 = 5 := xc_of (Eq.trans (by omega) (show (5 : Int) = (5 : Int32).toInt by decide))
          subst qa6
          refine xi_ialoadO (pc' := 35) (v := 0) kc_88_34 rfl (by decide) hov1 (xi_in (n := 6) (by decide) (by decide)) rfl ?_
          by_cases c910 : 0 ≤ a8.toInt
          · refine xi_cmt (pc' := 45) kc_88_35 rfl (xc_ge_t (X := a8.toInt) (Y := 0) rfl (by decide) (by omega)) ?_
            refine xi_iload_n (pc' := 46) (x := a8) kc_88_45 rfl rfl ?_
            refine xi_getstatic (pc' := 49) (j := 1000002) kc_88_46 rfl rfl ?_
            refine xi_iload_n (pc' := 50) (x := 5) kc_88_49 rfl rfl ?_
            refine xi_ialoadO (pc' := 51) (v := 99999) kc_88_50 rfl (by decide) hov2 (xi_in (n := 6) (by decide) (by decide)) rfl ?_
            by_cases c911 : a8.toInt ≤ 99999
            · refine xi_cmt (pc' := 61) kc_88_51 rfl (xc_le_t (X := a8.toInt) (Y := 99999) rfl (by decide) (by omega)) ?_
              refine xi_iload_n (pc' := 62) (x := 5) kc_88_61 rfl rfl ?_
              refine xi_iconst (pc' := 63) (v := 5) kc_88_62 rfl rfl ?_
              refine xi_cmf (pc' := 66) kc_88_63 rfl rfl ?_
              refine xi_aload_n (pc' := 67) (x := 0) kc_88_66 rfl rfl ?_
              refine xi_getfield (pc' := 70) (v := .ref 63) kc_88_67 rfl rfl rfl A11 rfl ?_
              obtain ⟨u912, u913, bu912, bu913, A914⟩ := xq_63 K.1
              refine xi_getfield (pc' := 73) (v := .ref 64) kc_88_70 rfl rfl rfl A914 rfl ?_
              refine xi_iload_n (pc' := 74) (x := a4) kc_88_73 rfl rfl ?_
              obtain ⟨v915, ev915, bv915, dv915⟩ := xj_get hy1 ry1 (i := a4) (by omega) (by omega)
              refine xi_iaload (pc' := 75) (v := v915) kc_88_74 rfl A1 (by decide) rfl (xi_in (by omega) (by rw [hy1]; omega)) ev915 ?_
              have hlv915 : v915.toInt = w (Int32.toNatClampNeg a4) := xrp_ld R2 (by omega) (by omega) ev915
              refine xi_istore (pc' := 77) (lv' := [(4, .int v915), (0, .ref 0), (1, .int a4), (2, .int 5), (3, .int a8)]) kc_88_75 rfl rfl (xm_lt ml_88 rfl) ?_
              refine xi_aload_n (pc' := 78) (x := 0) kc_88_77 rfl rfl ?_
              refine xi_getfield (pc' := 81) (v := .ref 63) kc_88_78 rfl rfl rfl A11 rfl ?_
              refine xi_getfield (pc' := 84) (v := .ref 64) kc_88_81 rfl rfl rfl A914 rfl ?_
              refine xi_iload_n (pc' := 85) (x := a4) kc_88_84 rfl rfl ?_
              refine xi_iload_n (pc' := 86) (x := a8) kc_88_85 rfl rfl ?_
              obtain ⟨y916, s916, hy916, ry916⟩ := xj_set (v := a8) hy1 ry1 a4 (by first | omega | decide) (by first | omega | decide)
              refine xi_iastore (pc' := 87) (x' := y916) kc_88_86 rfl A1 rfl (xi_in (by omega) (by rw [hy1]; omega)) s916 (fun hh916 eh916 => ?_)
              have K917 := xk_pa K (xk_wa (by decide +kernel)) xD_64 hy916 ry916 eh916
              have R918 : xrp y916 6 (xup w (Int32.toNatClampNeg a4) (a8 : Int32).toInt) := xrp_set R2 s916
              refine xi_iload (pc' := 89) (x := v915) kc_88_87 rfl rfl ?_
              refine xi_ireturn kc_88_89 mr_88 rfl ?_
              show xw J ov 100 195 (214, [(4, .int x4), (3, .ref 167), (2, .ref 115), (1, .ref 0), (0, .ref 1000000)], [.int v915], hh916) _
              refine xi_pop (pc' := 215) kc_195_214 rfl rfl ?_
              refine xi_aload_n (pc' := 216) (x := 115) kc_195_215 rfl rfl ?_
              refine xi_aload_n (pc' := 217) (x := 1000000) kc_195_216 rfl rfl ?_
              refine xi_iload (pc' := 219) (x := x4) kc_195_217 rfl rfl ?_
              refine xi_iconst (pc' := 220) (v := 1) kc_195_219 rfl rfl ?_
              refine xi_iadd (pc' := 221) (v := v3) kc_195_220 rfl ev3 ?_
              refine xi_ialoadO (pc' := 222) (v := a4) kc_195_221 rfl (by decide) hov0 (xi_in (by omega) (by omega)) ea4 ?_
              refine xi_aload_n (pc' := 223) (x := 1000000) kc_195_222 rfl rfl ?_
              refine xi_iload (pc' := 225) (x := x4) kc_195_223 rfl rfl ?_
              refine xi_iconst (pc' := 226) (v := 2) kc_195_225 rfl rfl ?_
              refine xi_iadd (pc' := 227) (v := v5) kc_195_226 rfl ev5 ?_
              refine xi_ialoadO (pc' := 228) (v := 5) kc_195_227 rfl (by decide) hov0 (xi_in (by omega) (by omega)) ea6 ?_
              refine xi_aload_n (pc' := 229) (x := 1000000) kc_195_228 rfl rfl ?_
              refine xi_iload (pc' := 231) (x := x4) kc_195_229 rfl rfl ?_
              refine xi_iconst (pc' := 232) (v := 3) kc_195_231 rfl rfl ?_
              refine xi_iadd (pc' := 233) (v := v7) kc_195_232 rfl ev7 ?_
              refine xi_ialoadO (pc' := 234) (v := a8) kc_195_233 rfl (by decide) hov0 (xi_in (by omega) (by omega)) ea8 ?_
              obtain ⟨u919, u920, u921, u922, u923, u924, u925, u926, u927, u928, u929, u930, u931, bu919, bu920, bu921, bu922, bu923, bu924, bu925, bu926, bu927, bu928, bu929, bu930, bu931, A932⟩ := xq_115 K.1
              have A933 := ((eh916.2.1 115 (by decide)).trans A932)
              refine xi_virtual (mj := 9) (as := [.int a4, .int 5, .int a8]) (st1 := []) (lv0 := [(0, .ref 115), (1, .int a4), (2, .int 5), (3, .int a8)]) kc_195_234 rfl rfl rfl rfl rfl A933 (Nat.le_of_ble_eq_true rfl) (hJ _ _ _ _ (by decide)) (xm_le ml_9 rfl) rfl ?_
              refine xi_aload_n (pc' := 1) (x := 115) kc_9_0 rfl rfl ?_
              refine xi_iconst (pc' := 2) (v := 0) kc_9_1 rfl rfl ?_
              refine xi_putfield (pc' := 5) (fs' := [.int 0, .int u920, .ref 116, .ref 117, .ref 118, .ref 119, .ref 120, .ref 121, .ref 122, .ref 123, .ref 124, .ref 125, .ref 126, .ref 127, .ref 128, .ref 129, .int u921, .ref 130, .int u922, .ref 131, .ref 132, .ref 133, .ref 134, .int u923, .ref 135, .ref 136, .ref 137, .ref 138, .ref 139, .ref 140, .ref 141, .ref 142, .int u924, .int u925, .int u926, .ref 143, .ref 144, .ref 145, .ref 146, .ref 147, .ref 148, .int u927, .ref 149, .ref 150, .ref 151, .int u928, .ref 152, .ref 153, .ref 154, .ref 155, .ref 156, .ref 157, .ref 158, .ref 159, .int u929, .ref 160, .int u930, .ref 161, .ref 162, .ref 163, .ref 164, .int u931, .ref 165, .ref 166]) kc_9_2 rfl rfl rfl A933 rfl rfl rfl (Nat.le_of_ble_eq_true rfl) rfl (fun hh935 eh934 => ?_)
              have K936 := xk_pf (k := 0) (v := 0) K917 (xk_wf (by decide +kernel)) xD_115 A933 rfl (by first | omega | decide) (by first | omega | decide) eh934 rfl
              refine xi_iload_n (pc' := 6) (x := a4) kc_9_5 rfl rfl ?_
              refine xi_static (mj := 10) (as := [.int a4]) (st1 := []) (lv0 := [(0, .int a4)]) kc_9_6 rfl rfl (Nat.le_of_ble_eq_true rfl) rfl rfl (Nat.le_of_ble_eq_true rfl) (hJ _ _ _ _ (by decide)) (xm_le ml_10 rfl) rfl ?_
              refine xi_iload_n (pc' := 1) (x := a4) kc_10_0 rfl rfl ?_
              refine xi_iconst (pc' := 2) (v := 0) kc_10_1 rfl rfl ?_
              refine xi_iconst (pc' := 3) (v := 5) kc_10_2 rfl rfl ?_
              refine xi_static (mj := 11) (as := [.int a4, .int 0, .int 5]) (st1 := []) (lv0 := [(0, .int a4), (1, .int 0), (2, .int 5)]) kc_10_3 rfl rfl (Nat.le_of_ble_eq_true rfl) rfl rfl (Nat.le_of_ble_eq_true rfl) (hJ _ _ _ _ (by decide)) (xm_le ml_11 rfl) rfl ?_
              refine xi_iload_n (pc' := 1) (x := a4) kc_11_0 rfl rfl ?_
              refine xi_iload_n (pc' := 2) (x := 0) kc_11_1 rfl rfl ?_
              refine xi_cmf (pc' := 5) kc_11_2 rfl (xc_lt_f (X := a4.toInt) (Y := 0) rfl (by decide) (by omega)) ?_
              refine xi_iload_n (pc' := 6) (x := a4) kc_11_5 rfl rfl ?_
              refine xi_iload_n (pc' := 7) (x := 5) kc_11_6 rfl rfl ?_
              refine xi_cmf (pc' := 10) kc_11_7 rfl (xc_gt_f (X := a4.toInt) (Y := 5) rfl (by decide) (by omega)) ?_
              refine xi_iconst (pc' := 11) (v := 1) kc_11_10 rfl rfl ?_
              refine xi_goto (pc' := 15) kc_11_11 rfl ?_
              refine xi_ireturn kc_11_15 mr_11 rfl ?_
              show xw J ov 98 10 (6, [(0, .int a4)], [.int 1], hh935) _
              refine xi_ireturn kc_10_6 mr_10 rfl ?_
              show xw J ov 99 9 (9, [(0, .ref 115), (1, .int a4), (2, .int 5), (3, .int a8)], [.int 1], hh935) _
              refine xi_ift (pc' := 18) kc_9_9 rfl rfl ?_
              refine xi_iload_n (pc' := 19) (x := 5) kc_9_18 rfl rfl ?_
              refine xi_iconst (pc' := 20) (v := 0) kc_9_19 rfl rfl ?_
              refine xi_iconst (pc' := 21) (v := 5) kc_9_20 rfl rfl ?_
              refine xi_static (mj := 11) (as := [.int 5, .int 0, .int 5]) (st1 := []) (lv0 := [(0, .int 5), (1, .int 0), (2, .int 5)]) kc_9_21 rfl rfl (Nat.le_of_ble_eq_true rfl) rfl rfl (Nat.le_of_ble_eq_true rfl) (hJ _ _ _ _ (by decide)) (xm_le ml_11 rfl) rfl ?_
              refine xi_iload_n (pc' := 1) (x := 5) kc_11_0 rfl rfl ?_
              refine xi_iload_n (pc' := 2) (x := 0) kc_11_1 rfl rfl ?_
              refine xi_cmf (pc' := 5) kc_11_2 rfl rfl ?_
              refine xi_iload_n (pc' := 6) (x := 5) kc_11_5 rfl rfl ?_
              refine xi_iload_n (pc' := 7) (x := 5) kc_11_6 rfl rfl ?_
              refine xi_cmf (pc' := 10) kc_11_7 rfl rfl ?_
              refine xi_iconst (pc' := 11) (v := 1) kc_11_10 rfl rfl ?_
              refine xi_goto (pc' := 15) kc_11_11 rfl ?_
              refine xi_ireturn kc_11_15 mr_11 rfl ?_
              show xw J ov 99 9 (24, [(0, .ref 115), (1, .int a4), (2, .int 5), (3, .int a8)], [.int 1], hh935) _
              refine xi_ift (pc' := 34) kc_9_24 rfl rfl ?_
              refine xi_iload_n (pc' := 35) (x := a8) kc_9_34 rfl rfl ?_
              refine xi_iload_n (pc' := 36) (x := 5) kc_9_35 rfl rfl ?_
              refine xi_ift (pc' := 44) kc_9_36 rfl rfl ?_
              refine xi_iconst (pc' := 45) (v := 0) kc_9_44 rfl rfl ?_
              refine xi_cmt (pc' := 55) kc_9_45 rfl (xc_ge_t (X := a8.toInt) (Y := 0) rfl (by decide) (by omega)) ?_
              refine xi_iload_n (pc' := 56) (x := a8) kc_9_55 rfl rfl ?_
              refine xi_iload_n (pc' := 57) (x := 5) kc_9_56 rfl rfl ?_
              refine xi_ift (pc' := 65) kc_9_57 rfl rfl ?_
              refine xi_iload_n (pc' := 66) (x := 5) kc_9_65 rfl rfl ?_
              refine xi_iconst (pc' := 67) (v := 1) kc_9_66 rfl rfl ?_
              refine xi_cmt (pc' := 75) kc_9_67 rfl rfl ?_
              refine xi_iload_n (pc' := 76) (x := 5) kc_9_75 rfl rfl ?_
              refine xi_iconst (pc' := 77) (v := 4) kc_9_76 rfl rfl ?_
              refine xi_cmt (pc' := 85) kc_9_77 rfl rfl ?_
              refine xi_iload_n (pc' := 86) (x := 5) kc_9_85 rfl rfl ?_
              refine xi_iconst (pc' := 87) (v := 4) kc_9_86 rfl rfl ?_
              refine xi_cmt (pc' := 94) kc_9_87 rfl rfl ?_
              refine xi_ldc (pc' := 96) (v := 99999) kc_9_94 rfl rfl ?_
              refine xi_cmt (pc' := 106) kc_9_96 rfl (xc_le_t (X := a8.toInt) (Y := 99999) rfl (by decide) (by omega)) ?_
              refine xi_aload_n (pc' := 107) (x := 115) kc_9_106 rfl rfl ?_
              refine xi_iload_n (pc' := 108) (x := a4) kc_9_107 rfl rfl ?_
              refine xi_iload_n (pc' := 109) (x := 5) kc_9_108 rfl rfl ?_
              refine xi_virtual (mj := 13) (as := [.int a4, .int 5]) (st1 := []) (lv0 := [(0, .ref 115), (1, .int a4), (2, .int 5)]) kc_9_109 rfl rfl rfl rfl rfl eh934.1 (Nat.le_of_ble_eq_true rfl) (hJ _ _ _ _ (by decide)) (xm_le ml_13 rfl) rfl ?_
              have F937 := xra_fr WWb (xl_c (eh916.2.1 121 (by decide)))
              have F938 := xg6_c I6 (fun c hc => eh916.2.1 c (Ne.symm (xk_nc hc rfl)))
              have F939 := xr5_c I5 (fun c hc => eh916.2.1 c (Ne.symm (xk_nc hc rfl)))
              have F940 := xra_fr F937 (xl_c (eh934.2.1 121 (by decide)))
              have F941 := xg6_c F938 (fun c hc => eh934.2.1 c (Ne.symm (xk_nc hc rfl)))
              have F942 := xr5_c F939 (fun c hc => eh934.2.1 c (Ne.symm (xk_nc hc rfl)))
              refine xw_rn5 hJ hov1 hov2 (d := 97) (x1 := a4) K936.1 F940 (by omega) (fun r943 hr943 => ?_)
              have rr943 := xc_rng r943
              show xw J ov 99 9 (112, [(0, .ref 115), (1, .int a4), (2, .int 5), (3, .int a8)], [.int r943], hh935) _
              refine xi_istore (pc' := 114) (lv' := [(4, .int r943), (0, .ref 115), (1, .int a4), (2, .int 5), (3, .int a8)]) kc_9_112 rfl rfl (xm_lt ml_9 rfl) ?_
              refine xi_aload_n (pc' := 115) (x := 115) kc_9_114 rfl rfl ?_
              refine xi_iload_n (pc' := 116) (x := a4) kc_9_115 rfl rfl ?_
              refine xi_iload_n (pc' := 117) (x := 5) kc_9_116 rfl rfl ?_
              refine xi_iload_n (pc' := 118) (x := a8) kc_9_117 rfl rfl ?_
              refine xi_virtual (mj := 14) (as := [.int a4, .int 5, .int a8]) (st1 := []) (lv0 := [(0, .ref 115), (1, .int a4), (2, .int 5), (3, .int a8)]) kc_9_118 rfl rfl rfl rfl rfl eh934.1 (Nat.le_of_ble_eq_true rfl) (hJ _ _ _ _ (by decide)) (xm_le ml_14 rfl) rfl ?_
              refine xw_te5 hJ hov1 hov2 (d := 97) (x1 := a4) (x3 := a8) K936.1 F942 F940 (by omega) (by omega) (fun hh944 K945 F946 F947 => ?_)
              have F948 := xg6_k F941 K945 (by decide +kernel)
              have A949 := ((eh934.2.1 64 (by decide)).trans eh916.1)
              have A950 := ((eh934.2.1 0 (by decide)).trans ((eh916.2.1 0 (by decide)).trans A11))
              have A951 := ((eh934.2.1 63 (by decide)).trans ((eh916.2.1 63 (by decide)).trans A914))
              have K952 := xk_tr K936 K945 (xsb_ok _ _ (by decide +kernel))
              have A953 := xk_eqa (q := 0) K945 (by decide +kernel) A949
              obtain ⟨u954, u955, bu954, bu955, A956⟩ := xq_0 K952.1
              have e957 : u10 = u955 := xk_eqi (q := 9) K945 (by decide +kernel) A950 A956 rfl rfl
              subst e957
              have e958 : u9 = u954 := xk_eqi (q := 8) K945 (by decide +kernel) A950 A956 rfl rfl
              subst e958
              obtain ⟨u959, u960, bu959, bu960, A961⟩ := xq_63 K952.1
              have e962 : u912 = u959 := xk_eqi (q := 2) K945 (by decide +kernel) A951 A961 rfl rfl
              subst e962
              have e963 : u913 = u960 := xk_eqi (q := 3) K945 (by decide +kernel) A951 A961 rfl rfl
              subst e963
              obtain ⟨u964, u965, u966, u967, u968, u969, u970, u971, u972, u973, u974, u975, u976, bu964, bu965, bu966, bu967, bu968, bu969, bu970, bu971, bu972, bu973, bu974, bu975, bu976, A977⟩ := xq_115 K952.1
              have e978 : u920 = u965 := xk_eqi (q := 1) K945 (by decide +kernel) eh934.1 A977 rfl rfl
              subst e978
              have e979 : u923 = u968 := xk_eqi (q := 23) K945 (by decide +kernel) eh934.1 A977 rfl rfl
              subst e979
              have e980 : u926 = u971 := xk_eqi (q := 34) K945 (by decide +kernel) eh934.1 A977 rfl rfl
              subst e980
              have e981 : u924 = u969 := xk_eqi (q := 32) K945 (by decide +kernel) eh934.1 A977 rfl rfl
              subst e981
              show xw J ov 99 9 (121, [(4, .int r943), (0, .ref 115), (1, .int a4), (2, .int 5), (3, .int a8)], [], hh944) _
              refine xi_iload (pc' := 123) (x := r943) kc_9_121 rfl rfl ?_
              refine xi_ireturn kc_9_123 mr_9 rfl ?_
              show xw J ov 100 195 (237, [(4, .int x4), (3, .ref 167), (2, .ref 115), (1, .ref 0), (0, .ref 1000000)], [.int r943], hh944) _
              refine xi_pop (pc' := 238) kc_195_237 rfl rfl ?_
              refine xi_goto (pc' := 1501) kc_195_238 rfl ?_
              obtain ⟨v982, ev982⟩ : ∃ q : Int32, x4 + 6 = q := ⟨_, rfl⟩
              have zv982 : v982.toInt = (x4.toInt + 6) := by rw [← ev982]; exact (xz_add (X := x4.toInt) (Y := 6) rfl (by decide) (by omega) (by omega)).trans (by omega)
              refine xi_iinc (pc' := 1504) (x := x4) (v := v982) (lv' := [(4, .int v982), (3, .ref 167), (2, .ref 115), (1, .ref 0), (0, .ref 1000000)]) kc_195_1501 rfl rfl ev982 rfl (xm_lt ml_195 rfl) ?_
              refine xi_goto (pc' := 23) kc_195_1504 rfl ?_
              exact kk v982 hh944 (by omega) K952 ⟨((K952.2.1 (0, 9) (by decide +kernel)).trans (I.1.trans (K952.2.1 (115, 1) (by decide +kernel)).symm)), ⟨(xup w (Int32.toNatClampNeg a4) (a8 : Int32).toInt), xra_mk A953 R918, F947, (xwr_up WWr (by omega) (by omega))⟩, ⟨_, F948, F946⟩, (by rw [(K952.2.1 (13, 0) (by decide +kernel)), (K952.2.1 (122, 0) (by decide +kernel))]; exact I.2.2.2.1), (by rw [(K952.2.1 (16, 0) (by decide +kernel)), (K952.2.1 (122, 0) (by decide +kernel))]; exact I.2.2.2.2.1), (by rw [(K952.2.1 (19, 0) (by decide +kernel)), (K952.2.1 (122, 0) (by decide +kernel))]; exact I.2.2.2.2.2.1), (by rw [(K952.2.1 (22, 0) (by decide +kernel)), (K952.2.1 (122, 0) (by decide +kernel))]; exact I.2.2.2.2.2.2.1), (by rw [(K952.2.1 (25, 0) (by decide +kernel)), (K952.2.1 (122, 0) (by decide +kernel))]; exact I.2.2.2.2.2.2.2.1), (by rw [(K952.2.1 (28, 0) (by decide +kernel)), (K952.2.1 (122, 0) (by decide +kernel))]; exact I.2.2.2.2.2.2.2.2.1), (by rw [(K952.2.1 (6, 0) (by decide +kernel)), (K952.2.1 (123, 0) (by decide +kernel))]; exact I.2.2.2.2.2.2.2.2.2.1), (by rw [(K952.2.1 (9, 0) (by decide +kernel)), (K952.2.1 (124, 0) (by decide +kernel))]; exact I.2.2.2.2.2.2.2.2.2.2.1), (by rw [(K952.2.1 (7, 0) (by decide +kernel)), (K952.2.1 (6, 0) (by decide +kernel))]; exact I.2.2.2.2.2.2.2.2.2.2.2.1), (by rw [(K952.2.1 (10, 0) (by decide +kernel)), (K952.2.1 (9, 0) (by decide +kernel))]; exact I.2.2.2.2.2.2.2.2.2.2.2.2.1), ((K952.2.1 (5, 0) (by decide +kernel)).trans I.2.2.2.2.2.2.2.2.2.2.2.2.2.1), ((K952.2.1 (8, 0) (by decide +kernel)).trans I.2.2.2.2.2.2.2.2.2.2.2.2.2.2.1), (xGR_fr I.2.2.2.2.2.2.2.2.2.2.2.2.2.2.2.1 K952.2.1 (by decide +kernel) (by decide +kernel)), (xGR_fr I.2.2.2.2.2.2.2.2.2.2.2.2.2.2.2.2.1 K952.2.1 (by decide +kernel) (by decide +kernel)), ((K952.2.1 (1, 5) (by decide +kernel)).trans (I.2.2.2.2.2.2.2.2.2.2.2.2.2.2.2.2.2.1.trans (K952.2.1 (115, 23) (by decide +kernel)).symm)), (xGR_fr I.2.2.2.2.2.2.2.2.2.2.2.2.2.2.2.2.2.2.1 K952.2.1 (by decide +kernel) (by decide +kernel)), (xGR_fr I.2.2.2.2.2.2.2.2.2.2.2.2.2.2.2.2.2.2.2.1 K952.2.1 (by decide +kernel) (by decide +kernel)), (xGR_fr I.2.2.2.2.2.2.2.2.2.2.2.2.2.2.2.2.2.2.2.2.1 K952.2.1 (by decide +kernel) (by decide +kernel)), (xGR_fr I.2.2.2.2.2.2.2.2.2.2.2.2.2.2.2.2.2.2.2.2.2.1 K952.2.1 (by decide +kernel) (by decide +kernel)), (by rw [(K952.2.1 (63, 2) (by decide +kernel)), (K952.2.1 (139, 0) (by decide +kernel)), (K952.2.1 (1, 5) (by decide +kernel))]; exact I.2.2.2.2.2.2.2.2.2.2.2.2.2.2.2.2.2.2.2.2.2.2.1), ((K952.2.1 (0, 8) (by decide +kernel)).trans (I.2.2.2.2.2.2.2.2.2.2.2.2.2.2.2.2.2.2.2.2.2.2.2.1.trans (K952.2.1 (115, 34) (by decide +kernel)).symm)), (xGR_fr I.2.2.2.2.2.2.2.2.2.2.2.2.2.2.2.2.2.2.2.2.2.2.2.2.1 K952.2.1 (by decide +kernel) (by decide +kernel)), (xGR_fr I.2.2.2.2.2.2.2.2.2.2.2.2.2.2.2.2.2.2.2.2.2.2.2.2.2.1 K952.2.1 (by decide +kernel) (by decide +kernel)), (xGR_fr I.2.2.2.2.2.2.2.2.2.2.2.2.2.2.2.2.2.2.2.2.2.2.2.2.2.2.1 K952.2.1 (by decide +kernel) (by decide +kernel)), (xGR_fr I.2.2.2.2.2.2.2.2.2.2.2.2.2.2.2.2.2.2.2.2.2.2.2.2.2.2.2.1 K952.2.1 (by decide +kernel) (by decide +kernel)), (xts_fr I.2.2.2.2.2.2.2.2.2.2.2.2.2.2.2.2.2.2.2.2.2.2.2.2.2.2.2.2.1 (fun l hl => K952.2.1 l (xk_el (by decide +kernel) hl))), ((K952.2.1 (63, 3) (by decide +kernel)).trans I.2.2.2.2.2.2.2.2.2.2.2.2.2.2.2.2.2.2.2.2.2.2.2.2.2.2.2.2.2)⟩
            · refine xi_cmf (pc' := 54) kc_88_51 rfl (xc_le_f (X := a8.toInt) (Y := 99999) rfl (by decide) (by omega)) ?_
              refine xi_aload_n (pc' := 55) (x := 0) kc_88_54 rfl rfl ?_
              refine xi_bipush (pc' := 57) (v := (-6)) kc_88_55 rfl rfl ?_
              refine xi_virtual (mj := 90) (as := [.int (-6)]) (st1 := []) (lv0 := [(0, .ref 0), (1, .int (-6))]) kc_88_57 rfl rfl rfl rfl rfl A11 (Nat.le_of_ble_eq_true rfl) (hJ _ _ _ _ (by decide)) (xm_le ml_90 rfl) rfl ?_
              refine xi_iload_n (pc' := 1) (x := (-6)) kc_90_0 rfl rfl ?_
              refine xi_ineg (pc' := 2) (v := 6) kc_90_1 rfl rfl ?_
              refine xi_istore_n (pc' := 3) (lv' := [(2, .int 6), (0, .ref 0), (1, .int (-6))]) kc_90_2 rfl rfl (xm_lt ml_90 rfl) ?_
              refine xi_iload_n (pc' := 4) (x := 6) kc_90_3 rfl rfl ?_
              refine xi_iff (pc' := 7) kc_90_4 rfl rfl ?_
              refine xi_iload_n (pc' := 8) (x := 6) kc_90_7 rfl rfl ?_
              refine xi_aload_n (pc' := 9) (x := 0) kc_90_8 rfl rfl ?_
              refine xi_getfield (pc' := 12) (v := .ref 94) kc_90_9 rfl rfl rfl A11 rfl ?_
              obtain ⟨y983, A983, hy983, ry983⟩ := xk_arr K.1 xD_94
              refine xi_arraylength (pc' := 13) (n := 7) (v := 7) kc_90_12 rfl (xl_lenI (by decide) (by decide) A983 hy983) rfl ?_
              refine xi_cmf (pc' := 16) kc_90_13 rfl rfl ?_
              refine xi_aload_n (pc' := 17) (x := 0) kc_90_16 rfl rfl ?_
              refine xi_getfield (pc' := 20) (v := .ref 94) kc_90_17 rfl rfl rfl A11 rfl ?_
              refine xi_iload_n (pc' := 21) (x := 6) kc_90_20 rfl rfl ?_
              refine xi_dup2 (pc' := 22) kc_90_21 rfl ⟨rfl, rfl⟩ ?_
              obtain ⟨v984, ev984, bv984, dv984⟩ := xj_get hy983 ry983 (i := 6) (by decide) (by decide)
              refine xi_iaload (pc' := 23) (v := v984) kc_90_22 rfl A983 (by decide) rfl (xi_in (by decide) (by rw [hy983]; decide)) ev984 ?_
              refine xi_iconst (pc' := 24) (v := 1) kc_90_23 rfl rfl ?_
              obtain ⟨v985, ev985⟩ : ∃ q : Int32, (v984 : Int32) + 1 = q := ⟨_, rfl⟩
              have rv985 := xc_rng v985
              refine xi_iadd (pc' := 25) (v := v985) kc_90_24 rfl ev985 ?_
              obtain ⟨y986, s986, hy986, ry986⟩ := xj_set (v := v985) hy983 ry983 6 (by first | omega | decide) (by first | omega | decide)
              refine xi_iastore (pc' := 26) (x' := y986) kc_90_25 rfl A983 rfl (xi_in (by decide) (by rw [hy983]; decide)) s986 (fun hh986 eh986 => ?_)
              have K987 := xk_pa K (xk_wa (by decide +kernel)) xD_94 hy986 ry986 eh986
              have KR988 := xk_pa KR (xk_wa (by decide +kernel)) xD_94 hy986 ry986 eh986
              refine xi_iload_n (pc' := 27) (x := (-6)) kc_90_26 rfl rfl ?_
              refine xi_ireturn kc_90_27 mr_90 rfl ?_
              show xw J ov 99 88 (60, [(0, .ref 0), (1, .int a4), (2, .int 5), (3, .int a8)], [.int (-6)], hh986) _
              refine xi_ireturn kc_88_60 mr_88 rfl ?_
              show xw J ov 100 195 (214, [(4, .int x4), (3, .ref 167), (2, .ref 115), (1, .ref 0), (0, .ref 1000000)], [.int (-6)], hh986) _
              refine xi_pop (pc' := 215) kc_195_214 rfl rfl ?_
              refine xi_aload_n (pc' := 216) (x := 115) kc_195_215 rfl rfl ?_
              refine xi_aload_n (pc' := 217) (x := 1000000) kc_195_216 rfl rfl ?_
              refine xi_iload (pc' := 219) (x := x4) kc_195_217 rfl rfl ?_
              refine xi_iconst (pc' := 220) (v := 1) kc_195_219 rfl rfl ?_
              refine xi_iadd (pc' := 221) (v := v3) kc_195_220 rfl ev3 ?_
              refine xi_ialoadO (pc' := 222) (v := a4) kc_195_221 rfl (by decide) hov0 (xi_in (by omega) (by omega)) ea4 ?_
              refine xi_aload_n (pc' := 223) (x := 1000000) kc_195_222 rfl rfl ?_
              refine xi_iload (pc' := 225) (x := x4) kc_195_223 rfl rfl ?_
              refine xi_iconst (pc' := 226) (v := 2) kc_195_225 rfl rfl ?_
              refine xi_iadd (pc' := 227) (v := v5) kc_195_226 rfl ev5 ?_
              refine xi_ialoadO (pc' := 228) (v := 5) kc_195_227 rfl (by decide) hov0 (xi_in (by omega) (by omega)) ea6 ?_
              refine xi_aload_n (pc' := 229) (x := 1000000) kc_195_228 rfl rfl ?_
              refine xi_iload (pc' := 231) (x := x4) kc_195_229 rfl rfl ?_
              refine xi_iconst (pc' := 232) (v := 3) kc_195_231 rfl rfl ?_
              refine xi_iadd (pc' := 233) (v := v7) kc_195_232 rfl ev7 ?_
              refine xi_ialoadO (pc' := 234) (v := a8) kc_195_233 rfl (by decide) hov0 (xi_in (by omega) (by omega)) ea8 ?_
              obtain ⟨u989, u990, u991, u992, u993, u994, u995, u996, u997, u998, u999, u1000, u1001, bu989, bu990, bu991, bu992, bu993, bu994, bu995, bu996, bu997, bu998, bu999, bu1000, bu1001, A1002⟩ := xq_115 K.1
              have A1003 := ((eh986.2.1 115 (by decide)).trans A1002)
              refine xi_virtual (mj := 9) (as := [.int a4, .int 5, .int a8]) (st1 := []) (lv0 := [(0, .ref 115), (1, .int a4), (2, .int 5), (3, .int a8)]) kc_195_234 rfl rfl rfl rfl rfl A1003 (Nat.le_of_ble_eq_true rfl) (hJ _ _ _ _ (by decide)) (xm_le ml_9 rfl) rfl ?_
              refine xi_aload_n (pc' := 1) (x := 115) kc_9_0 rfl rfl ?_
              refine xi_iconst (pc' := 2) (v := 0) kc_9_1 rfl rfl ?_
              refine xi_putfield (pc' := 5) (fs' := [.int 0, .int u990, .ref 116, .ref 117, .ref 118, .ref 119, .ref 120, .ref 121, .ref 122, .ref 123, .ref 124, .ref 125, .ref 126, .ref 127, .ref 128, .ref 129, .int u991, .ref 130, .int u992, .ref 131, .ref 132, .ref 133, .ref 134, .int u993, .ref 135, .ref 136, .ref 137, .ref 138, .ref 139, .ref 140, .ref 141, .ref 142, .int u994, .int u995, .int u996, .ref 143, .ref 144, .ref 145, .ref 146, .ref 147, .ref 148, .int u997, .ref 149, .ref 150, .ref 151, .int u998, .ref 152, .ref 153, .ref 154, .ref 155, .ref 156, .ref 157, .ref 158, .ref 159, .int u999, .ref 160, .int u1000, .ref 161, .ref 162, .ref 163, .ref 164, .int u1001, .ref 165, .ref 166]) kc_9_2 rfl rfl rfl A1003 rfl rfl rfl (Nat.le_of_ble_eq_true rfl) rfl (fun hh1005 eh1004 => ?_)
              have K1006 := xk_pf (k := 0) (v := 0) K987 (xk_wf (by decide +kernel)) xD_115 A1003 rfl (by first | omega | decide) (by first | omega | decide) eh1004 rfl
              have KR1007 := xk_pf (k := 0) (v := 0) KR988 (xk_wf (by decide +kernel)) xD_115 A1003 rfl (by first | omega | decide) (by first | omega | decide) eh1004 rfl
              refine xi_iload_n (pc' := 6) (x := a4) kc_9_5 rfl rfl ?_
              refine xi_static (mj := 10) (as := [.int a4]) (st1 := []) (lv0 := [(0, .int a4)]) kc_9_6 rfl rfl (Nat.le_of_ble_eq_true rfl) rfl rfl (Nat.le_of_ble_eq_true rfl) (hJ _ _ _ _ (by decide)) (xm_le ml_10 rfl) rfl ?_
              refine xi_iload_n (pc' := 1) (x := a4) kc_10_0 rfl rfl ?_
              refine xi_iconst (pc' := 2) (v := 0) kc_10_1 rfl rfl ?_
              refine xi_iconst (pc' := 3) (v := 5) kc_10_2 rfl rfl ?_
              refine xi_static (mj := 11) (as := [.int a4, .int 0, .int 5]) (st1 := []) (lv0 := [(0, .int a4), (1, .int 0), (2, .int 5)]) kc_10_3 rfl rfl (Nat.le_of_ble_eq_true rfl) rfl rfl (Nat.le_of_ble_eq_true rfl) (hJ _ _ _ _ (by decide)) (xm_le ml_11 rfl) rfl ?_
              refine xi_iload_n (pc' := 1) (x := a4) kc_11_0 rfl rfl ?_
              refine xi_iload_n (pc' := 2) (x := 0) kc_11_1 rfl rfl ?_
              refine xi_cmf (pc' := 5) kc_11_2 rfl (xc_lt_f (X := a4.toInt) (Y := 0) rfl (by decide) (by omega)) ?_
              refine xi_iload_n (pc' := 6) (x := a4) kc_11_5 rfl rfl ?_
              refine xi_iload_n (pc' := 7) (x := 5) kc_11_6 rfl rfl ?_
              refine xi_cmf (pc' := 10) kc_11_7 rfl (xc_gt_f (X := a4.toInt) (Y := 5) rfl (by decide) (by omega)) ?_
              refine xi_iconst (pc' := 11) (v := 1) kc_11_10 rfl rfl ?_
              refine xi_goto (pc' := 15) kc_11_11 rfl ?_
              refine xi_ireturn kc_11_15 mr_11 rfl ?_
              show xw J ov 98 10 (6, [(0, .int a4)], [.int 1], hh1005) _
              refine xi_ireturn kc_10_6 mr_10 rfl ?_
              show xw J ov 99 9 (9, [(0, .ref 115), (1, .int a4), (2, .int 5), (3, .int a8)], [.int 1], hh1005) _
              refine xi_ift (pc' := 18) kc_9_9 rfl rfl ?_
              refine xi_iload_n (pc' := 19) (x := 5) kc_9_18 rfl rfl ?_
              refine xi_iconst (pc' := 20) (v := 0) kc_9_19 rfl rfl ?_
              refine xi_iconst (pc' := 21) (v := 5) kc_9_20 rfl rfl ?_
              refine xi_static (mj := 11) (as := [.int 5, .int 0, .int 5]) (st1 := []) (lv0 := [(0, .int 5), (1, .int 0), (2, .int 5)]) kc_9_21 rfl rfl (Nat.le_of_ble_eq_true rfl) rfl rfl (Nat.le_of_ble_eq_true rfl) (hJ _ _ _ _ (by decide)) (xm_le ml_11 rfl) rfl ?_
              refine xi_iload_n (pc' := 1) (x := 5) kc_11_0 rfl rfl ?_
              refine xi_iload_n (pc' := 2) (x := 0) kc_11_1 rfl rfl ?_
              refine xi_cmf (pc' := 5) kc_11_2 rfl rfl ?_
              refine xi_iload_n (pc' := 6) (x := 5) kc_11_5 rfl rfl ?_
              refine xi_iload_n (pc' := 7) (x := 5) kc_11_6 rfl rfl ?_
              refine xi_cmf (pc' := 10) kc_11_7 rfl rfl ?_
              refine xi_iconst (pc' := 11) (v := 1) kc_11_10 rfl rfl ?_
              refine xi_goto (pc' := 15) kc_11_11 rfl ?_
              refine xi_ireturn kc_11_15 mr_11 rfl ?_
              show xw J ov 99 9 (24, [(0, .ref 115), (1, .int a4), (2, .int 5), (3, .int a8)], [.int 1], hh1005) _
              refine xi_ift (pc' := 34) kc_9_24 rfl rfl ?_
              refine xi_iload_n (pc' := 35) (x := a8) kc_9_34 rfl rfl ?_
              refine xi_iload_n (pc' := 36) (x := 5) kc_9_35 rfl rfl ?_
              refine xi_ift (pc' := 44) kc_9_36 rfl rfl ?_
              refine xi_iconst (pc' := 45) (v := 0) kc_9_44 rfl rfl ?_
              refine xi_cmt (pc' := 55) kc_9_45 rfl (xc_ge_t (X := a8.toInt) (Y := 0) rfl (by decide) (by omega)) ?_
              refine xi_iload_n (pc' := 56) (x := a8) kc_9_55 rfl rfl ?_
              refine xi_iload_n (pc' := 57) (x := 5) kc_9_56 rfl rfl ?_
              refine xi_ift (pc' := 65) kc_9_57 rfl rfl ?_
              refine xi_iload_n (pc' := 66) (x := 5) kc_9_65 rfl rfl ?_
              refine xi_iconst (pc' := 67) (v := 1) kc_9_66 rfl rfl ?_
              refine xi_cmt (pc' := 75) kc_9_67 rfl rfl ?_
              refine xi_iload_n (pc' := 76) (x := 5) kc_9_75 rfl rfl ?_
              refine xi_iconst (pc' := 77) (v := 4) kc_9_76 rfl rfl ?_
              refine xi_cmt (pc' := 85) kc_9_77 rfl rfl ?_
              refine xi_iload_n (pc' := 86) (x := 5) kc_9_85 rfl rfl ?_
              refine xi_iconst (pc' := 87) (v := 4) kc_9_86 rfl rfl ?_
              refine xi_cmt (pc' := 94) kc_9_87 rfl rfl ?_
              refine xi_ldc (pc' := 96) (v := 99999) kc_9_94 rfl rfl ?_
              refine xi_cmf (pc' := 99) kc_9_96 rfl (xc_le_f (X := a8.toInt) (Y := 99999) rfl (by decide) (by omega)) ?_
              refine xi_aload_n (pc' := 100) (x := 115) kc_9_99 rfl rfl ?_
              refine xi_bipush (pc' := 102) (v := (-6)) kc_9_100 rfl rfl ?_
              refine xi_virtual (mj := 12) (as := [.int (-6)]) (st1 := []) (lv0 := [(0, .ref 115), (1, .int (-6))]) kc_9_102 rfl rfl rfl rfl rfl eh1004.1 (Nat.le_of_ble_eq_true rfl) (hJ _ _ _ _ (by decide)) (xm_le ml_12 rfl) rfl ?_
              refine xi_aload_n (pc' := 1) (x := 115) kc_12_0 rfl rfl ?_
              refine xi_getfield (pc' := 4) (v := .ref 140) kc_12_1 rfl rfl rfl eh1004.1 rfl ?_
              refine xi_iload_n (pc' := 5) (x := (-6)) kc_12_4 rfl rfl ?_
              refine xi_ineg (pc' := 6) (v := 6) kc_12_5 rfl rfl ?_
              refine xi_dup2 (pc' := 7) kc_12_6 rfl ⟨rfl, rfl⟩ ?_
              obtain ⟨y1008, A1008, hy1008, ry1008⟩ := xk_arr K.1 xD_140
              obtain ⟨v1009, ev1009, bv1009, dv1009⟩ := xj_get hy1008 ry1008 (i := 6) (by decide) (by decide)
              have A1010 := ((eh1004.2.1 140 (by decide)).trans ((eh986.2.1 140 (by decide)).trans A1008))
              refine xi_iaload (pc' := 8) (v := v1009) kc_12_7 rfl A1010 (by decide) rfl (xi_in (by decide) (by rw [hy1008]; decide)) ev1009 ?_
              refine xi_iconst (pc' := 9) (v := 1) kc_12_8 rfl rfl ?_
              obtain ⟨v1011, ev1011⟩ : ∃ q : Int32, (v1009 : Int32) + 1 = q := ⟨_, rfl⟩
              have rv1011 := xc_rng v1011
              refine xi_iadd (pc' := 10) (v := v1011) kc_12_9 rfl ev1011 ?_
              obtain ⟨y1012, s1012, hy1012, ry1012⟩ := xj_set (v := v1011) hy1008 ry1008 6 (by first | omega | decide) (by first | omega | decide)
              refine xi_iastore (pc' := 11) (x' := y1012) kc_12_10 rfl A1010 rfl (xi_in (by decide) (by rw [hy1008]; decide)) s1012 (fun hh1012 eh1012 => ?_)
              have K1013 := xk_pa K1006 (xk_wa (by decide +kernel)) xD_140 hy1012 ry1012 eh1012
              have KR1014 := xk_pa KR1007 (xk_wa (by decide +kernel)) xD_140 hy1012 ry1012 eh1012
              refine xi_iload_n (pc' := 12) (x := (-6)) kc_12_11 rfl rfl ?_
              refine xi_ireturn kc_12_12 mr_12 rfl ?_
              show xw J ov 99 9 (105, [(0, .ref 115), (1, .int a4), (2, .int 5), (3, .int a8)], [.int (-6)], hh1012) _
              refine xi_ireturn kc_9_105 mr_9 rfl ?_
              show xw J ov 100 195 (237, [(4, .int x4), (3, .ref 167), (2, .ref 115), (1, .ref 0), (0, .ref 1000000)], [.int (-6)], hh1012) _
              refine xi_pop (pc' := 238) kc_195_237 rfl rfl ?_
              refine xi_goto (pc' := 1501) kc_195_238 rfl ?_
              obtain ⟨v1015, ev1015⟩ : ∃ q : Int32, x4 + 6 = q := ⟨_, rfl⟩
              have zv1015 : v1015.toInt = (x4.toInt + 6) := by rw [← ev1015]; exact (xz_add (X := x4.toInt) (Y := 6) rfl (by decide) (by omega) (by omega)).trans (by omega)
              refine xi_iinc (pc' := 1504) (x := x4) (v := v1015) (lv' := [(4, .int v1015), (3, .ref 167), (2, .ref 115), (1, .ref 0), (0, .ref 1000000)]) kc_195_1501 rfl rfl ev1015 rfl (xm_lt ml_195 rfl) ?_
              refine xi_goto (pc' := 23) kc_195_1504 rfl ?_
              exact kk v1015 hh1012 (by omega) K1013 (xI_kept I KR1014.2.1)
          · refine xi_cmf (pc' := 38) kc_88_35 rfl (xc_ge_f (X := a8.toInt) (Y := 0) rfl (by decide) (by omega)) ?_
            refine xi_aload_n (pc' := 39) (x := 0) kc_88_38 rfl rfl ?_
            refine xi_bipush (pc' := 41) (v := (-4)) kc_88_39 rfl rfl ?_
            refine xi_virtual (mj := 90) (as := [.int (-4)]) (st1 := []) (lv0 := [(0, .ref 0), (1, .int (-4))]) kc_88_41 rfl rfl rfl rfl rfl A11 (Nat.le_of_ble_eq_true rfl) (hJ _ _ _ _ (by decide)) (xm_le ml_90 rfl) rfl ?_
            refine xi_iload_n (pc' := 1) (x := (-4)) kc_90_0 rfl rfl ?_
            refine xi_ineg (pc' := 2) (v := 4) kc_90_1 rfl rfl ?_
            refine xi_istore_n (pc' := 3) (lv' := [(2, .int 4), (0, .ref 0), (1, .int (-4))]) kc_90_2 rfl rfl (xm_lt ml_90 rfl) ?_
            refine xi_iload_n (pc' := 4) (x := 4) kc_90_3 rfl rfl ?_
            refine xi_iff (pc' := 7) kc_90_4 rfl rfl ?_
            refine xi_iload_n (pc' := 8) (x := 4) kc_90_7 rfl rfl ?_
            refine xi_aload_n (pc' := 9) (x := 0) kc_90_8 rfl rfl ?_
            refine xi_getfield (pc' := 12) (v := .ref 94) kc_90_9 rfl rfl rfl A11 rfl ?_
            obtain ⟨y1016, A1016, hy1016, ry1016⟩ := xk_arr K.1 xD_94
            refine xi_arraylength (pc' := 13) (n := 7) (v := 7) kc_90_12 rfl (xl_lenI (by decide) (by decide) A1016 hy1016) rfl ?_
            refine xi_cmf (pc' := 16) kc_90_13 rfl rfl ?_
            refine xi_aload_n (pc' := 17) (x := 0) kc_90_16 rfl rfl ?_
            refine xi_getfield (pc' := 20) (v := .ref 94) kc_90_17 rfl rfl rfl A11 rfl ?_
            refine xi_iload_n (pc' := 21) (x := 4) kc_90_20 rfl rfl ?_
            refine xi_dup2 (pc' := 22) kc_90_21 rfl ⟨rfl, rfl⟩ ?_
            obtain ⟨v1017, ev1017, bv1017, dv1017⟩ := xj_get hy1016 ry1016 (i := 4) (by decide) (by decide)
            refine xi_iaload (pc' := 23) (v := v1017) kc_90_22 rfl A1016 (by decide) rfl (xi_in (by decide) (by rw [hy1016]; decide)) ev1017 ?_
            refine xi_iconst (pc' := 24) (v := 1) kc_90_23 rfl rfl ?_
            obtain ⟨v1018, ev1018⟩ : ∃ q : Int32, (v1017 : Int32) + 1 = q := ⟨_, rfl⟩
            have rv1018 := xc_rng v1018
            refine xi_iadd (pc' := 25) (v := v1018) kc_90_24 rfl ev1018 ?_
            obtain ⟨y1019, s1019, hy1019, ry1019⟩ := xj_set (v := v1018) hy1016 ry1016 4 (by first | omega | decide) (by first | omega | decide)
            refine xi_iastore (pc' := 26) (x' := y1019) kc_90_25 rfl A1016 rfl (xi_in (by decide) (by rw [hy1016]; decide)) s1019 (fun hh1019 eh1019 => ?_)
            have K1020 := xk_pa K (xk_wa (by decide +kernel)) xD_94 hy1019 ry1019 eh1019
            have KR1021 := xk_pa KR (xk_wa (by decide +kernel)) xD_94 hy1019 ry1019 eh1019
            refine xi_iload_n (pc' := 27) (x := (-4)) kc_90_26 rfl rfl ?_
            refine xi_ireturn kc_90_27 mr_90 rfl ?_
            show xw J ov 99 88 (44, [(0, .ref 0), (1, .int a4), (2, .int 5), (3, .int a8)], [.int (-4)], hh1019) _
            refine xi_ireturn kc_88_44 mr_88 rfl ?_
            show xw J ov 100 195 (214, [(4, .int x4), (3, .ref 167), (2, .ref 115), (1, .ref 0), (0, .ref 1000000)], [.int (-4)], hh1019) _
            refine xi_pop (pc' := 215) kc_195_214 rfl rfl ?_
            refine xi_aload_n (pc' := 216) (x := 115) kc_195_215 rfl rfl ?_
            refine xi_aload_n (pc' := 217) (x := 1000000) kc_195_216 rfl rfl ?_
            refine xi_iload (pc' := 219) (x := x4) kc_195_217 rfl rfl ?_
            refine xi_iconst (pc' := 220) (v := 1) kc_195_219 rfl rfl ?_
            refine xi_iadd (pc' := 221) (v := v3) kc_195_220 rfl ev3 ?_
            refine xi_ialoadO (pc' := 222) (v := a4) kc_195_221 rfl (by decide) hov0 (xi_in (by omega) (by omega)) ea4 ?_
            refine xi_aload_n (pc' := 223) (x := 1000000) kc_195_222 rfl rfl ?_
            refine xi_iload (pc' := 225) (x := x4) kc_195_223 rfl rfl ?_
            refine xi_iconst (pc' := 226) (v := 2) kc_195_225 rfl rfl ?_
            refine xi_iadd (pc' := 227) (v := v5) kc_195_226 rfl ev5 ?_
            refine xi_ialoadO (pc' := 228) (v := 5) kc_195_227 rfl (by decide) hov0 (xi_in (by omega) (by omega)) ea6 ?_
            refine xi_aload_n (pc' := 229) (x := 1000000) kc_195_228 rfl rfl ?_
            refine xi_iload (pc' := 231) (x := x4) kc_195_229 rfl rfl ?_
            refine xi_iconst (pc' := 232) (v := 3) kc_195_231 rfl rfl ?_
            refine xi_iadd (pc' := 233) (v := v7) kc_195_232 rfl ev7 ?_
            refine xi_ialoadO (pc' := 234) (v := a8) kc_195_233 rfl (by decide) hov0 (xi_in (by omega) (by omega)) ea8 ?_
            obtain ⟨u1022, u1023, u1024, u1025, u1026, u1027, u1028, u1029, u1030, u1031, u1032, u1033, u1034, bu1022, bu1023, bu1024, bu1025, bu1026, bu1027, bu1028, bu1029, bu1030, bu1031, bu1032, bu1033, bu1034, A1035⟩ := xq_115 K.1
            have A1036 := ((eh1019.2.1 115 (by decide)).trans A1035)
            refine xi_virtual (mj := 9) (as := [.int a4, .int 5, .int a8]) (st1 := []) (lv0 := [(0, .ref 115), (1, .int a4), (2, .int 5), (3, .int a8)]) kc_195_234 rfl rfl rfl rfl rfl A1036 (Nat.le_of_ble_eq_true rfl) (hJ _ _ _ _ (by decide)) (xm_le ml_9 rfl) rfl ?_
            refine xi_aload_n (pc' := 1) (x := 115) kc_9_0 rfl rfl ?_
            refine xi_iconst (pc' := 2) (v := 0) kc_9_1 rfl rfl ?_
            refine xi_putfield (pc' := 5) (fs' := [.int 0, .int u1023, .ref 116, .ref 117, .ref 118, .ref 119, .ref 120, .ref 121, .ref 122, .ref 123, .ref 124, .ref 125, .ref 126, .ref 127, .ref 128, .ref 129, .int u1024, .ref 130, .int u1025, .ref 131, .ref 132, .ref 133, .ref 134, .int u1026, .ref 135, .ref 136, .ref 137, .ref 138, .ref 139, .ref 140, .ref 141, .ref 142, .int u1027, .int u1028, .int u1029, .ref 143, .ref 144, .ref 145, .ref 146, .ref 147, .ref 148, .int u1030, .ref 149, .ref 150, .ref 151, .int u1031, .ref 152, .ref 153, .ref 154, .ref 155, .ref 156, .ref 157, .ref 158, .ref 159, .int u1032, .ref 160, .int u1033, .ref 161, .ref 162, .ref 163, .ref 164, .int u1034, .ref 165, .ref 166]) kc_9_2 rfl rfl rfl A1036 rfl rfl rfl (Nat.le_of_ble_eq_true rfl) rfl (fun hh1038 eh1037 => ?_)
            have K1039 := xk_pf (k := 0) (v := 0) K1020 (xk_wf (by decide +kernel)) xD_115 A1036 rfl (by first | omega | decide) (by first | omega | decide) eh1037 rfl
            have KR1040 := xk_pf (k := 0) (v := 0) KR1021 (xk_wf (by decide +kernel)) xD_115 A1036 rfl (by first | omega | decide) (by first | omega | decide) eh1037 rfl
            refine xi_iload_n (pc' := 6) (x := a4) kc_9_5 rfl rfl ?_
            refine xi_static (mj := 10) (as := [.int a4]) (st1 := []) (lv0 := [(0, .int a4)]) kc_9_6 rfl rfl (Nat.le_of_ble_eq_true rfl) rfl rfl (Nat.le_of_ble_eq_true rfl) (hJ _ _ _ _ (by decide)) (xm_le ml_10 rfl) rfl ?_
            refine xi_iload_n (pc' := 1) (x := a4) kc_10_0 rfl rfl ?_
            refine xi_iconst (pc' := 2) (v := 0) kc_10_1 rfl rfl ?_
            refine xi_iconst (pc' := 3) (v := 5) kc_10_2 rfl rfl ?_
            refine xi_static (mj := 11) (as := [.int a4, .int 0, .int 5]) (st1 := []) (lv0 := [(0, .int a4), (1, .int 0), (2, .int 5)]) kc_10_3 rfl rfl (Nat.le_of_ble_eq_true rfl) rfl rfl (Nat.le_of_ble_eq_true rfl) (hJ _ _ _ _ (by decide)) (xm_le ml_11 rfl) rfl ?_
            refine xi_iload_n (pc' := 1) (x := a4) kc_11_0 rfl rfl ?_
            refine xi_iload_n (pc' := 2) (x := 0) kc_11_1 rfl rfl ?_
            refine xi_cmf (pc' := 5) kc_11_2 rfl (xc_lt_f (X := a4.toInt) (Y := 0) rfl (by decide) (by omega)) ?_
            refine xi_iload_n (pc' := 6) (x := a4) kc_11_5 rfl rfl ?_
            refine xi_iload_n (pc' := 7) (x := 5) kc_11_6 rfl rfl ?_
            refine xi_cmf (pc' := 10) kc_11_7 rfl (xc_gt_f (X := a4.toInt) (Y := 5) rfl (by decide) (by omega)) ?_
            refine xi_iconst (pc' := 11) (v := 1) kc_11_10 rfl rfl ?_
            refine xi_goto (pc' := 15) kc_11_11 rfl ?_
            refine xi_ireturn kc_11_15 mr_11 rfl ?_
            show xw J ov 98 10 (6, [(0, .int a4)], [.int 1], hh1038) _
            refine xi_ireturn kc_10_6 mr_10 rfl ?_
            show xw J ov 99 9 (9, [(0, .ref 115), (1, .int a4), (2, .int 5), (3, .int a8)], [.int 1], hh1038) _
            refine xi_ift (pc' := 18) kc_9_9 rfl rfl ?_
            refine xi_iload_n (pc' := 19) (x := 5) kc_9_18 rfl rfl ?_
            refine xi_iconst (pc' := 20) (v := 0) kc_9_19 rfl rfl ?_
            refine xi_iconst (pc' := 21) (v := 5) kc_9_20 rfl rfl ?_
            refine xi_static (mj := 11) (as := [.int 5, .int 0, .int 5]) (st1 := []) (lv0 := [(0, .int 5), (1, .int 0), (2, .int 5)]) kc_9_21 rfl rfl (Nat.le_of_ble_eq_true rfl) rfl rfl (Nat.le_of_ble_eq_true rfl) (hJ _ _ _ _ (by decide)) (xm_le ml_11 rfl) rfl ?_
            refine xi_iload_n (pc' := 1) (x := 5) kc_11_0 rfl rfl ?_
            refine xi_iload_n (pc' := 2) (x := 0) kc_11_1 rfl rfl ?_
            refine xi_cmf (pc' := 5) kc_11_2 rfl rfl ?_
            refine xi_iload_n (pc' := 6) (x := 5) kc_11_5 rfl rfl ?_
            refine xi_iload_n (pc' := 7) (x := 5) kc_11_6 rfl rfl ?_
            refine xi_cmf (pc' := 10) kc_11_7 rfl rfl ?_
            refine xi_iconst (pc' := 11) (v := 1) kc_11_10 rfl rfl ?_
            refine xi_goto (pc' := 15) kc_11_11 rfl ?_
            refine xi_ireturn kc_11_15 mr_11 rfl ?_
            show xw J ov 99 9 (24, [(0, .ref 115), (1, .int a4), (2, .int 5), (3, .int a8)], [.int 1], hh1038) _
            refine xi_ift (pc' := 34) kc_9_24 rfl rfl ?_
            refine xi_iload_n (pc' := 35) (x := a8) kc_9_34 rfl rfl ?_
            refine xi_iload_n (pc' := 36) (x := 5) kc_9_35 rfl rfl ?_
            refine xi_ift (pc' := 44) kc_9_36 rfl rfl ?_
            refine xi_iconst (pc' := 45) (v := 0) kc_9_44 rfl rfl ?_
            refine xi_cmf (pc' := 48) kc_9_45 rfl (xc_ge_f (X := a8.toInt) (Y := 0) rfl (by decide) (by omega)) ?_
            refine xi_aload_n (pc' := 49) (x := 115) kc_9_48 rfl rfl ?_
            refine xi_bipush (pc' := 51) (v := (-4)) kc_9_49 rfl rfl ?_
            refine xi_virtual (mj := 12) (as := [.int (-4)]) (st1 := []) (lv0 := [(0, .ref 115), (1, .int (-4))]) kc_9_51 rfl rfl rfl rfl rfl eh1037.1 (Nat.le_of_ble_eq_true rfl) (hJ _ _ _ _ (by decide)) (xm_le ml_12 rfl) rfl ?_
            refine xi_aload_n (pc' := 1) (x := 115) kc_12_0 rfl rfl ?_
            refine xi_getfield (pc' := 4) (v := .ref 140) kc_12_1 rfl rfl rfl eh1037.1 rfl ?_
            refine xi_iload_n (pc' := 5) (x := (-4)) kc_12_4 rfl rfl ?_
            refine xi_ineg (pc' := 6) (v := 4) kc_12_5 rfl rfl ?_
            refine xi_dup2 (pc' := 7) kc_12_6 rfl ⟨rfl, rfl⟩ ?_
            obtain ⟨y1041, A1041, hy1041, ry1041⟩ := xk_arr K.1 xD_140
            obtain ⟨v1042, ev1042, bv1042, dv1042⟩ := xj_get hy1041 ry1041 (i := 4) (by decide) (by decide)
            have A1043 := ((eh1037.2.1 140 (by decide)).trans ((eh1019.2.1 140 (by decide)).trans A1041))
            refine xi_iaload (pc' := 8) (v := v1042) kc_12_7 rfl A1043 (by decide) rfl (xi_in (by decide) (by rw [hy1041]; decide)) ev1042 ?_
            refine xi_iconst (pc' := 9) (v := 1) kc_12_8 rfl rfl ?_
            obtain ⟨v1044, ev1044⟩ : ∃ q : Int32, (v1042 : Int32) + 1 = q := ⟨_, rfl⟩
            have rv1044 := xc_rng v1044
            refine xi_iadd (pc' := 10) (v := v1044) kc_12_9 rfl ev1044 ?_
            obtain ⟨y1045, s1045, hy1045, ry1045⟩ := xj_set (v := v1044) hy1041 ry1041 4 (by first | omega | decide) (by first | omega | decide)
            refine xi_iastore (pc' := 11) (x' := y1045) kc_12_10 rfl A1043 rfl (xi_in (by decide) (by rw [hy1041]; decide)) s1045 (fun hh1045 eh1045 => ?_)
            have K1046 := xk_pa K1039 (xk_wa (by decide +kernel)) xD_140 hy1045 ry1045 eh1045
            have KR1047 := xk_pa KR1040 (xk_wa (by decide +kernel)) xD_140 hy1045 ry1045 eh1045
            refine xi_iload_n (pc' := 12) (x := (-4)) kc_12_11 rfl rfl ?_
            refine xi_ireturn kc_12_12 mr_12 rfl ?_
            show xw J ov 99 9 (54, [(0, .ref 115), (1, .int a4), (2, .int 5), (3, .int a8)], [.int (-4)], hh1045) _
            refine xi_ireturn kc_9_54 mr_9 rfl ?_
            show xw J ov 100 195 (237, [(4, .int x4), (3, .ref 167), (2, .ref 115), (1, .ref 0), (0, .ref 1000000)], [.int (-4)], hh1045) _
            refine xi_pop (pc' := 238) kc_195_237 rfl rfl ?_
            refine xi_goto (pc' := 1501) kc_195_238 rfl ?_
            obtain ⟨v1048, ev1048⟩ : ∃ q : Int32, x4 + 6 = q := ⟨_, rfl⟩
            have zv1048 : v1048.toInt = (x4.toInt + 6) := by rw [← ev1048]; exact (xz_add (X := x4.toInt) (Y := 6) rfl (by decide) (by omega) (by omega)).trans (by omega)
            refine xi_iinc (pc' := 1504) (x := x4) (v := v1048) (lv' := [(4, .int v1048), (3, .ref 167), (2, .ref 115), (1, .ref 0), (0, .ref 1000000)]) kc_195_1501 rfl rfl ev1048 rfl (xm_lt ml_195 rfl) ?_
            refine xi_goto (pc' := 23) kc_195_1504 rfl ?_
            exact kk v1048 hh1045 (by omega) K1046 (xI_kept I KR1047.2.1)
        · refine xi_cmf (pc' := 22) kc_88_19 rfl (xc_le_f (X := a6.toInt) (Y := 5) rfl (by decide) (by omega)) ?_
          refine xi_aload_n (pc' := 23) (x := 0) kc_88_22 rfl rfl ?_
          refine xi_bipush (pc' := 25) (v := (-2)) kc_88_23 rfl rfl ?_
          refine xi_virtual (mj := 90) (as := [.int (-2)]) (st1 := []) (lv0 := [(0, .ref 0), (1, .int (-2))]) kc_88_25 rfl rfl rfl rfl rfl A11 (Nat.le_of_ble_eq_true rfl) (hJ _ _ _ _ (by decide)) (xm_le ml_90 rfl) rfl ?_
          refine xi_iload_n (pc' := 1) (x := (-2)) kc_90_0 rfl rfl ?_
          refine xi_ineg (pc' := 2) (v := 2) kc_90_1 rfl rfl ?_
          refine xi_istore_n (pc' := 3) (lv' := [(2, .int 2), (0, .ref 0), (1, .int (-2))]) kc_90_2 rfl rfl (xm_lt ml_90 rfl) ?_
          refine xi_iload_n (pc' := 4) (x := 2) kc_90_3 rfl rfl ?_
          refine xi_iff (pc' := 7) kc_90_4 rfl rfl ?_
          refine xi_iload_n (pc' := 8) (x := 2) kc_90_7 rfl rfl ?_
          refine xi_aload_n (pc' := 9) (x := 0) kc_90_8 rfl rfl ?_
          refine xi_getfield (pc' := 12) (v := .ref 94) kc_90_9 rfl rfl rfl A11 rfl ?_
          obtain ⟨y1049, A1049, hy1049, ry1049⟩ := xk_arr K.1 xD_94
          refine xi_arraylength (pc' := 13) (n := 7) (v := 7) kc_90_12 rfl (xl_lenI (by decide) (by decide) A1049 hy1049) rfl ?_
          refine xi_cmf (pc' := 16) kc_90_13 rfl rfl ?_
          refine xi_aload_n (pc' := 17) (x := 0) kc_90_16 rfl rfl ?_
          refine xi_getfield (pc' := 20) (v := .ref 94) kc_90_17 rfl rfl rfl A11 rfl ?_
          refine xi_iload_n (pc' := 21) (x := 2) kc_90_20 rfl rfl ?_
          refine xi_dup2 (pc' := 22) kc_90_21 rfl ⟨rfl, rfl⟩ ?_
          obtain ⟨v1050, ev1050, bv1050, dv1050⟩ := xj_get hy1049 ry1049 (i := 2) (by decide) (by decide)
          refine xi_iaload (pc' := 23) (v := v1050) kc_90_22 rfl A1049 (by decide) rfl (xi_in (by decide) (by rw [hy1049]; decide)) ev1050 ?_
          refine xi_iconst (pc' := 24) (v := 1) kc_90_23 rfl rfl ?_
          obtain ⟨v1051, ev1051⟩ : ∃ q : Int32, (v1050 : Int32) + 1 = q := ⟨_, rfl⟩
          have rv1051 := xc_rng v1051
          refine xi_iadd (pc' := 25) (v := v1051) kc_90_24 rfl ev1051 ?_
          obtain ⟨y1052, s1052, hy1052, ry1052⟩ := xj_set (v := v1051) hy1049 ry1049 2 (by first | omega | decide) (by first | omega | decide)
          refine xi_iastore (pc' := 26) (x' := y1052) kc_90_25 rfl A1049 rfl (xi_in (by decide) (by rw [hy1049]; decide)) s1052 (fun hh1052 eh1052 => ?_)
          have K1053 := xk_pa K (xk_wa (by decide +kernel)) xD_94 hy1052 ry1052 eh1052
          have KR1054 := xk_pa KR (xk_wa (by decide +kernel)) xD_94 hy1052 ry1052 eh1052
          refine xi_iload_n (pc' := 27) (x := (-2)) kc_90_26 rfl rfl ?_
          refine xi_ireturn kc_90_27 mr_90 rfl ?_
          show xw J ov 99 88 (28, [(0, .ref 0), (1, .int a4), (2, .int a6), (3, .int a8)], [.int (-2)], hh1052) _
          refine xi_ireturn kc_88_28 mr_88 rfl ?_
          show xw J ov 100 195 (214, [(4, .int x4), (3, .ref 167), (2, .ref 115), (1, .ref 0), (0, .ref 1000000)], [.int (-2)], hh1052) _
          refine xi_pop (pc' := 215) kc_195_214 rfl rfl ?_
          refine xi_aload_n (pc' := 216) (x := 115) kc_195_215 rfl rfl ?_
          refine xi_aload_n (pc' := 217) (x := 1000000) kc_195_216 rfl rfl ?_
          refine xi_iload (pc' := 219) (x := x4) kc_195_217 rfl rfl ?_
          refine xi_iconst (pc' := 220) (v := 1) kc_195_219 rfl rfl ?_
          refine xi_iadd (pc' := 221) (v := v3) kc_195_220 rfl ev3 ?_
          refine xi_ialoadO (pc' := 222) (v := a4) kc_195_221 rfl (by decide) hov0 (xi_in (by omega) (by omega)) ea4 ?_
          refine xi_aload_n (pc' := 223) (x := 1000000) kc_195_222 rfl rfl ?_
          refine xi_iload (pc' := 225) (x := x4) kc_195_223 rfl rfl ?_
          refine xi_iconst (pc' := 226) (v := 2) kc_195_225 rfl rfl ?_
          refine xi_iadd (pc' := 227) (v := v5) kc_195_226 rfl ev5 ?_
          refine xi_ialoadO (pc' := 228) (v := a6) kc_195_227 rfl (by decide) hov0 (xi_in (by omega) (by omega)) ea6 ?_
          refine xi_aload_n (pc' := 229) (x := 1000000) kc_195_228 rfl rfl ?_
          refine xi_iload (pc' := 231) (x := x4) kc_195_229 rfl rfl ?_
          refine xi_iconst (pc' := 232) (v := 3) kc_195_231 rfl rfl ?_
          refine xi_iadd (pc' := 233) (v := v7) kc_195_232 rfl ev7 ?_
          refine xi_ialoadO (pc' := 234) (v := a8) kc_195_233 rfl (by decide) hov0 (xi_in (by omega) (by omega)) ea8 ?_
          obtain ⟨u1055, u1056, u1057, u1058, u1059, u1060, u1061, u1062, u1063, u1064, u1065, u1066, u1067, bu1055, bu1056, bu1057, bu1058, bu1059, bu1060, bu1061, bu1062, bu1063, bu1064, bu1065, bu1066, bu1067, A1068⟩ := xq_115 K.1
          have A1069 := ((eh1052.2.1 115 (by decide)).trans A1068)
          refine xi_virtual (mj := 9) (as := [.int a4, .int a6, .int a8]) (st1 := []) (lv0 := [(0, .ref 115), (1, .int a4), (2, .int a6), (3, .int a8)]) kc_195_234 rfl rfl rfl rfl rfl A1069 (Nat.le_of_ble_eq_true rfl) (hJ _ _ _ _ (by decide)) (xm_le ml_9 rfl) rfl ?_
          refine xi_aload_n (pc' := 1) (x := 115) kc_9_0 rfl rfl ?_
          refine xi_iconst (pc' := 2) (v := 0) kc_9_1 rfl rfl ?_
          refine xi_putfield (pc' := 5) (fs' := [.int 0, .int u1056, .ref 116, .ref 117, .ref 118, .ref 119, .ref 120, .ref 121, .ref 122, .ref 123, .ref 124, .ref 125, .ref 126, .ref 127, .ref 128, .ref 129, .int u1057, .ref 130, .int u1058, .ref 131, .ref 132, .ref 133, .ref 134, .int u1059, .ref 135, .ref 136, .ref 137, .ref 138, .ref 139, .ref 140, .ref 141, .ref 142, .int u1060, .int u1061, .int u1062, .ref 143, .ref 144, .ref 145, .ref 146, .ref 147, .ref 148, .int u1063, .ref 149, .ref 150, .ref 151, .int u1064, .ref 152, .ref 153, .ref 154, .ref 155, .ref 156, .ref 157, .ref 158, .ref 159, .int u1065, .ref 160, .int u1066, .ref 161, .ref 162, .ref 163, .ref 164, .int u1067, .ref 165, .ref 166]) kc_9_2 rfl rfl rfl A1069 rfl rfl rfl (Nat.le_of_ble_eq_true rfl) rfl (fun hh1071 eh1070 => ?_)
          have K1072 := xk_pf (k := 0) (v := 0) K1053 (xk_wf (by decide +kernel)) xD_115 A1069 rfl (by first | omega | decide) (by first | omega | decide) eh1070 rfl
          have KR1073 := xk_pf (k := 0) (v := 0) KR1054 (xk_wf (by decide +kernel)) xD_115 A1069 rfl (by first | omega | decide) (by first | omega | decide) eh1070 rfl
          refine xi_iload_n (pc' := 6) (x := a4) kc_9_5 rfl rfl ?_
          refine xi_static (mj := 10) (as := [.int a4]) (st1 := []) (lv0 := [(0, .int a4)]) kc_9_6 rfl rfl (Nat.le_of_ble_eq_true rfl) rfl rfl (Nat.le_of_ble_eq_true rfl) (hJ _ _ _ _ (by decide)) (xm_le ml_10 rfl) rfl ?_
          refine xi_iload_n (pc' := 1) (x := a4) kc_10_0 rfl rfl ?_
          refine xi_iconst (pc' := 2) (v := 0) kc_10_1 rfl rfl ?_
          refine xi_iconst (pc' := 3) (v := 5) kc_10_2 rfl rfl ?_
          refine xi_static (mj := 11) (as := [.int a4, .int 0, .int 5]) (st1 := []) (lv0 := [(0, .int a4), (1, .int 0), (2, .int 5)]) kc_10_3 rfl rfl (Nat.le_of_ble_eq_true rfl) rfl rfl (Nat.le_of_ble_eq_true rfl) (hJ _ _ _ _ (by decide)) (xm_le ml_11 rfl) rfl ?_
          refine xi_iload_n (pc' := 1) (x := a4) kc_11_0 rfl rfl ?_
          refine xi_iload_n (pc' := 2) (x := 0) kc_11_1 rfl rfl ?_
          refine xi_cmf (pc' := 5) kc_11_2 rfl (xc_lt_f (X := a4.toInt) (Y := 0) rfl (by decide) (by omega)) ?_
          refine xi_iload_n (pc' := 6) (x := a4) kc_11_5 rfl rfl ?_
          refine xi_iload_n (pc' := 7) (x := 5) kc_11_6 rfl rfl ?_
          refine xi_cmf (pc' := 10) kc_11_7 rfl (xc_gt_f (X := a4.toInt) (Y := 5) rfl (by decide) (by omega)) ?_
          refine xi_iconst (pc' := 11) (v := 1) kc_11_10 rfl rfl ?_
          refine xi_goto (pc' := 15) kc_11_11 rfl ?_
          refine xi_ireturn kc_11_15 mr_11 rfl ?_
          show xw J ov 98 10 (6, [(0, .int a4)], [.int 1], hh1071) _
          refine xi_ireturn kc_10_6 mr_10 rfl ?_
          show xw J ov 99 9 (9, [(0, .ref 115), (1, .int a4), (2, .int a6), (3, .int a8)], [.int 1], hh1071) _
          refine xi_ift (pc' := 18) kc_9_9 rfl rfl ?_
          refine xi_iload_n (pc' := 19) (x := a6) kc_9_18 rfl rfl ?_
          refine xi_iconst (pc' := 20) (v := 0) kc_9_19 rfl rfl ?_
          refine xi_iconst (pc' := 21) (v := 5) kc_9_20 rfl rfl ?_
          refine xi_static (mj := 11) (as := [.int a6, .int 0, .int 5]) (st1 := []) (lv0 := [(0, .int a6), (1, .int 0), (2, .int 5)]) kc_9_21 rfl rfl (Nat.le_of_ble_eq_true rfl) rfl rfl (Nat.le_of_ble_eq_true rfl) (hJ _ _ _ _ (by decide)) (xm_le ml_11 rfl) rfl ?_
          refine xi_iload_n (pc' := 1) (x := a6) kc_11_0 rfl rfl ?_
          refine xi_iload_n (pc' := 2) (x := 0) kc_11_1 rfl rfl ?_
          refine xi_cmf (pc' := 5) kc_11_2 rfl (xc_lt_f (X := a6.toInt) (Y := 0) rfl (by decide) (by omega)) ?_
          refine xi_iload_n (pc' := 6) (x := a6) kc_11_5 rfl rfl ?_
          refine xi_iload_n (pc' := 7) (x := 5) kc_11_6 rfl rfl ?_
          refine xi_cmt (pc' := 14) kc_11_7 rfl (xc_gt_t (X := a6.toInt) (Y := 5) rfl (by decide) (by omega)) ?_
          refine xi_iconst (pc' := 15) (v := 0) kc_11_14 rfl rfl ?_
          refine xi_ireturn kc_11_15 mr_11 rfl ?_
          show xw J ov 99 9 (24, [(0, .ref 115), (1, .int a4), (2, .int a6), (3, .int a8)], [.int 0], hh1071) _
          refine xi_iff (pc' := 27) kc_9_24 rfl rfl ?_
          refine xi_aload_n (pc' := 28) (x := 115) kc_9_27 rfl rfl ?_
          refine xi_bipush (pc' := 30) (v := (-2)) kc_9_28 rfl rfl ?_
          refine xi_virtual (mj := 12) (as := [.int (-2)]) (st1 := []) (lv0 := [(0, .ref 115), (1, .int (-2))]) kc_9_30 rfl rfl rfl rfl rfl eh1070.1 (Nat.le_of_ble_eq_true rfl) (hJ _ _ _ _ (by decide)) (xm_le ml_12 rfl) rfl ?_
          refine xi_aload_n (pc' := 1) (x := 115) kc_12_0 rfl rfl ?_
          refine xi_getfield (pc' := 4) (v := .ref 140) kc_12_1 rfl rfl rfl eh1070.1 rfl ?_
          refine xi_iload_n (pc' := 5) (x := (-2)) kc_12_4 rfl rfl ?_
          refine xi_ineg (pc' := 6) (v := 2) kc_12_5 rfl rfl ?_
          refine xi_dup2 (pc' := 7) kc_12_6 rfl ⟨rfl, rfl⟩ ?_
          obtain ⟨y1074, A1074, hy1074, ry1074⟩ := xk_arr K.1 xD_140
          obtain ⟨v1075, ev1075, bv1075, dv1075⟩ := xj_get hy1074 ry1074 (i := 2) (by decide) (by decide)
          have A1076 := ((eh1070.2.1 140 (by decide)).trans ((eh1052.2.1 140 (by decide)).trans A1074))
          refine xi_iaload (pc' := 8) (v := v1075) kc_12_7 rfl A1076 (by decide) rfl (xi_in (by decide) (by rw [hy1074]; decide)) ev1075 ?_
          refine xi_iconst (pc' := 9) (v := 1) kc_12_8 rfl rfl ?_
          obtain ⟨v1077, ev1077⟩ : ∃ q : Int32, (v1075 : Int32) + 1 = q := ⟨_, rfl⟩
          have rv1077 := xc_rng v1077
          refine xi_iadd (pc' := 10) (v := v1077) kc_12_9 rfl ev1077 ?_
          obtain ⟨y1078, s1078, hy1078, ry1078⟩ := xj_set (v := v1077) hy1074 ry1074 2 (by first | omega | decide) (by first | omega | decide)
          refine xi_iastore (pc' := 11) (x' := y1078) kc_12_10 rfl A1076 rfl (xi_in (by decide) (by rw [hy1074]; decide)) s1078 (fun hh1078 eh1078 => ?_)
          have K1079 := xk_pa K1072 (xk_wa (by decide +kernel)) xD_140 hy1078 ry1078 eh1078
          have KR1080 := xk_pa KR1073 (xk_wa (by decide +kernel)) xD_140 hy1078 ry1078 eh1078
          refine xi_iload_n (pc' := 12) (x := (-2)) kc_12_11 rfl rfl ?_
          refine xi_ireturn kc_12_12 mr_12 rfl ?_
          show xw J ov 99 9 (33, [(0, .ref 115), (1, .int a4), (2, .int a6), (3, .int a8)], [.int (-2)], hh1078) _
          refine xi_ireturn kc_9_33 mr_9 rfl ?_
          show xw J ov 100 195 (237, [(4, .int x4), (3, .ref 167), (2, .ref 115), (1, .ref 0), (0, .ref 1000000)], [.int (-2)], hh1078) _
          refine xi_pop (pc' := 238) kc_195_237 rfl rfl ?_
          refine xi_goto (pc' := 1501) kc_195_238 rfl ?_
          obtain ⟨v1081, ev1081⟩ : ∃ q : Int32, x4 + 6 = q := ⟨_, rfl⟩
          have zv1081 : v1081.toInt = (x4.toInt + 6) := by rw [← ev1081]; exact (xz_add (X := x4.toInt) (Y := 6) rfl (by decide) (by omega) (by omega)).trans (by omega)
          refine xi_iinc (pc' := 1504) (x := x4) (v := v1081) (lv' := [(4, .int v1081), (3, .ref 167), (2, .ref 115), (1, .ref 0), (0, .ref 1000000)]) kc_195_1501 rfl rfl ev1081 rfl (xm_lt ml_195 rfl) ?_
          refine xi_goto (pc' := 23) kc_195_1504 rfl ?_
          exact kk v1081 hh1078 (by omega) K1079 (xI_kept I KR1080.2.1)
