def xI (h : xe_H) : Prop := xE (xl h (13, 0)) (xl h (122, 0)) 0 24 ∧ xE (xl h (16, 0)) (xl h (122, 0)) 24 24 ∧ xE (xl h (19, 0)) (xl h (122, 0)) 48 24 ∧ xE (xl h (22, 0)) (xl h (122, 0)) 72 24 ∧ xE (xl h (25, 0)) (xl h (122, 0)) 96 24 ∧ xE (xl h (28, 0)) (xl h (122, 0)) 120 24
theorem xI_kept {h h' : xe_H} (I : xI h) (F : ∀ l : Nat × Nat, List.elem l [(13, 0), (122, 0), (16, 0), (19, 0), (22, 0), (25, 0), (28, 0)] = true → xl h' l = xl h l) : xI h' := ⟨(show xE (xl h' (13, 0)) (xl h' (122, 0)) 0 24 by rw [F (13, 0) rfl, F (122, 0) rfl]; exact I.1), (show xE (xl h' (16, 0)) (xl h' (122, 0)) 24 24 by rw [F (16, 0) rfl, F (122, 0) rfl]; exact I.2.1), (show xE (xl h' (19, 0)) (xl h' (122, 0)) 48 24 by rw [F (19, 0) rfl, F (122, 0) rfl]; exact I.2.2.1), (show xE (xl h' (22, 0)) (xl h' (122, 0)) 72 24 by rw [F (22, 0) rfl, F (122, 0) rfl]; exact I.2.2.2.1), (show xE (xl h' (25, 0)) (xl h' (122, 0)) 96 24 by rw [F (25, 0) rfl, F (122, 0) rfl]; exact I.2.2.2.2.1), (show xE (xl h' (28, 0)) (xl h' (122, 0)) 120 24 by rw [F (28, 0) rfl, F (122, 0) rfl]; exact I.2.2.2.2.2)⟩
set_option maxHeartbeats 8000000 in
theorem lc_d {J : xe_J} {ov : List (List Int32)} (hJ : ∀ d mj as h, mj ≠ xe_loff → J d mj as h = none) (hov1 : ov[1]? = some [10, 0, 0, 0, 0, 0]) (hov2 : ov[2]? = some [99, 30, 50, 50, 1, 99999]) {xs : List Int32} (hov0 : ov[0]? = some xs) {Q : Option Value → xe_H → Prop} {h : xe_H} {x4 : Int32} (hi0 : 0 ≤ x4.toInt) (hi1 : x4.toInt + 6 ≤ xs.length) (hi2 : x4.toInt ≤ 3066) (T : xt h) (kk : ∀ (i : Int32) (h' : xe_H), i.toInt = x4.toInt + 6 → xk [(13, 0), (122, 0), (16, 0), (19, 0), (22, 0), (25, 0), (28, 0)] h h' → xw J ov 100 195 (23, [(4, .int i), (3, .ref 167), (2, .ref 115), (1, .ref 0), (0, .ref 1000000)], [], h') Q) : xw J ov 100 195 (1501, [(4, .int x4), (3, .ref 167), (2, .ref 115), (1, .ref 0), (0, .ref 1000000)], [], h) Q := by
  have K : xk [(13, 0), (122, 0), (16, 0), (19, 0), (22, 0), (25, 0), (28, 0)] h h := xk_re T
  obtain ⟨v1, ev1⟩ : ∃ q : Int32, x4 + 6 = q := ⟨_, rfl⟩
  have zv1 : v1.toInt = (x4.toInt + 6) := by rw [← ev1]; exact (xz_add (X := x4.toInt) (Y := 6) rfl (by decide) (by omega) (by omega)).trans (by omega)
  refine xi_iinc (pc' := 1504) (x := x4) (v := v1) (lv' := [(4, .int v1), (3, .ref 167), (2, .ref 115), (1, .ref 0), (0, .ref 1000000)]) kc_195_1501 rfl rfl ev1 rfl (xm_lt ml_195 rfl) ?_
  refine xi_goto (pc' := 23) kc_195_1504 rfl ?_
  exact kk v1 h (by omega) K
set_option maxHeartbeats 8000000 in
theorem lc_0 {J : xe_J} {ov : List (List Int32)} (hJ : ∀ d mj as h, mj ≠ xe_loff → J d mj as h = none) (hov1 : ov[1]? = some [10, 0, 0, 0, 0, 0]) (hov2 : ov[2]? = some [99, 30, 50, 50, 1, 99999]) {xs : List Int32} (hov0 : ov[0]? = some xs) {Q : Option Value → xe_H → Prop} {h : xe_H} {x4 : Int32} (hi0 : 0 ≤ x4.toInt) (hi1 : x4.toInt + 6 ≤ xs.length) (hi2 : x4.toInt ≤ 3066) (T : xt h) (kk : ∀ (i : Int32) (h' : xe_H), i.toInt = x4.toInt + 6 → xk [(13, 0), (122, 0), (16, 0), (19, 0), (22, 0), (25, 0), (28, 0)] h h' → xw J ov 100 195 (23, [(4, .int i), (3, .ref 167), (2, .ref 115), (1, .ref 0), (0, .ref 1000000)], [], h') Q) : xw J ov 100 195 (192, [(4, .int x4), (3, .ref 167), (2, .ref 115), (1, .ref 0), (0, .ref 1000000)], [], h) Q := by
  have K : xk [(13, 0), (122, 0), (16, 0), (19, 0), (22, 0), (25, 0), (28, 0)] h h := xk_re T
  refine xi_aload_n (pc' := 193) (x := 0) kc_195_192 rfl rfl ?_
  refine xi_aload_n (pc' := 194) (x := 1000000) kc_195_193 rfl rfl ?_
  refine xi_iload (pc' := 196) (x := x4) kc_195_194 rfl rfl ?_
  refine xi_iconst (pc' := 197) (v := 1) kc_195_196 rfl rfl ?_
  obtain ⟨v1, ev1⟩ : ∃ q : Int32, x4 + 1 = q := ⟨_, rfl⟩
  have zv1 : v1.toInt = (x4.toInt + 1) := by rw [← ev1]; exact (xz_add (X := x4.toInt) (Y := 1) rfl (by decide) (by omega) (by omega)).trans (by omega)
  refine xi_iadd (pc' := 198) (v := v1) kc_195_197 rfl ev1 ?_
  obtain ⟨a2, ea2⟩ : ∃ q : Int32, xs.getD (Int32.toNatClampNeg v1) 0 = q := ⟨_, rfl⟩
  have ra2 := xc_rng a2
  refine xi_ialoadO (pc' := 199) (v := a2) kc_195_198 rfl (by decide) hov0 (xi_in (by omega) (by omega)) ea2 ?_
  refine xi_aload_n (pc' := 200) (x := 1000000) kc_195_199 rfl rfl ?_
  refine xi_iload (pc' := 202) (x := x4) kc_195_200 rfl rfl ?_
  refine xi_iconst (pc' := 203) (v := 2) kc_195_202 rfl rfl ?_
  obtain ⟨v3, ev3⟩ : ∃ q : Int32, x4 + 2 = q := ⟨_, rfl⟩
  have zv3 : v3.toInt = (x4.toInt + 2) := by rw [← ev3]; exact (xz_add (X := x4.toInt) (Y := 2) rfl (by decide) (by omega) (by omega)).trans (by omega)
  refine xi_iadd (pc' := 204) (v := v3) kc_195_203 rfl ev3 ?_
  obtain ⟨a4, ea4⟩ : ∃ q : Int32, xs.getD (Int32.toNatClampNeg v3) 0 = q := ⟨_, rfl⟩
  have ra4 := xc_rng a4
  refine xi_ialoadO (pc' := 205) (v := a4) kc_195_204 rfl (by decide) hov0 (xi_in (by omega) (by omega)) ea4 ?_
  refine xi_aload_n (pc' := 206) (x := 1000000) kc_195_205 rfl rfl ?_
  refine xi_iload (pc' := 208) (x := x4) kc_195_206 rfl rfl ?_
  refine xi_iconst (pc' := 209) (v := 3) kc_195_208 rfl rfl ?_
  obtain ⟨v5, ev5⟩ : ∃ q : Int32, x4 + 3 = q := ⟨_, rfl⟩
  have zv5 : v5.toInt = (x4.toInt + 3) := by rw [← ev5]; exact (xz_add (X := x4.toInt) (Y := 3) rfl (by decide) (by omega) (by omega)).trans (by omega)
  refine xi_iadd (pc' := 210) (v := v5) kc_195_209 rfl ev5 ?_
  obtain ⟨a6, ea6⟩ : ∃ q : Int32, xs.getD (Int32.toNatClampNeg v5) 0 = q := ⟨_, rfl⟩
  have ra6 := xc_rng a6
  refine xi_ialoadO (pc' := 211) (v := a6) kc_195_210 rfl (by decide) hov0 (xi_in (by omega) (by omega)) ea6 ?_
  obtain ⟨u7, u8, bu7, bu8, A9⟩ := xq_0 K.1
  refine xi_virtual (mj := 88) (as := [.int a2, .int a4, .int a6]) (st1 := []) (lv0 := [(0, .ref 0), (1, .int a2), (2, .int a4), (3, .int a6)]) kc_195_211 rfl rfl rfl rfl rfl A9 (Nat.le_of_ble_eq_true rfl) (hJ _ _ _ _ (by decide)) (xm_le ml_88 rfl) rfl ?_
  refine mt_88_0 hJ hov1 hov2 (d := 97) (x1 := a2) (x2 := a4) (x3 := a6) K.1 (fun r10 hh11 K12 => ?_)
  have br10 := xc_rng r10
  have K13 := xk_tr K K12 rfl
  obtain ⟨u14, u15, bu14, bu15, A16⟩ := xq_0 K13.1
  have e17 : u8 = u15 := xk_eqi (q := 9) K12 rfl A9 A16 rfl rfl
  subst e17
  show xw J ov 100 195 (214, [(4, .int x4), (3, .ref 167), (2, .ref 115), (1, .ref 0), (0, .ref 1000000)], [.int r10], hh11) _
  refine xi_pop (pc' := 215) kc_195_214 rfl rfl ?_
  refine xi_aload_n (pc' := 216) (x := 115) kc_195_215 rfl rfl ?_
  refine xi_aload_n (pc' := 217) (x := 1000000) kc_195_216 rfl rfl ?_
  refine xi_iload (pc' := 219) (x := x4) kc_195_217 rfl rfl ?_
  refine xi_iconst (pc' := 220) (v := 1) kc_195_219 rfl rfl ?_
  refine xi_iadd (pc' := 221) (v := v1) kc_195_220 rfl ev1 ?_
  refine xi_ialoadO (pc' := 222) (v := a2) kc_195_221 rfl (by decide) hov0 (xi_in (by omega) (by omega)) ea2 ?_
  refine xi_aload_n (pc' := 223) (x := 1000000) kc_195_222 rfl rfl ?_
  refine xi_iload (pc' := 225) (x := x4) kc_195_223 rfl rfl ?_
  refine xi_iconst (pc' := 226) (v := 2) kc_195_225 rfl rfl ?_
  refine xi_iadd (pc' := 227) (v := v3) kc_195_226 rfl ev3 ?_
  refine xi_ialoadO (pc' := 228) (v := a4) kc_195_227 rfl (by decide) hov0 (xi_in (by omega) (by omega)) ea4 ?_
  refine xi_aload_n (pc' := 229) (x := 1000000) kc_195_228 rfl rfl ?_
  refine xi_iload (pc' := 231) (x := x4) kc_195_229 rfl rfl ?_
  refine xi_iconst (pc' := 232) (v := 3) kc_195_231 rfl rfl ?_
  refine xi_iadd (pc' := 233) (v := v5) kc_195_232 rfl ev5 ?_
  refine xi_ialoadO (pc' := 234) (v := a6) kc_195_233 rfl (by decide) hov0 (xi_in (by omega) (by omega)) ea6 ?_
  obtain ⟨u18, u19, u20, u21, u22, u23, u24, u25, u26, u27, u28, u29, u30, bu18, bu19, bu20, bu21, bu22, bu23, bu24, bu25, bu26, bu27, bu28, bu29, bu30, A31⟩ := xq_115 K13.1
  refine xi_virtual (mj := 9) (as := [.int a2, .int a4, .int a6]) (st1 := []) (lv0 := [(0, .ref 115), (1, .int a2), (2, .int a4), (3, .int a6)]) kc_195_234 rfl rfl rfl rfl rfl A31 (Nat.le_of_ble_eq_true rfl) (hJ _ _ _ _ (by decide)) (xm_le ml_9 rfl) rfl ?_
  refine mt_9_0 hJ hov1 hov2 (d := 97) (x1 := a2) (x2 := a4) (x3 := a6) K13.1 (fun r32 hh33 K34 => ?_)
  have br32 := xc_rng r32
  have K35 := xk_tr K13 K34 rfl
  obtain ⟨u36, u37, bu36, bu37, A38⟩ := xq_0 K35.1
  have e39 : u8 = u37 := xk_eqi (q := 9) K34 rfl A16 A38 rfl rfl
  subst e39
  obtain ⟨u40, u41, u42, u43, u44, u45, u46, u47, u48, u49, u50, u51, u52, bu40, bu41, bu42, bu43, bu44, bu45, bu46, bu47, bu48, bu49, bu50, bu51, bu52, A53⟩ := xq_115 K35.1
  have e54 : u19 = u41 := xk_eqi (q := 1) K34 rfl A31 A53 rfl rfl
  subst e54
  show xw J ov 100 195 (237, [(4, .int x4), (3, .ref 167), (2, .ref 115), (1, .ref 0), (0, .ref 1000000)], [.int r32], hh33) _
  refine xi_pop (pc' := 238) kc_195_237 rfl rfl ?_
  refine xi_goto (pc' := 1501) kc_195_238 rfl ?_
  obtain ⟨v55, ev55⟩ : ∃ q : Int32, x4 + 6 = q := ⟨_, rfl⟩
  have zv55 : v55.toInt = (x4.toInt + 6) := by rw [← ev55]; exact (xz_add (X := x4.toInt) (Y := 6) rfl (by decide) (by omega) (by omega)).trans (by omega)
  refine xi_iinc (pc' := 1504) (x := x4) (v := v55) (lv' := [(4, .int v55), (3, .ref 167), (2, .ref 115), (1, .ref 0), (0, .ref 1000000)]) kc_195_1501 rfl rfl ev55 rfl (xm_lt ml_195 rfl) ?_
  refine xi_goto (pc' := 23) kc_195_1504 rfl ?_
  exact kk v55 hh33 (by omega) K35
set_option maxHeartbeats 8000000 in
theorem lc_1 {J : xe_J} {ov : List (List Int32)} (hJ : ∀ d mj as h, mj ≠ xe_loff → J d mj as h = none) (hov1 : ov[1]? = some [10, 0, 0, 0, 0, 0]) (hov2 : ov[2]? = some [99, 30, 50, 50, 1, 99999]) {xs : List Int32} (hov0 : ov[0]? = some xs) {Q : Option Value → xe_H → Prop} {h : xe_H} {x4 : Int32} (hi0 : 0 ≤ x4.toInt) (hi1 : x4.toInt + 6 ≤ xs.length) (hi2 : x4.toInt ≤ 3066) (T : xt h) (I : xI h) (kk : ∀ (i : Int32) (h' : xe_H), i.toInt = x4.toInt + 6 → xk [] h h' → xI h' → xw J ov 100 195 (23, [(4, .int i), (3, .ref 167), (2, .ref 115), (1, .ref 0), (0, .ref 1000000)], [], h') Q) : xw J ov 100 195 (241, [(4, .int x4), (3, .ref 167), (2, .ref 115), (1, .ref 0), (0, .ref 1000000)], [], h) Q := by
  have K : xk [] h h := xk_re T
  obtain ⟨y1, A1, hy1, ry1⟩ := xk_arr K.1 xD_13
  obtain ⟨y2, A2, hy2, ry2⟩ := xk_arr K.1 xD_122
  have H0 := xE_of I.1 A1 A2
  obtain ⟨y3, A3, hy3, ry3⟩ := xk_arr K.1 xD_16
  have H1 := xE_of I.2.1 A3 A2
  obtain ⟨y4, A4, hy4, ry4⟩ := xk_arr K.1 xD_19
  have H2 := xE_of I.2.2.1 A4 A2
  obtain ⟨y5, A5, hy5, ry5⟩ := xk_arr K.1 xD_22
  have H3 := xE_of I.2.2.2.1 A5 A2
  obtain ⟨y6, A6, hy6, ry6⟩ := xk_arr K.1 xD_25
  have H4 := xE_of I.2.2.2.2.1 A6 A2
  obtain ⟨y7, A7, hy7, ry7⟩ := xk_arr K.1 xD_28
  have H5 := xE_of I.2.2.2.2.2 A7 A2
  refine xi_aload_n (pc' := 242) (x := 0) kc_195_241 rfl rfl ?_
  refine xi_aload_n (pc' := 243) (x := 1000000) kc_195_242 rfl rfl ?_
  refine xi_iload (pc' := 245) (x := x4) kc_195_243 rfl rfl ?_
  refine xi_iconst (pc' := 246) (v := 1) kc_195_245 rfl rfl ?_
  obtain ⟨v8, ev8⟩ : ∃ q : Int32, x4 + 1 = q := ⟨_, rfl⟩
  have zv8 : v8.toInt = (x4.toInt + 1) := by rw [← ev8]; exact (xz_add (X := x4.toInt) (Y := 1) rfl (by decide) (by omega) (by omega)).trans (by omega)
  refine xi_iadd (pc' := 247) (v := v8) kc_195_246 rfl ev8 ?_
  obtain ⟨a9, ea9⟩ : ∃ q : Int32, xs.getD (Int32.toNatClampNeg v8) 0 = q := ⟨_, rfl⟩
  have ra9 := xc_rng a9
  refine xi_ialoadO (pc' := 248) (v := a9) kc_195_247 rfl (by decide) hov0 (xi_in (by omega) (by omega)) ea9 ?_
  refine xi_aload_n (pc' := 249) (x := 1000000) kc_195_248 rfl rfl ?_
  refine xi_iload (pc' := 251) (x := x4) kc_195_249 rfl rfl ?_
  refine xi_iconst (pc' := 252) (v := 2) kc_195_251 rfl rfl ?_
  obtain ⟨v10, ev10⟩ : ∃ q : Int32, x4 + 2 = q := ⟨_, rfl⟩
  have zv10 : v10.toInt = (x4.toInt + 2) := by rw [← ev10]; exact (xz_add (X := x4.toInt) (Y := 2) rfl (by decide) (by omega) (by omega)).trans (by omega)
  refine xi_iadd (pc' := 253) (v := v10) kc_195_252 rfl ev10 ?_
  obtain ⟨a11, ea11⟩ : ∃ q : Int32, xs.getD (Int32.toNatClampNeg v10) 0 = q := ⟨_, rfl⟩
  have ra11 := xc_rng a11
  refine xi_ialoadO (pc' := 254) (v := a11) kc_195_253 rfl (by decide) hov0 (xi_in (by omega) (by omega)) ea11 ?_
  refine xi_aload_n (pc' := 255) (x := 1000000) kc_195_254 rfl rfl ?_
  refine xi_iload (pc' := 257) (x := x4) kc_195_255 rfl rfl ?_
  refine xi_iconst (pc' := 258) (v := 3) kc_195_257 rfl rfl ?_
  obtain ⟨v12, ev12⟩ : ∃ q : Int32, x4 + 3 = q := ⟨_, rfl⟩
  have zv12 : v12.toInt = (x4.toInt + 3) := by rw [← ev12]; exact (xz_add (X := x4.toInt) (Y := 3) rfl (by decide) (by omega) (by omega)).trans (by omega)
  refine xi_iadd (pc' := 259) (v := v12) kc_195_258 rfl ev12 ?_
  obtain ⟨a13, ea13⟩ : ∃ q : Int32, xs.getD (Int32.toNatClampNeg v12) 0 = q := ⟨_, rfl⟩
  have ra13 := xc_rng a13
  refine xi_ialoadO (pc' := 260) (v := a13) kc_195_259 rfl (by decide) hov0 (xi_in (by omega) (by omega)) ea13 ?_
  obtain ⟨u14, u15, bu14, bu15, A16⟩ := xq_0 K.1
  refine xi_virtual (mj := 94) (as := [.int a9, .int a11, .int a13]) (st1 := []) (lv0 := [(0, .ref 0), (1, .int a9), (2, .int a11), (3, .int a13)]) kc_195_260 rfl rfl rfl rfl rfl A16 (Nat.le_of_ble_eq_true rfl) (hJ _ _ _ _ (by decide)) (xm_le ml_94 rfl) rfl ?_
  refine xi_iload_n (pc' := 1) (x := a9) kc_94_0 rfl rfl ?_
  refine xi_static (mj := 89) (as := [.int a9]) (st1 := []) (lv0 := [(0, .int a9)]) kc_94_1 rfl rfl (Nat.le_of_ble_eq_true rfl) rfl rfl (Nat.le_of_ble_eq_true rfl) (hJ _ _ _ _ (by decide)) (xm_le ml_89 rfl) rfl ?_
  refine xi_iload_n (pc' := 1) (x := a9) kc_89_0 rfl rfl ?_
  by_cases c17 : a9.toInt < 0
  · refine xi_ift (pc' := 14) kc_89_1 rfl (xc_lt_t (X := a9.toInt) (Y := 0) rfl (by decide) (by omega)) ?_
    refine xi_iconst (pc' := 15) (v := 0) kc_89_14 rfl rfl ?_
    refine xi_ireturn kc_89_15 mr_89 rfl ?_
    show xw J ov 99 94 (4, [(0, .ref 0), (1, .int a9), (2, .int a11), (3, .int a13)], [.int 0], h) _
    refine xi_ift (pc' := 17) kc_94_4 rfl rfl ?_
    refine xi_aload_n (pc' := 18) (x := 0) kc_94_17 rfl rfl ?_
    refine xi_iconst (pc' := 19) (v := (-1)) kc_94_18 rfl rfl ?_
    refine xi_virtual (mj := 90) (as := [.int (-1)]) (st1 := []) (lv0 := [(0, .ref 0), (1, .int (-1))]) kc_94_19 rfl rfl rfl rfl rfl A16 (Nat.le_of_ble_eq_true rfl) (hJ _ _ _ _ (by decide)) (xm_le ml_90 rfl) rfl ?_
    refine xi_iload_n (pc' := 1) (x := (-1)) kc_90_0 rfl rfl ?_
    refine xi_ineg (pc' := 2) (v := 1) kc_90_1 rfl rfl ?_
    refine xi_istore_n (pc' := 3) (lv' := [(2, .int 1), (0, .ref 0), (1, .int (-1))]) kc_90_2 rfl rfl (xm_lt ml_90 rfl) ?_
    refine xi_iload_n (pc' := 4) (x := 1) kc_90_3 rfl rfl ?_
    refine xi_iff (pc' := 7) kc_90_4 rfl rfl ?_
    refine xi_iload_n (pc' := 8) (x := 1) kc_90_7 rfl rfl ?_
    refine xi_aload_n (pc' := 9) (x := 0) kc_90_8 rfl rfl ?_
    refine xi_getfield (pc' := 12) (v := .ref 94) kc_90_9 rfl rfl rfl A16 rfl ?_
    obtain ⟨y18, A18, hy18, ry18⟩ := xk_arr K.1 xD_94
    refine xi_arraylength (pc' := 13) (n := 7) (v := 7) kc_90_12 rfl (xl_lenI (by decide) (by decide) A18 hy18) rfl ?_
    refine xi_cmf (pc' := 16) kc_90_13 rfl rfl ?_
    refine xi_aload_n (pc' := 17) (x := 0) kc_90_16 rfl rfl ?_
    refine xi_getfield (pc' := 20) (v := .ref 94) kc_90_17 rfl rfl rfl A16 rfl ?_
    refine xi_iload_n (pc' := 21) (x := 1) kc_90_20 rfl rfl ?_
    refine xi_dup2 (pc' := 22) kc_90_21 rfl ⟨rfl, rfl⟩ ?_
    obtain ⟨v19, ev19, bv19, dv19⟩ := xj_get hy18 ry18 (i := 1) (by decide) (by decide)
    refine xi_iaload (pc' := 23) (v := v19) kc_90_22 rfl A18 (by decide) rfl (xi_in (by decide) (by rw [hy18]; decide)) ev19 ?_
    refine xi_iconst (pc' := 24) (v := 1) kc_90_23 rfl rfl ?_
    obtain ⟨v20, ev20⟩ : ∃ q : Int32, (v19 : Int32) + 1 = q := ⟨_, rfl⟩
    have rv20 := xc_rng v20
    refine xi_iadd (pc' := 25) (v := v20) kc_90_24 rfl ev20 ?_
    obtain ⟨y21, s21, hy21, ry21⟩ := xj_set (v := v20) hy18 ry18 1 (by first | omega | decide) (by first | omega | decide)
    refine xi_iastore (pc' := 26) (x' := y21) kc_90_25 rfl A18 rfl (xi_in (by decide) (by rw [hy18]; decide)) s21 (fun hh21 eh21 => ?_)
    have K22 := xk_pa K (xk_wa rfl) xD_94 hy21 ry21 eh21
    refine xi_iload_n (pc' := 27) (x := (-1)) kc_90_26 rfl rfl ?_
    refine xi_ireturn kc_90_27 mr_90 rfl ?_
    show xw J ov 99 94 (22, [(0, .ref 0), (1, .int a9), (2, .int a11), (3, .int a13)], [.int (-1)], hh21) _
    refine xi_ireturn kc_94_22 mr_94 rfl ?_
    show xw J ov 100 195 (263, [(4, .int x4), (3, .ref 167), (2, .ref 115), (1, .ref 0), (0, .ref 1000000)], [.int (-1)], hh21) _
    refine xi_aload_n (pc' := 264) (x := 115) kc_195_263 rfl rfl ?_
    refine xi_aload_n (pc' := 265) (x := 1000000) kc_195_264 rfl rfl ?_
    refine xi_iload (pc' := 267) (x := x4) kc_195_265 rfl rfl ?_
    refine xi_iconst (pc' := 268) (v := 1) kc_195_267 rfl rfl ?_
    refine xi_iadd (pc' := 269) (v := v8) kc_195_268 rfl ev8 ?_
    refine xi_ialoadO (pc' := 270) (v := a9) kc_195_269 rfl (by decide) hov0 (xi_in (by omega) (by omega)) ea9 ?_
    refine xi_aload_n (pc' := 271) (x := 1000000) kc_195_270 rfl rfl ?_
    refine xi_iload (pc' := 273) (x := x4) kc_195_271 rfl rfl ?_
    refine xi_iconst (pc' := 274) (v := 2) kc_195_273 rfl rfl ?_
    refine xi_iadd (pc' := 275) (v := v10) kc_195_274 rfl ev10 ?_
    refine xi_ialoadO (pc' := 276) (v := a11) kc_195_275 rfl (by decide) hov0 (xi_in (by omega) (by omega)) ea11 ?_
    refine xi_aload_n (pc' := 277) (x := 1000000) kc_195_276 rfl rfl ?_
    refine xi_iload (pc' := 279) (x := x4) kc_195_277 rfl rfl ?_
    refine xi_iconst (pc' := 280) (v := 3) kc_195_279 rfl rfl ?_
    refine xi_iadd (pc' := 281) (v := v12) kc_195_280 rfl ev12 ?_
    refine xi_ialoadO (pc' := 282) (v := a13) kc_195_281 rfl (by decide) hov0 (xi_in (by omega) (by omega)) ea13 ?_
    obtain ⟨u23, u24, u25, u26, u27, u28, u29, u30, u31, u32, u33, u34, u35, bu23, bu24, bu25, bu26, bu27, bu28, bu29, bu30, bu31, bu32, bu33, bu34, bu35, A36⟩ := xq_115 K.1
    have A37 := ((eh21.2.1 115 (by decide)).trans A36)
    refine xi_virtual (mj := 15) (as := [.int a9, .int a11, .int a13]) (st1 := [.int (-1)]) (lv0 := [(0, .ref 115), (1, .int a9), (2, .int a11), (3, .int a13)]) kc_195_282 rfl rfl rfl rfl rfl A37 (Nat.le_of_ble_eq_true rfl) (hJ _ _ _ _ (by decide)) (xm_le ml_15 rfl) rfl ?_
    refine xi_aload_n (pc' := 1) (x := 115) kc_15_0 rfl rfl ?_
    refine xi_iconst (pc' := 2) (v := 0) kc_15_1 rfl rfl ?_
    refine xi_putfield (pc' := 5) (fs' := [.int 0, .int u24, .ref 116, .ref 117, .ref 118, .ref 119, .ref 120, .ref 121, .ref 122, .ref 123, .ref 124, .ref 125, .ref 126, .ref 127, .ref 128, .ref 129, .int u25, .ref 130, .int u26, .ref 131, .ref 132, .ref 133, .ref 134, .int u27, .ref 135, .ref 136, .ref 137, .ref 138, .ref 139, .ref 140, .ref 141, .ref 142, .int u28, .int u29, .int u30, .ref 143, .ref 144, .ref 145, .ref 146, .ref 147, .ref 148, .int u31, .ref 149, .ref 150, .ref 151, .int u32, .ref 152, .ref 153, .ref 154, .ref 155, .ref 156, .ref 157, .ref 158, .ref 159, .int u33, .ref 160, .int u34, .ref 161, .ref 162, .ref 163, .ref 164, .int u35, .ref 165, .ref 166]) kc_15_2 rfl rfl rfl A37 rfl rfl rfl (Nat.le_of_ble_eq_true rfl) rfl (fun hh39 eh38 => ?_)
    have K40 := xk_pf (k := 0) (v := 0) K22 (xk_wf rfl) xD_115 A37 rfl (by first | omega | decide) (by first | omega | decide) eh38 rfl
    refine xi_iload_n (pc' := 6) (x := a9) kc_15_5 rfl rfl ?_
    refine xi_static (mj := 10) (as := [.int a9]) (st1 := []) (lv0 := [(0, .int a9)]) kc_15_6 rfl rfl (Nat.le_of_ble_eq_true rfl) rfl rfl (Nat.le_of_ble_eq_true rfl) (hJ _ _ _ _ (by decide)) (xm_le ml_10 rfl) rfl ?_
    refine xi_iload_n (pc' := 1) (x := a9) kc_10_0 rfl rfl ?_
    refine xi_iconst (pc' := 2) (v := 0) kc_10_1 rfl rfl ?_
    refine xi_iconst (pc' := 3) (v := 5) kc_10_2 rfl rfl ?_
    refine xi_static (mj := 11) (as := [.int a9, .int 0, .int 5]) (st1 := []) (lv0 := [(0, .int a9), (1, .int 0), (2, .int 5)]) kc_10_3 rfl rfl (Nat.le_of_ble_eq_true rfl) rfl rfl (Nat.le_of_ble_eq_true rfl) (hJ _ _ _ _ (by decide)) (xm_le ml_11 rfl) rfl ?_
    refine xi_iload_n (pc' := 1) (x := a9) kc_11_0 rfl rfl ?_
    refine xi_iload_n (pc' := 2) (x := 0) kc_11_1 rfl rfl ?_
    refine xi_cmt (pc' := 14) kc_11_2 rfl (xc_lt_t (X := a9.toInt) (Y := 0) rfl (by decide) (by omega)) ?_
    refine xi_iconst (pc' := 15) (v := 0) kc_11_14 rfl rfl ?_
    refine xi_ireturn kc_11_15 mr_11 rfl ?_
    show xw J ov 98 10 (6, [(0, .int a9)], [.int 0], hh39) _
    refine xi_ireturn kc_10_6 mr_10 rfl ?_
    show xw J ov 99 15 (9, [(0, .ref 115), (1, .int a9), (2, .int a11), (3, .int a13)], [.int 0], hh39) _
    refine xi_ift (pc' := 22) kc_15_9 rfl rfl ?_
    refine xi_aload_n (pc' := 23) (x := 115) kc_15_22 rfl rfl ?_
    refine xi_iconst (pc' := 24) (v := (-1)) kc_15_23 rfl rfl ?_
    refine xi_virtual (mj := 12) (as := [.int (-1)]) (st1 := []) (lv0 := [(0, .ref 115), (1, .int (-1))]) kc_15_24 rfl rfl rfl rfl rfl eh38.1 (Nat.le_of_ble_eq_true rfl) (hJ _ _ _ _ (by decide)) (xm_le ml_12 rfl) rfl ?_
    refine xi_aload_n (pc' := 1) (x := 115) kc_12_0 rfl rfl ?_
    refine xi_getfield (pc' := 4) (v := .ref 140) kc_12_1 rfl rfl rfl eh38.1 rfl ?_
    refine xi_iload_n (pc' := 5) (x := (-1)) kc_12_4 rfl rfl ?_
    refine xi_ineg (pc' := 6) (v := 1) kc_12_5 rfl rfl ?_
    refine xi_dup2 (pc' := 7) kc_12_6 rfl ⟨rfl, rfl⟩ ?_
    obtain ⟨y41, A41, hy41, ry41⟩ := xk_arr K.1 xD_140
    obtain ⟨v42, ev42, bv42, dv42⟩ := xj_get hy41 ry41 (i := 1) (by decide) (by decide)
    have A43 := ((eh38.2.1 140 (by decide)).trans ((eh21.2.1 140 (by decide)).trans A41))
    refine xi_iaload (pc' := 8) (v := v42) kc_12_7 rfl A43 (by decide) rfl (xi_in (by decide) (by rw [hy41]; decide)) ev42 ?_
    refine xi_iconst (pc' := 9) (v := 1) kc_12_8 rfl rfl ?_
    obtain ⟨v44, ev44⟩ : ∃ q : Int32, (v42 : Int32) + 1 = q := ⟨_, rfl⟩
    have rv44 := xc_rng v44
    refine xi_iadd (pc' := 10) (v := v44) kc_12_9 rfl ev44 ?_
    obtain ⟨y45, s45, hy45, ry45⟩ := xj_set (v := v44) hy41 ry41 1 (by first | omega | decide) (by first | omega | decide)
    refine xi_iastore (pc' := 11) (x' := y45) kc_12_10 rfl A43 rfl (xi_in (by decide) (by rw [hy41]; decide)) s45 (fun hh45 eh45 => ?_)
    have K46 := xk_pa K40 (xk_wa rfl) xD_140 hy45 ry45 eh45
    refine xi_iload_n (pc' := 12) (x := (-1)) kc_12_11 rfl rfl ?_
    refine xi_ireturn kc_12_12 mr_12 rfl ?_
    show xw J ov 99 15 (27, [(0, .ref 115), (1, .int a9), (2, .int a11), (3, .int a13)], [.int (-1)], hh45) _
    refine xi_ireturn kc_15_27 mr_15 rfl ?_
    show xw J ov 100 195 (285, [(4, .int x4), (3, .ref 167), (2, .ref 115), (1, .ref 0), (0, .ref 1000000)], [.int (-1), .int (-1)], hh45) _
    refine xi_cmt (pc' := 1501) kc_195_285 rfl rfl ?_
    obtain ⟨v47, ev47⟩ : ∃ q : Int32, x4 + 6 = q := ⟨_, rfl⟩
    have zv47 : v47.toInt = (x4.toInt + 6) := by rw [← ev47]; exact (xz_add (X := x4.toInt) (Y := 6) rfl (by decide) (by omega) (by omega)).trans (by omega)
    refine xi_iinc (pc' := 1504) (x := x4) (v := v47) (lv' := [(4, .int v47), (3, .ref 167), (2, .ref 115), (1, .ref 0), (0, .ref 1000000)]) kc_195_1501 rfl rfl ev47 rfl (xm_lt ml_195 rfl) ?_
    refine xi_goto (pc' := 23) kc_195_1504 rfl ?_
    have A48 := ((eh45.2.1 13 (by decide)).trans ((eh38.2.1 13 (by decide)).trans ((eh21.2.1 13 (by decide)).trans A1)))
    have A49 := ((eh45.2.1 122 (by decide)).trans ((eh38.2.1 122 (by decide)).trans ((eh21.2.1 122 (by decide)).trans A2)))
    have A50 := ((eh45.2.1 16 (by decide)).trans ((eh38.2.1 16 (by decide)).trans ((eh21.2.1 16 (by decide)).trans A3)))
    have A51 := ((eh45.2.1 19 (by decide)).trans ((eh38.2.1 19 (by decide)).trans ((eh21.2.1 19 (by decide)).trans A4)))
    have A52 := ((eh45.2.1 22 (by decide)).trans ((eh38.2.1 22 (by decide)).trans ((eh21.2.1 22 (by decide)).trans A5)))
    have A53 := ((eh45.2.1 25 (by decide)).trans ((eh38.2.1 25 (by decide)).trans ((eh21.2.1 25 (by decide)).trans A6)))
    have A54 := ((eh45.2.1 28 (by decide)).trans ((eh38.2.1 28 (by decide)).trans ((eh21.2.1 28 (by decide)).trans A7)))
    exact kk v47 hh45 (by omega) K46 ⟨(xE_mk A48 A49 H0), (xE_mk A50 A49 H1), (xE_mk A51 A49 H2), (xE_mk A52 A49 H3), (xE_mk A53 A49 H4), (xE_mk A54 A49 H5)⟩
  · refine xi_iff (pc' := 4) kc_89_1 rfl (xc_lt_f (X := a9.toInt) (Y := 0) rfl (by decide) (by omega)) ?_
    refine xi_iload_n (pc' := 5) (x := a9) kc_89_4 rfl rfl ?_
    refine xi_bipush (pc' := 7) (v := 6) kc_89_5 rfl rfl ?_
    by_cases c55 : 6 ≤ a9.toInt
    · refine xi_cmt (pc' := 14) kc_89_7 rfl (xc_ge_t (X := a9.toInt) (Y := 6) rfl (by decide) (by omega)) ?_
      refine xi_iconst (pc' := 15) (v := 0) kc_89_14 rfl rfl ?_
      refine xi_ireturn kc_89_15 mr_89 rfl ?_
      show xw J ov 99 94 (4, [(0, .ref 0), (1, .int a9), (2, .int a11), (3, .int a13)], [.int 0], h) _
      refine xi_ift (pc' := 17) kc_94_4 rfl rfl ?_
      refine xi_aload_n (pc' := 18) (x := 0) kc_94_17 rfl rfl ?_
      refine xi_iconst (pc' := 19) (v := (-1)) kc_94_18 rfl rfl ?_
      refine xi_virtual (mj := 90) (as := [.int (-1)]) (st1 := []) (lv0 := [(0, .ref 0), (1, .int (-1))]) kc_94_19 rfl rfl rfl rfl rfl A16 (Nat.le_of_ble_eq_true rfl) (hJ _ _ _ _ (by decide)) (xm_le ml_90 rfl) rfl ?_
      refine xi_iload_n (pc' := 1) (x := (-1)) kc_90_0 rfl rfl ?_
      refine xi_ineg (pc' := 2) (v := 1) kc_90_1 rfl rfl ?_
      refine xi_istore_n (pc' := 3) (lv' := [(2, .int 1), (0, .ref 0), (1, .int (-1))]) kc_90_2 rfl rfl (xm_lt ml_90 rfl) ?_
      refine xi_iload_n (pc' := 4) (x := 1) kc_90_3 rfl rfl ?_
      refine xi_iff (pc' := 7) kc_90_4 rfl rfl ?_
      refine xi_iload_n (pc' := 8) (x := 1) kc_90_7 rfl rfl ?_
      refine xi_aload_n (pc' := 9) (x := 0) kc_90_8 rfl rfl ?_
      refine xi_getfield (pc' := 12) (v := .ref 94) kc_90_9 rfl rfl rfl A16 rfl ?_
      obtain ⟨y56, A56, hy56, ry56⟩ := xk_arr K.1 xD_94
      refine xi_arraylength (pc' := 13) (n := 7) (v := 7) kc_90_12 rfl (xl_lenI (by decide) (by decide) A56 hy56) rfl ?_
      refine xi_cmf (pc' := 16) kc_90_13 rfl rfl ?_
      refine xi_aload_n (pc' := 17) (x := 0) kc_90_16 rfl rfl ?_
      refine xi_getfield (pc' := 20) (v := .ref 94) kc_90_17 rfl rfl rfl A16 rfl ?_
      refine xi_iload_n (pc' := 21) (x := 1) kc_90_20 rfl rfl ?_
      refine xi_dup2 (pc' := 22) kc_90_21 rfl ⟨rfl, rfl⟩ ?_
      obtain ⟨v57, ev57, bv57, dv57⟩ := xj_get hy56 ry56 (i := 1) (by decide) (by decide)
      refine xi_iaload (pc' := 23) (v := v57) kc_90_22 rfl A56 (by decide) rfl (xi_in (by decide) (by rw [hy56]; decide)) ev57 ?_
      refine xi_iconst (pc' := 24) (v := 1) kc_90_23 rfl rfl ?_
      obtain ⟨v58, ev58⟩ : ∃ q : Int32, (v57 : Int32) + 1 = q := ⟨_, rfl⟩
      have rv58 := xc_rng v58
      refine xi_iadd (pc' := 25) (v := v58) kc_90_24 rfl ev58 ?_
      obtain ⟨y59, s59, hy59, ry59⟩ := xj_set (v := v58) hy56 ry56 1 (by first | omega | decide) (by first | omega | decide)
      refine xi_iastore (pc' := 26) (x' := y59) kc_90_25 rfl A56 rfl (xi_in (by decide) (by rw [hy56]; decide)) s59 (fun hh59 eh59 => ?_)
      have K60 := xk_pa K (xk_wa rfl) xD_94 hy59 ry59 eh59
      refine xi_iload_n (pc' := 27) (x := (-1)) kc_90_26 rfl rfl ?_
      refine xi_ireturn kc_90_27 mr_90 rfl ?_
      show xw J ov 99 94 (22, [(0, .ref 0), (1, .int a9), (2, .int a11), (3, .int a13)], [.int (-1)], hh59) _
      refine xi_ireturn kc_94_22 mr_94 rfl ?_
      show xw J ov 100 195 (263, [(4, .int x4), (3, .ref 167), (2, .ref 115), (1, .ref 0), (0, .ref 1000000)], [.int (-1)], hh59) _
      refine xi_aload_n (pc' := 264) (x := 115) kc_195_263 rfl rfl ?_
      refine xi_aload_n (pc' := 265) (x := 1000000) kc_195_264 rfl rfl ?_
      refine xi_iload (pc' := 267) (x := x4) kc_195_265 rfl rfl ?_
      refine xi_iconst (pc' := 268) (v := 1) kc_195_267 rfl rfl ?_
      refine xi_iadd (pc' := 269) (v := v8) kc_195_268 rfl ev8 ?_
      refine xi_ialoadO (pc' := 270) (v := a9) kc_195_269 rfl (by decide) hov0 (xi_in (by omega) (by omega)) ea9 ?_
      refine xi_aload_n (pc' := 271) (x := 1000000) kc_195_270 rfl rfl ?_
      refine xi_iload (pc' := 273) (x := x4) kc_195_271 rfl rfl ?_
      refine xi_iconst (pc' := 274) (v := 2) kc_195_273 rfl rfl ?_
      refine xi_iadd (pc' := 275) (v := v10) kc_195_274 rfl ev10 ?_
      refine xi_ialoadO (pc' := 276) (v := a11) kc_195_275 rfl (by decide) hov0 (xi_in (by omega) (by omega)) ea11 ?_
      refine xi_aload_n (pc' := 277) (x := 1000000) kc_195_276 rfl rfl ?_
      refine xi_iload (pc' := 279) (x := x4) kc_195_277 rfl rfl ?_
      refine xi_iconst (pc' := 280) (v := 3) kc_195_279 rfl rfl ?_
      refine xi_iadd (pc' := 281) (v := v12) kc_195_280 rfl ev12 ?_
      refine xi_ialoadO (pc' := 282) (v := a13) kc_195_281 rfl (by decide) hov0 (xi_in (by omega) (by omega)) ea13 ?_
      obtain ⟨u61, u62, u63, u64, u65, u66, u67, u68, u69, u70, u71, u72, u73, bu61, bu62, bu63, bu64, bu65, bu66, bu67, bu68, bu69, bu70, bu71, bu72, bu73, A74⟩ := xq_115 K.1
      have A75 := ((eh59.2.1 115 (by decide)).trans A74)
      refine xi_virtual (mj := 15) (as := [.int a9, .int a11, .int a13]) (st1 := [.int (-1)]) (lv0 := [(0, .ref 115), (1, .int a9), (2, .int a11), (3, .int a13)]) kc_195_282 rfl rfl rfl rfl rfl A75 (Nat.le_of_ble_eq_true rfl) (hJ _ _ _ _ (by decide)) (xm_le ml_15 rfl) rfl ?_
      refine xi_aload_n (pc' := 1) (x := 115) kc_15_0 rfl rfl ?_
      refine xi_iconst (pc' := 2) (v := 0) kc_15_1 rfl rfl ?_
      refine xi_putfield (pc' := 5) (fs' := [.int 0, .int u62, .ref 116, .ref 117, .ref 118, .ref 119, .ref 120, .ref 121, .ref 122, .ref 123, .ref 124, .ref 125, .ref 126, .ref 127, .ref 128, .ref 129, .int u63, .ref 130, .int u64, .ref 131, .ref 132, .ref 133, .ref 134, .int u65, .ref 135, .ref 136, .ref 137, .ref 138, .ref 139, .ref 140, .ref 141, .ref 142, .int u66, .int u67, .int u68, .ref 143, .ref 144, .ref 145, .ref 146, .ref 147, .ref 148, .int u69, .ref 149, .ref 150, .ref 151, .int u70, .ref 152, .ref 153, .ref 154, .ref 155, .ref 156, .ref 157, .ref 158, .ref 159, .int u71, .ref 160, .int u72, .ref 161, .ref 162, .ref 163, .ref 164, .int u73, .ref 165, .ref 166]) kc_15_2 rfl rfl rfl A75 rfl rfl rfl (Nat.le_of_ble_eq_true rfl) rfl (fun hh77 eh76 => ?_)
      have K78 := xk_pf (k := 0) (v := 0) K60 (xk_wf rfl) xD_115 A75 rfl (by first | omega | decide) (by first | omega | decide) eh76 rfl
      refine xi_iload_n (pc' := 6) (x := a9) kc_15_5 rfl rfl ?_
      refine xi_static (mj := 10) (as := [.int a9]) (st1 := []) (lv0 := [(0, .int a9)]) kc_15_6 rfl rfl (Nat.le_of_ble_eq_true rfl) rfl rfl (Nat.le_of_ble_eq_true rfl) (hJ _ _ _ _ (by decide)) (xm_le ml_10 rfl) rfl ?_
      refine xi_iload_n (pc' := 1) (x := a9) kc_10_0 rfl rfl ?_
      refine xi_iconst (pc' := 2) (v := 0) kc_10_1 rfl rfl ?_
      refine xi_iconst (pc' := 3) (v := 5) kc_10_2 rfl rfl ?_
      refine xi_static (mj := 11) (as := [.int a9, .int 0, .int 5]) (st1 := []) (lv0 := [(0, .int a9), (1, .int 0), (2, .int 5)]) kc_10_3 rfl rfl (Nat.le_of_ble_eq_true rfl) rfl rfl (Nat.le_of_ble_eq_true rfl) (hJ _ _ _ _ (by decide)) (xm_le ml_11 rfl) rfl ?_
      refine xi_iload_n (pc' := 1) (x := a9) kc_11_0 rfl rfl ?_
      refine xi_iload_n (pc' := 2) (x := 0) kc_11_1 rfl rfl ?_
      refine xi_cmf (pc' := 5) kc_11_2 rfl (xc_lt_f (X := a9.toInt) (Y := 0) rfl (by decide) (by omega)) ?_
      refine xi_iload_n (pc' := 6) (x := a9) kc_11_5 rfl rfl ?_
      refine xi_iload_n (pc' := 7) (x := 5) kc_11_6 rfl rfl ?_
      refine xi_cmt (pc' := 14) kc_11_7 rfl (xc_gt_t (X := a9.toInt) (Y := 5) rfl (by decide) (by omega)) ?_
      refine xi_iconst (pc' := 15) (v := 0) kc_11_14 rfl rfl ?_
      refine xi_ireturn kc_11_15 mr_11 rfl ?_
      show xw J ov 98 10 (6, [(0, .int a9)], [.int 0], hh77) _
      refine xi_ireturn kc_10_6 mr_10 rfl ?_
      show xw J ov 99 15 (9, [(0, .ref 115), (1, .int a9), (2, .int a11), (3, .int a13)], [.int 0], hh77) _
      refine xi_ift (pc' := 22) kc_15_9 rfl rfl ?_
      refine xi_aload_n (pc' := 23) (x := 115) kc_15_22 rfl rfl ?_
      refine xi_iconst (pc' := 24) (v := (-1)) kc_15_23 rfl rfl ?_
      refine xi_virtual (mj := 12) (as := [.int (-1)]) (st1 := []) (lv0 := [(0, .ref 115), (1, .int (-1))]) kc_15_24 rfl rfl rfl rfl rfl eh76.1 (Nat.le_of_ble_eq_true rfl) (hJ _ _ _ _ (by decide)) (xm_le ml_12 rfl) rfl ?_
      refine xi_aload_n (pc' := 1) (x := 115) kc_12_0 rfl rfl ?_
      refine xi_getfield (pc' := 4) (v := .ref 140) kc_12_1 rfl rfl rfl eh76.1 rfl ?_
      refine xi_iload_n (pc' := 5) (x := (-1)) kc_12_4 rfl rfl ?_
      refine xi_ineg (pc' := 6) (v := 1) kc_12_5 rfl rfl ?_
      refine xi_dup2 (pc' := 7) kc_12_6 rfl ⟨rfl, rfl⟩ ?_
      obtain ⟨y79, A79, hy79, ry79⟩ := xk_arr K.1 xD_140
      obtain ⟨v80, ev80, bv80, dv80⟩ := xj_get hy79 ry79 (i := 1) (by decide) (by decide)
      have A81 := ((eh76.2.1 140 (by decide)).trans ((eh59.2.1 140 (by decide)).trans A79))
      refine xi_iaload (pc' := 8) (v := v80) kc_12_7 rfl A81 (by decide) rfl (xi_in (by decide) (by rw [hy79]; decide)) ev80 ?_
      refine xi_iconst (pc' := 9) (v := 1) kc_12_8 rfl rfl ?_
      obtain ⟨v82, ev82⟩ : ∃ q : Int32, (v80 : Int32) + 1 = q := ⟨_, rfl⟩
      have rv82 := xc_rng v82
      refine xi_iadd (pc' := 10) (v := v82) kc_12_9 rfl ev82 ?_
      obtain ⟨y83, s83, hy83, ry83⟩ := xj_set (v := v82) hy79 ry79 1 (by first | omega | decide) (by first | omega | decide)
      refine xi_iastore (pc' := 11) (x' := y83) kc_12_10 rfl A81 rfl (xi_in (by decide) (by rw [hy79]; decide)) s83 (fun hh83 eh83 => ?_)
      have K84 := xk_pa K78 (xk_wa rfl) xD_140 hy83 ry83 eh83
      refine xi_iload_n (pc' := 12) (x := (-1)) kc_12_11 rfl rfl ?_
      refine xi_ireturn kc_12_12 mr_12 rfl ?_
      show xw J ov 99 15 (27, [(0, .ref 115), (1, .int a9), (2, .int a11), (3, .int a13)], [.int (-1)], hh83) _
      refine xi_ireturn kc_15_27 mr_15 rfl ?_
      show xw J ov 100 195 (285, [(4, .int x4), (3, .ref 167), (2, .ref 115), (1, .ref 0), (0, .ref 1000000)], [.int (-1), .int (-1)], hh83) _
      refine xi_cmt (pc' := 1501) kc_195_285 rfl rfl ?_
      obtain ⟨v85, ev85⟩ : ∃ q : Int32, x4 + 6 = q := ⟨_, rfl⟩
      have zv85 : v85.toInt = (x4.toInt + 6) := by rw [← ev85]; exact (xz_add (X := x4.toInt) (Y := 6) rfl (by decide) (by omega) (by omega)).trans (by omega)
      refine xi_iinc (pc' := 1504) (x := x4) (v := v85) (lv' := [(4, .int v85), (3, .ref 167), (2, .ref 115), (1, .ref 0), (0, .ref 1000000)]) kc_195_1501 rfl rfl ev85 rfl (xm_lt ml_195 rfl) ?_
      refine xi_goto (pc' := 23) kc_195_1504 rfl ?_
      have A86 := ((eh83.2.1 13 (by decide)).trans ((eh76.2.1 13 (by decide)).trans ((eh59.2.1 13 (by decide)).trans A1)))
      have A87 := ((eh83.2.1 122 (by decide)).trans ((eh76.2.1 122 (by decide)).trans ((eh59.2.1 122 (by decide)).trans A2)))
      have A88 := ((eh83.2.1 16 (by decide)).trans ((eh76.2.1 16 (by decide)).trans ((eh59.2.1 16 (by decide)).trans A3)))
      have A89 := ((eh83.2.1 19 (by decide)).trans ((eh76.2.1 19 (by decide)).trans ((eh59.2.1 19 (by decide)).trans A4)))
      have A90 := ((eh83.2.1 22 (by decide)).trans ((eh76.2.1 22 (by decide)).trans ((eh59.2.1 22 (by decide)).trans A5)))
      have A91 := ((eh83.2.1 25 (by decide)).trans ((eh76.2.1 25 (by decide)).trans ((eh59.2.1 25 (by decide)).trans A6)))
      have A92 := ((eh83.2.1 28 (by decide)).trans ((eh76.2.1 28 (by decide)).trans ((eh59.2.1 28 (by decide)).trans A7)))
      exact kk v85 hh83 (by omega) K84 ⟨(xE_mk A86 A87 H0), (xE_mk A88 A87 H1), (xE_mk A89 A87 H2), (xE_mk A90 A87 H3), (xE_mk A91 A87 H4), (xE_mk A92 A87 H5)⟩
    · refine xi_cmf (pc' := 10) kc_89_7 rfl (xc_ge_f (X := a9.toInt) (Y := 6) rfl (by decide) (by omega)) ?_
      refine xi_iconst (pc' := 11) (v := 1) kc_89_10 rfl rfl ?_
      refine xi_goto (pc' := 15) kc_89_11 rfl ?_
      refine xi_ireturn kc_89_15 mr_89 rfl ?_
      show xw J ov 99 94 (4, [(0, .ref 0), (1, .int a9), (2, .int a11), (3, .int a13)], [.int 1], h) _
      refine xi_iff (pc' := 7) kc_94_4 rfl rfl ?_
      refine xi_iload_n (pc' := 8) (x := a11) kc_94_7 rfl rfl ?_
      by_cases c93 : a11.toInt < 0
      · refine xi_ift (pc' := 17) kc_94_8 rfl (xc_lt_t (X := a11.toInt) (Y := 0) rfl (by decide) (by omega)) ?_
        refine xi_aload_n (pc' := 18) (x := 0) kc_94_17 rfl rfl ?_
        refine xi_iconst (pc' := 19) (v := (-1)) kc_94_18 rfl rfl ?_
        refine xi_virtual (mj := 90) (as := [.int (-1)]) (st1 := []) (lv0 := [(0, .ref 0), (1, .int (-1))]) kc_94_19 rfl rfl rfl rfl rfl A16 (Nat.le_of_ble_eq_true rfl) (hJ _ _ _ _ (by decide)) (xm_le ml_90 rfl) rfl ?_
        refine xi_iload_n (pc' := 1) (x := (-1)) kc_90_0 rfl rfl ?_
        refine xi_ineg (pc' := 2) (v := 1) kc_90_1 rfl rfl ?_
        refine xi_istore_n (pc' := 3) (lv' := [(2, .int 1), (0, .ref 0), (1, .int (-1))]) kc_90_2 rfl rfl (xm_lt ml_90 rfl) ?_
        refine xi_iload_n (pc' := 4) (x := 1) kc_90_3 rfl rfl ?_
        refine xi_iff (pc' := 7) kc_90_4 rfl rfl ?_
        refine xi_iload_n (pc' := 8) (x := 1) kc_90_7 rfl rfl ?_
        refine xi_aload_n (pc' := 9) (x := 0) kc_90_8 rfl rfl ?_
        refine xi_getfield (pc' := 12) (v := .ref 94) kc_90_9 rfl rfl rfl A16 rfl ?_
        obtain ⟨y94, A94, hy94, ry94⟩ := xk_arr K.1 xD_94
        refine xi_arraylength (pc' := 13) (n := 7) (v := 7) kc_90_12 rfl (xl_lenI (by decide) (by decide) A94 hy94) rfl ?_
        refine xi_cmf (pc' := 16) kc_90_13 rfl rfl ?_
        refine xi_aload_n (pc' := 17) (x := 0) kc_90_16 rfl rfl ?_
        refine xi_getfield (pc' := 20) (v := .ref 94) kc_90_17 rfl rfl rfl A16 rfl ?_
        refine xi_iload_n (pc' := 21) (x := 1) kc_90_20 rfl rfl ?_
        refine xi_dup2 (pc' := 22) kc_90_21 rfl ⟨rfl, rfl⟩ ?_
        obtain ⟨v95, ev95, bv95, dv95⟩ := xj_get hy94 ry94 (i := 1) (by decide) (by decide)
        refine xi_iaload (pc' := 23) (v := v95) kc_90_22 rfl A94 (by decide) rfl (xi_in (by decide) (by rw [hy94]; decide)) ev95 ?_
        refine xi_iconst (pc' := 24) (v := 1) kc_90_23 rfl rfl ?_
        obtain ⟨v96, ev96⟩ : ∃ q : Int32, (v95 : Int32) + 1 = q := ⟨_, rfl⟩
        have rv96 := xc_rng v96
        refine xi_iadd (pc' := 25) (v := v96) kc_90_24 rfl ev96 ?_
        obtain ⟨y97, s97, hy97, ry97⟩ := xj_set (v := v96) hy94 ry94 1 (by first | omega | decide) (by first | omega | decide)
        refine xi_iastore (pc' := 26) (x' := y97) kc_90_25 rfl A94 rfl (xi_in (by decide) (by rw [hy94]; decide)) s97 (fun hh97 eh97 => ?_)
        have K98 := xk_pa K (xk_wa rfl) xD_94 hy97 ry97 eh97
        refine xi_iload_n (pc' := 27) (x := (-1)) kc_90_26 rfl rfl ?_
        refine xi_ireturn kc_90_27 mr_90 rfl ?_
        show xw J ov 99 94 (22, [(0, .ref 0), (1, .int a9), (2, .int a11), (3, .int a13)], [.int (-1)], hh97) _
        refine xi_ireturn kc_94_22 mr_94 rfl ?_
        show xw J ov 100 195 (263, [(4, .int x4), (3, .ref 167), (2, .ref 115), (1, .ref 0), (0, .ref 1000000)], [.int (-1)], hh97) _
        refine xi_aload_n (pc' := 264) (x := 115) kc_195_263 rfl rfl ?_
        refine xi_aload_n (pc' := 265) (x := 1000000) kc_195_264 rfl rfl ?_
        refine xi_iload (pc' := 267) (x := x4) kc_195_265 rfl rfl ?_
        refine xi_iconst (pc' := 268) (v := 1) kc_195_267 rfl rfl ?_
        refine xi_iadd (pc' := 269) (v := v8) kc_195_268 rfl ev8 ?_
        refine xi_ialoadO (pc' := 270) (v := a9) kc_195_269 rfl (by decide) hov0 (xi_in (by omega) (by omega)) ea9 ?_
        refine xi_aload_n (pc' := 271) (x := 1000000) kc_195_270 rfl rfl ?_
        refine xi_iload (pc' := 273) (x := x4) kc_195_271 rfl rfl ?_
        refine xi_iconst (pc' := 274) (v := 2) kc_195_273 rfl rfl ?_
        refine xi_iadd (pc' := 275) (v := v10) kc_195_274 rfl ev10 ?_
        refine xi_ialoadO (pc' := 276) (v := a11) kc_195_275 rfl (by decide) hov0 (xi_in (by omega) (by omega)) ea11 ?_
        refine xi_aload_n (pc' := 277) (x := 1000000) kc_195_276 rfl rfl ?_
        refine xi_iload (pc' := 279) (x := x4) kc_195_277 rfl rfl ?_
        refine xi_iconst (pc' := 280) (v := 3) kc_195_279 rfl rfl ?_
        refine xi_iadd (pc' := 281) (v := v12) kc_195_280 rfl ev12 ?_
        refine xi_ialoadO (pc' := 282) (v := a13) kc_195_281 rfl (by decide) hov0 (xi_in (by omega) (by omega)) ea13 ?_
        obtain ⟨u99, u100, u101, u102, u103, u104, u105, u106, u107, u108, u109, u110, u111, bu99, bu100, bu101, bu102, bu103, bu104, bu105, bu106, bu107, bu108, bu109, bu110, bu111, A112⟩ := xq_115 K.1
        have A113 := ((eh97.2.1 115 (by decide)).trans A112)
        refine xi_virtual (mj := 15) (as := [.int a9, .int a11, .int a13]) (st1 := [.int (-1)]) (lv0 := [(0, .ref 115), (1, .int a9), (2, .int a11), (3, .int a13)]) kc_195_282 rfl rfl rfl rfl rfl A113 (Nat.le_of_ble_eq_true rfl) (hJ _ _ _ _ (by decide)) (xm_le ml_15 rfl) rfl ?_
        refine xi_aload_n (pc' := 1) (x := 115) kc_15_0 rfl rfl ?_
        refine xi_iconst (pc' := 2) (v := 0) kc_15_1 rfl rfl ?_
        refine xi_putfield (pc' := 5) (fs' := [.int 0, .int u100, .ref 116, .ref 117, .ref 118, .ref 119, .ref 120, .ref 121, .ref 122, .ref 123, .ref 124, .ref 125, .ref 126, .ref 127, .ref 128, .ref 129, .int u101, .ref 130, .int u102, .ref 131, .ref 132, .ref 133, .ref 134, .int u103, .ref 135, .ref 136, .ref 137, .ref 138, .ref 139, .ref 140, .ref 141, .ref 142, .int u104, .int u105, .int u106, .ref 143, .ref 144, .ref 145, .ref 146, .ref 147, .ref 148, .int u107, .ref 149, .ref 150, .ref 151, .int u108, .ref 152, .ref 153, .ref 154, .ref 155, .ref 156, .ref 157, .ref 158, .ref 159, .int u109, .ref 160, .int u110, .ref 161, .ref 162, .ref 163, .ref 164, .int u111, .ref 165, .ref 166]) kc_15_2 rfl rfl rfl A113 rfl rfl rfl (Nat.le_of_ble_eq_true rfl) rfl (fun hh115 eh114 => ?_)
        have K116 := xk_pf (k := 0) (v := 0) K98 (xk_wf rfl) xD_115 A113 rfl (by first | omega | decide) (by first | omega | decide) eh114 rfl
        refine xi_iload_n (pc' := 6) (x := a9) kc_15_5 rfl rfl ?_
        refine xi_static (mj := 10) (as := [.int a9]) (st1 := []) (lv0 := [(0, .int a9)]) kc_15_6 rfl rfl (Nat.le_of_ble_eq_true rfl) rfl rfl (Nat.le_of_ble_eq_true rfl) (hJ _ _ _ _ (by decide)) (xm_le ml_10 rfl) rfl ?_
        refine xi_iload_n (pc' := 1) (x := a9) kc_10_0 rfl rfl ?_
        refine xi_iconst (pc' := 2) (v := 0) kc_10_1 rfl rfl ?_
        refine xi_iconst (pc' := 3) (v := 5) kc_10_2 rfl rfl ?_
        refine xi_static (mj := 11) (as := [.int a9, .int 0, .int 5]) (st1 := []) (lv0 := [(0, .int a9), (1, .int 0), (2, .int 5)]) kc_10_3 rfl rfl (Nat.le_of_ble_eq_true rfl) rfl rfl (Nat.le_of_ble_eq_true rfl) (hJ _ _ _ _ (by decide)) (xm_le ml_11 rfl) rfl ?_
        refine xi_iload_n (pc' := 1) (x := a9) kc_11_0 rfl rfl ?_
        refine xi_iload_n (pc' := 2) (x := 0) kc_11_1 rfl rfl ?_
        refine xi_cmf (pc' := 5) kc_11_2 rfl (xc_lt_f (X := a9.toInt) (Y := 0) rfl (by decide) (by omega)) ?_
        refine xi_iload_n (pc' := 6) (x := a9) kc_11_5 rfl rfl ?_
        refine xi_iload_n (pc' := 7) (x := 5) kc_11_6 rfl rfl ?_
        refine xi_cmf (pc' := 10) kc_11_7 rfl (xc_gt_f (X := a9.toInt) (Y := 5) rfl (by decide) (by omega)) ?_
        refine xi_iconst (pc' := 11) (v := 1) kc_11_10 rfl rfl ?_
        refine xi_goto (pc' := 15) kc_11_11 rfl ?_
        refine xi_ireturn kc_11_15 mr_11 rfl ?_
        show xw J ov 98 10 (6, [(0, .int a9)], [.int 1], hh115) _
        refine xi_ireturn kc_10_6 mr_10 rfl ?_
        show xw J ov 99 15 (9, [(0, .ref 115), (1, .int a9), (2, .int a11), (3, .int a13)], [.int 1], hh115) _
        refine xi_iff (pc' := 12) kc_15_9 rfl rfl ?_
        refine xi_iload_n (pc' := 13) (x := a11) kc_15_12 rfl rfl ?_
        refine xi_iconst (pc' := 14) (v := 0) kc_15_13 rfl rfl ?_
        refine xi_bipush (pc' := 16) (v := 23) kc_15_14 rfl rfl ?_
        refine xi_static (mj := 11) (as := [.int a11, .int 0, .int 23]) (st1 := []) (lv0 := [(0, .int a11), (1, .int 0), (2, .int 23)]) kc_15_16 rfl rfl (Nat.le_of_ble_eq_true rfl) rfl rfl (Nat.le_of_ble_eq_true rfl) (hJ _ _ _ _ (by decide)) (xm_le ml_11 rfl) rfl ?_
        refine xi_iload_n (pc' := 1) (x := a11) kc_11_0 rfl rfl ?_
        refine xi_iload_n (pc' := 2) (x := 0) kc_11_1 rfl rfl ?_
        refine xi_cmt (pc' := 14) kc_11_2 rfl (xc_lt_t (X := a11.toInt) (Y := 0) rfl (by decide) (by omega)) ?_
        refine xi_iconst (pc' := 15) (v := 0) kc_11_14 rfl rfl ?_
        refine xi_ireturn kc_11_15 mr_11 rfl ?_
        show xw J ov 99 15 (19, [(0, .ref 115), (1, .int a9), (2, .int a11), (3, .int a13)], [.int 0], hh115) _
        refine xi_iff (pc' := 22) kc_15_19 rfl rfl ?_
        refine xi_aload_n (pc' := 23) (x := 115) kc_15_22 rfl rfl ?_
        refine xi_iconst (pc' := 24) (v := (-1)) kc_15_23 rfl rfl ?_
        refine xi_virtual (mj := 12) (as := [.int (-1)]) (st1 := []) (lv0 := [(0, .ref 115), (1, .int (-1))]) kc_15_24 rfl rfl rfl rfl rfl eh114.1 (Nat.le_of_ble_eq_true rfl) (hJ _ _ _ _ (by decide)) (xm_le ml_12 rfl) rfl ?_
        refine xi_aload_n (pc' := 1) (x := 115) kc_12_0 rfl rfl ?_
        refine xi_getfield (pc' := 4) (v := .ref 140) kc_12_1 rfl rfl rfl eh114.1 rfl ?_
        refine xi_iload_n (pc' := 5) (x := (-1)) kc_12_4 rfl rfl ?_
        refine xi_ineg (pc' := 6) (v := 1) kc_12_5 rfl rfl ?_
        refine xi_dup2 (pc' := 7) kc_12_6 rfl ⟨rfl, rfl⟩ ?_
        obtain ⟨y117, A117, hy117, ry117⟩ := xk_arr K.1 xD_140
        obtain ⟨v118, ev118, bv118, dv118⟩ := xj_get hy117 ry117 (i := 1) (by decide) (by decide)
        have A119 := ((eh114.2.1 140 (by decide)).trans ((eh97.2.1 140 (by decide)).trans A117))
        refine xi_iaload (pc' := 8) (v := v118) kc_12_7 rfl A119 (by decide) rfl (xi_in (by decide) (by rw [hy117]; decide)) ev118 ?_
        refine xi_iconst (pc' := 9) (v := 1) kc_12_8 rfl rfl ?_
        obtain ⟨v120, ev120⟩ : ∃ q : Int32, (v118 : Int32) + 1 = q := ⟨_, rfl⟩
        have rv120 := xc_rng v120
        refine xi_iadd (pc' := 10) (v := v120) kc_12_9 rfl ev120 ?_
        obtain ⟨y121, s121, hy121, ry121⟩ := xj_set (v := v120) hy117 ry117 1 (by first | omega | decide) (by first | omega | decide)
        refine xi_iastore (pc' := 11) (x' := y121) kc_12_10 rfl A119 rfl (xi_in (by decide) (by rw [hy117]; decide)) s121 (fun hh121 eh121 => ?_)
        have K122 := xk_pa K116 (xk_wa rfl) xD_140 hy121 ry121 eh121
        refine xi_iload_n (pc' := 12) (x := (-1)) kc_12_11 rfl rfl ?_
        refine xi_ireturn kc_12_12 mr_12 rfl ?_
        show xw J ov 99 15 (27, [(0, .ref 115), (1, .int a9), (2, .int a11), (3, .int a13)], [.int (-1)], hh121) _
        refine xi_ireturn kc_15_27 mr_15 rfl ?_
        show xw J ov 100 195 (285, [(4, .int x4), (3, .ref 167), (2, .ref 115), (1, .ref 0), (0, .ref 1000000)], [.int (-1), .int (-1)], hh121) _
        refine xi_cmt (pc' := 1501) kc_195_285 rfl rfl ?_
        obtain ⟨v123, ev123⟩ : ∃ q : Int32, x4 + 6 = q := ⟨_, rfl⟩
        have zv123 : v123.toInt = (x4.toInt + 6) := by rw [← ev123]; exact (xz_add (X := x4.toInt) (Y := 6) rfl (by decide) (by omega) (by omega)).trans (by omega)
        refine xi_iinc (pc' := 1504) (x := x4) (v := v123) (lv' := [(4, .int v123), (3, .ref 167), (2, .ref 115), (1, .ref 0), (0, .ref 1000000)]) kc_195_1501 rfl rfl ev123 rfl (xm_lt ml_195 rfl) ?_
        refine xi_goto (pc' := 23) kc_195_1504 rfl ?_
        have A124 := ((eh121.2.1 13 (by decide)).trans ((eh114.2.1 13 (by decide)).trans ((eh97.2.1 13 (by decide)).trans A1)))
        have A125 := ((eh121.2.1 122 (by decide)).trans ((eh114.2.1 122 (by decide)).trans ((eh97.2.1 122 (by decide)).trans A2)))
        have A126 := ((eh121.2.1 16 (by decide)).trans ((eh114.2.1 16 (by decide)).trans ((eh97.2.1 16 (by decide)).trans A3)))
        have A127 := ((eh121.2.1 19 (by decide)).trans ((eh114.2.1 19 (by decide)).trans ((eh97.2.1 19 (by decide)).trans A4)))
        have A128 := ((eh121.2.1 22 (by decide)).trans ((eh114.2.1 22 (by decide)).trans ((eh97.2.1 22 (by decide)).trans A5)))
        have A129 := ((eh121.2.1 25 (by decide)).trans ((eh114.2.1 25 (by decide)).trans ((eh97.2.1 25 (by decide)).trans A6)))
        have A130 := ((eh121.2.1 28 (by decide)).trans ((eh114.2.1 28 (by decide)).trans ((eh97.2.1 28 (by decide)).trans A7)))
        exact kk v123 hh121 (by omega) K122 ⟨(xE_mk A124 A125 H0), (xE_mk A126 A125 H1), (xE_mk A127 A125 H2), (xE_mk A128 A125 H3), (xE_mk A129 A125 H4), (xE_mk A130 A125 H5)⟩
      · refine xi_iff (pc' := 11) kc_94_8 rfl (xc_lt_f (X := a11.toInt) (Y := 0) rfl (by decide) (by omega)) ?_
        refine xi_iload_n (pc' := 12) (x := a11) kc_94_11 rfl rfl ?_
        refine xi_bipush (pc' := 14) (v := 24) kc_94_12 rfl rfl ?_
        by_cases c131 : a11.toInt < 24
        · refine xi_cmt (pc' := 23) kc_94_14 rfl (xc_lt_t (X := a11.toInt) (Y := 24) rfl (by decide) (by omega)) ?_
          refine xi_iload_n (pc' := 24) (x := a13) kc_94_23 rfl rfl ?_
          by_cases c132 : 0 ≤ a13.toInt
          · refine xi_ift (pc' := 34) kc_94_24 rfl (xc_ge_t (X := a13.toInt) (Y := 0) rfl (by decide) (by omega)) ?_
            refine xi_iload_n (pc' := 35) (x := a13) kc_94_34 rfl rfl ?_
            refine xi_sipush (pc' := 38) (v := 999) kc_94_35 rfl rfl ?_
            by_cases c133 : a13.toInt ≤ 999
            · refine xi_cmt (pc' := 48) kc_94_38 rfl (xc_le_t (X := a13.toInt) (Y := 999) rfl (by decide) (by omega)) ?_
              refine xi_aload_n (pc' := 49) (x := 0) kc_94_48 rfl rfl ?_
              refine xi_getfield (pc' := 52) (v := .ref 66) kc_94_49 rfl rfl rfl A16 rfl ?_
              obtain ⟨u135, wl134, bu135, A136⟩ := xq_66 K.1
              refine xi_virtual (mj := 91) (as := []) (st1 := []) (lv0 := [(0, .ref 66)]) kc_94_52 rfl rfl rfl rfl rfl A136 (Nat.le_of_ble_eq_true rfl) (hJ _ _ _ _ (by decide)) (xm_le ml_91 rfl) rfl ?_
              refine xi_aload_n (pc' := 1) (x := 66) kc_91_0 rfl rfl ?_
              refine xi_lconst (pc' := 2) (v := 0) kc_91_1 rfl rfl ?_
              refine xi_putfield (pc' := 5) (fs' := [.ref 1, .ref 67, .ref 70, .ref 71, .ref 72, .ref 73, .ref 74, .long 0, .int u135]) kc_91_2 rfl rfl rfl A136 rfl rfl rfl (Nat.le_of_ble_eq_true rfl) rfl (fun hh138 eh137 => ?_)
              have K139 := xk_pl (k := 7) (v := 0) K (xk_wf rfl) xD_66 A136 rfl eh137 rfl
              refine xi_return kc_91_5 mr_91 ?_
              show xw J ov 99 94 (55, [(0, .ref 0), (1, .int a9), (2, .int a11), (3, .int a13)], [], hh138) _
              refine xi_aload_n (pc' := 56) (x := 0) kc_94_55 rfl rfl ?_
              have A140 := ((eh137.2.1 0 (by decide)).trans A16)
              refine xi_getfield (pc' := 59) (v := .ref 1) kc_94_56 rfl rfl rfl A140 rfl ?_
              obtain ⟨u141, u142, bu141, bu142, A143⟩ := xq_1 K.1
              have A144 := ((eh137.2.1 1 (by decide)).trans A143)
              refine xi_getfield (pc' := 62) (v := .ref 2) kc_94_59 rfl rfl rfl A144 rfl ?_
              refine xi_iload_n (pc' := 63) (x := a9) kc_94_62 rfl rfl ?_
              have A145 := xk_ex K.1 xD_2
              by_cases c146 : a9.toInt = 0
              · have qa9 : a9 = 0 := xc_of (Eq.trans (by omega) (show (0 : Int) = (0 : Int32).toInt by decide))
                subst qa9
                have A147 := ((eh137.2.1 2 (by decide)).trans A145)
                refine xi_aaload (pc' := 64) (b := 11) kc_94_63 rfl A147 rfl (xi_in (n := 6) (by decide) (by decide)) rfl ?_
                have A148 := xq_11 K.1
                have A149 := ((eh137.2.1 11 (by decide)).trans A148)
                refine xi_getfield (pc' := 67) (v := .ref 13) kc_94_64 rfl rfl rfl A149 rfl ?_
                refine xi_astore (pc' := 69) (lv' := [(4, .ref 13), (0, .ref 0), (1, .int 0), (2, .int a11), (3, .int a13)]) kc_94_67 rfl rfl (xm_lt ml_94 rfl) ?_
                refine xi_aload (pc' := 71) (x := 13) kc_94_69 rfl rfl ?_
                refine xi_iload_n (pc' := 72) (x := a11) kc_94_71 rfl rfl ?_
                obtain ⟨v150, ev150, bv150, dv150⟩ := xj_get hy1 ry1 (i := a11) (by omega) (by omega)
                have A151 := ((eh137.2.1 13 (by decide)).trans A1)
                refine xi_iaload (pc' := 73) (v := v150) kc_94_72 rfl A151 (by decide) rfl (xi_in (by omega) (by rw [hy1]; omega)) ev150 ?_
                refine xi_istore (pc' := 75) (lv' := [(5, .int v150), (4, .ref 13), (0, .ref 0), (1, .int 0), (2, .int a11), (3, .int a13)]) kc_94_73 rfl rfl (xm_lt ml_94 rfl) ?_
                refine xi_aload (pc' := 77) (x := 13) kc_94_75 rfl rfl ?_
                refine xi_iload_n (pc' := 78) (x := a11) kc_94_77 rfl rfl ?_
                refine xi_iload_n (pc' := 79) (x := a13) kc_94_78 rfl rfl ?_
                obtain ⟨y152, s152, hy152, ry152⟩ := xj_set (v := a13) hy1 ry1 a11 (by first | omega | decide) (by first | omega | decide)
                refine xi_iastore (pc' := 80) (x' := y152) kc_94_79 rfl A151 rfl (xi_in (by omega) (by rw [hy1]; omega)) s152 (fun hh152 eh152 => ?_)
                have K153 := xk_pa K139 (xk_wa rfl) xD_13 hy152 ry152 eh152
                refine xi_iload (pc' := 82) (x := v150) kc_94_80 rfl rfl ?_
                refine xi_ireturn kc_94_82 mr_94 rfl ?_
                show xw J ov 100 195 (263, [(4, .int x4), (3, .ref 167), (2, .ref 115), (1, .ref 0), (0, .ref 1000000)], [.int v150], hh152) _
                refine xi_aload_n (pc' := 264) (x := 115) kc_195_263 rfl rfl ?_
                refine xi_aload_n (pc' := 265) (x := 1000000) kc_195_264 rfl rfl ?_
                refine xi_iload (pc' := 267) (x := x4) kc_195_265 rfl rfl ?_
                refine xi_iconst (pc' := 268) (v := 1) kc_195_267 rfl rfl ?_
                refine xi_iadd (pc' := 269) (v := v8) kc_195_268 rfl ev8 ?_
                refine xi_ialoadO (pc' := 270) (v := 0) kc_195_269 rfl (by decide) hov0 (xi_in (by omega) (by omega)) ea9 ?_
                refine xi_aload_n (pc' := 271) (x := 1000000) kc_195_270 rfl rfl ?_
                refine xi_iload (pc' := 273) (x := x4) kc_195_271 rfl rfl ?_
                refine xi_iconst (pc' := 274) (v := 2) kc_195_273 rfl rfl ?_
                refine xi_iadd (pc' := 275) (v := v10) kc_195_274 rfl ev10 ?_
                refine xi_ialoadO (pc' := 276) (v := a11) kc_195_275 rfl (by decide) hov0 (xi_in (by omega) (by omega)) ea11 ?_
                refine xi_aload_n (pc' := 277) (x := 1000000) kc_195_276 rfl rfl ?_
                refine xi_iload (pc' := 279) (x := x4) kc_195_277 rfl rfl ?_
                refine xi_iconst (pc' := 280) (v := 3) kc_195_279 rfl rfl ?_
                refine xi_iadd (pc' := 281) (v := v12) kc_195_280 rfl ev12 ?_
                refine xi_ialoadO (pc' := 282) (v := a13) kc_195_281 rfl (by decide) hov0 (xi_in (by omega) (by omega)) ea13 ?_
                obtain ⟨u154, u155, u156, u157, u158, u159, u160, u161, u162, u163, u164, u165, u166, bu154, bu155, bu156, bu157, bu158, bu159, bu160, bu161, bu162, bu163, bu164, bu165, bu166, A167⟩ := xq_115 K.1
                have A168 := ((eh152.2.1 115 (by decide)).trans ((eh137.2.1 115 (by decide)).trans A167))
                refine xi_virtual (mj := 15) (as := [.int 0, .int a11, .int a13]) (st1 := [.int v150]) (lv0 := [(0, .ref 115), (1, .int 0), (2, .int a11), (3, .int a13)]) kc_195_282 rfl rfl rfl rfl rfl A168 (Nat.le_of_ble_eq_true rfl) (hJ _ _ _ _ (by decide)) (xm_le ml_15 rfl) rfl ?_
                refine xi_aload_n (pc' := 1) (x := 115) kc_15_0 rfl rfl ?_
                refine xi_iconst (pc' := 2) (v := 0) kc_15_1 rfl rfl ?_
                refine xi_putfield (pc' := 5) (fs' := [.int 0, .int u155, .ref 116, .ref 117, .ref 118, .ref 119, .ref 120, .ref 121, .ref 122, .ref 123, .ref 124, .ref 125, .ref 126, .ref 127, .ref 128, .ref 129, .int u156, .ref 130, .int u157, .ref 131, .ref 132, .ref 133, .ref 134, .int u158, .ref 135, .ref 136, .ref 137, .ref 138, .ref 139, .ref 140, .ref 141, .ref 142, .int u159, .int u160, .int u161, .ref 143, .ref 144, .ref 145, .ref 146, .ref 147, .ref 148, .int u162, .ref 149, .ref 150, .ref 151, .int u163, .ref 152, .ref 153, .ref 154, .ref 155, .ref 156, .ref 157, .ref 158, .ref 159, .int u164, .ref 160, .int u165, .ref 161, .ref 162, .ref 163, .ref 164, .int u166, .ref 165, .ref 166]) kc_15_2 rfl rfl rfl A168 rfl rfl rfl (Nat.le_of_ble_eq_true rfl) rfl (fun hh170 eh169 => ?_)
                have K171 := xk_pf (k := 0) (v := 0) K153 (xk_wf rfl) xD_115 A168 rfl (by first | omega | decide) (by first | omega | decide) eh169 rfl
                refine xi_iload_n (pc' := 6) (x := 0) kc_15_5 rfl rfl ?_
                refine xi_static (mj := 10) (as := [.int 0]) (st1 := []) (lv0 := [(0, .int 0)]) kc_15_6 rfl rfl (Nat.le_of_ble_eq_true rfl) rfl rfl (Nat.le_of_ble_eq_true rfl) (hJ _ _ _ _ (by decide)) (xm_le ml_10 rfl) rfl ?_
                refine xi_iload_n (pc' := 1) (x := 0) kc_10_0 rfl rfl ?_
                refine xi_iconst (pc' := 2) (v := 0) kc_10_1 rfl rfl ?_
                refine xi_iconst (pc' := 3) (v := 5) kc_10_2 rfl rfl ?_
                refine xi_static (mj := 11) (as := [.int 0, .int 0, .int 5]) (st1 := []) (lv0 := [(0, .int 0), (1, .int 0), (2, .int 5)]) kc_10_3 rfl rfl (Nat.le_of_ble_eq_true rfl) rfl rfl (Nat.le_of_ble_eq_true rfl) (hJ _ _ _ _ (by decide)) (xm_le ml_11 rfl) rfl ?_
                refine xi_iload_n (pc' := 1) (x := 0) kc_11_0 rfl rfl ?_
                refine xi_iload_n (pc' := 2) (x := 0) kc_11_1 rfl rfl ?_
                refine xi_cmf (pc' := 5) kc_11_2 rfl rfl ?_
                refine xi_iload_n (pc' := 6) (x := 0) kc_11_5 rfl rfl ?_
                refine xi_iload_n (pc' := 7) (x := 5) kc_11_6 rfl rfl ?_
                refine xi_cmf (pc' := 10) kc_11_7 rfl rfl ?_
                refine xi_iconst (pc' := 11) (v := 1) kc_11_10 rfl rfl ?_
                refine xi_goto (pc' := 15) kc_11_11 rfl ?_
                refine xi_ireturn kc_11_15 mr_11 rfl ?_
                show xw J ov 98 10 (6, [(0, .int 0)], [.int 1], hh170) _
                refine xi_ireturn kc_10_6 mr_10 rfl ?_
                show xw J ov 99 15 (9, [(0, .ref 115), (1, .int 0), (2, .int a11), (3, .int a13)], [.int 1], hh170) _
                refine xi_iff (pc' := 12) kc_15_9 rfl rfl ?_
                refine xi_iload_n (pc' := 13) (x := a11) kc_15_12 rfl rfl ?_
                refine xi_iconst (pc' := 14) (v := 0) kc_15_13 rfl rfl ?_
                refine xi_bipush (pc' := 16) (v := 23) kc_15_14 rfl rfl ?_
                refine xi_static (mj := 11) (as := [.int a11, .int 0, .int 23]) (st1 := []) (lv0 := [(0, .int a11), (1, .int 0), (2, .int 23)]) kc_15_16 rfl rfl (Nat.le_of_ble_eq_true rfl) rfl rfl (Nat.le_of_ble_eq_true rfl) (hJ _ _ _ _ (by decide)) (xm_le ml_11 rfl) rfl ?_
                refine xi_iload_n (pc' := 1) (x := a11) kc_11_0 rfl rfl ?_
                refine xi_iload_n (pc' := 2) (x := 0) kc_11_1 rfl rfl ?_
                refine xi_cmf (pc' := 5) kc_11_2 rfl (xc_lt_f (X := a11.toInt) (Y := 0) rfl (by decide) (by omega)) ?_
                refine xi_iload_n (pc' := 6) (x := a11) kc_11_5 rfl rfl ?_
                refine xi_iload_n (pc' := 7) (x := 23) kc_11_6 rfl rfl ?_
                refine xi_cmf (pc' := 10) kc_11_7 rfl (xc_gt_f (X := a11.toInt) (Y := 23) rfl (by decide) (by omega)) ?_
                refine xi_iconst (pc' := 11) (v := 1) kc_11_10 rfl rfl ?_
                refine xi_goto (pc' := 15) kc_11_11 rfl ?_
                refine xi_ireturn kc_11_15 mr_11 rfl ?_
                show xw J ov 99 15 (19, [(0, .ref 115), (1, .int 0), (2, .int a11), (3, .int a13)], [.int 1], hh170) _
                refine xi_ift (pc' := 28) kc_15_19 rfl rfl ?_
                refine xi_iload_n (pc' := 29) (x := a13) kc_15_28 rfl rfl ?_
                refine xi_ift (pc' := 39) kc_15_29 rfl (xc_ge_t (X := a13.toInt) (Y := 0) rfl (by decide) (by omega)) ?_
                refine xi_iload_n (pc' := 40) (x := a13) kc_15_39 rfl rfl ?_
                refine xi_sipush (pc' := 43) (v := 999) kc_15_40 rfl rfl ?_
                refine xi_cmt (pc' := 53) kc_15_43 rfl (xc_le_t (X := a13.toInt) (Y := 999) rfl (by decide) (by omega)) ?_
                refine xi_aload_n (pc' := 54) (x := 115) kc_15_53 rfl rfl ?_
                refine xi_getfield (pc' := 57) (v := .ref 122) kc_15_54 rfl rfl rfl eh169.1 rfl ?_
                refine xi_bipush (pc' := 59) (v := 24) kc_15_57 rfl rfl ?_
                refine xi_iload_n (pc' := 60) (x := 0) kc_15_59 rfl rfl ?_
                refine xi_imul (pc' := 61) (v := 0) kc_15_60 rfl rfl ?_
                refine xi_iload_n (pc' := 62) (x := a11) kc_15_61 rfl rfl ?_
                obtain ⟨v172, ev172⟩ : ∃ q : Int32, 0 + a11 = q := ⟨_, rfl⟩
                have zv172 : v172.toInt = a11.toInt := by rw [← ev172]; exact (xz_add (X := 0) (Y := a11.toInt) (by decide) rfl (by omega) (by omega)).trans (by omega)
                refine xi_iadd (pc' := 63) (v := v172) kc_15_62 rfl ev172 ?_
                have A173 := ((eh169.2.1 122 (by decide)).trans ((eh152.2.1 122 (by decide)).trans ((eh137.2.1 122 (by decide)).trans A2)))
                refine xi_iaload (pc' := 64) (v := v150) kc_15_63 rfl A173 (by decide) rfl (xi_in (by rw [zv172]; omega) (by rw [hy2]; rw [zv172]; omega)) (xE_ld H0 (by first | omega | decide) (by first | omega | decide) (by omega) ev150) ?_
                refine xi_istore (pc' := 66) (lv' := [(4, .int v150), (0, .ref 115), (1, .int 0), (2, .int a11), (3, .int a13)]) kc_15_64 rfl rfl (xm_lt ml_15 rfl) ?_
                refine xi_aload_n (pc' := 67) (x := 115) kc_15_66 rfl rfl ?_
                refine xi_getfield (pc' := 70) (v := .ref 122) kc_15_67 rfl rfl rfl eh169.1 rfl ?_
                refine xi_bipush (pc' := 72) (v := 24) kc_15_70 rfl rfl ?_
                refine xi_iload_n (pc' := 73) (x := 0) kc_15_72 rfl rfl ?_
                refine xi_imul (pc' := 74) (v := 0) kc_15_73 rfl rfl ?_
                refine xi_iload_n (pc' := 75) (x := a11) kc_15_74 rfl rfl ?_
                refine xi_iadd (pc' := 76) (v := v172) kc_15_75 rfl ev172 ?_
                refine xi_iload_n (pc' := 77) (x := a13) kc_15_76 rfl rfl ?_
                obtain ⟨y174, s174, hy174, ry174⟩ := xj_set (v := a13) hy2 ry2 v172 (by first | omega | decide) (by first | omega | decide)
                refine xi_iastore (pc' := 78) (x' := y174) kc_15_77 rfl A173 rfl (xi_in (by rw [zv172]; omega) (by rw [hy2]; rw [zv172]; omega)) s174 (fun hh174 eh174 => ?_)
                have K175 := xk_pa K171 (xk_wa rfl) xD_122 hy174 ry174 eh174
                refine xi_aload_n (pc' := 79) (x := 115) kc_15_78 rfl rfl ?_
                refine xi_iconst (pc' := 80) (v := 0) kc_15_79 rfl rfl ?_
                have A176 := ((eh174.2.1 115 (by decide)).trans eh169.1)
                refine xi_putfield (pc' := 83) (fs' := [.int 0, .int u155, .ref 116, .ref 117, .ref 118, .ref 119, .ref 120, .ref 121, .ref 122, .ref 123, .ref 124, .ref 125, .ref 126, .ref 127, .ref 128, .ref 129, .int u156, .ref 130, .int u157, .ref 131, .ref 132, .ref 133, .ref 134, .int u158, .ref 135, .ref 136, .ref 137, .ref 138, .ref 139, .ref 140, .ref 141, .ref 142, .int u159, .int u160, .int u161, .ref 143, .ref 144, .ref 145, .ref 146, .ref 147, .ref 148, .int 0, .ref 149, .ref 150, .ref 151, .int u163, .ref 152, .ref 153, .ref 154, .ref 155, .ref 156, .ref 157, .ref 158, .ref 159, .int u164, .ref 160, .int u165, .ref 161, .ref 162, .ref 163, .ref 164, .int u166, .ref 165, .ref 166]) kc_15_80 rfl rfl rfl A176 rfl rfl rfl (Nat.le_of_ble_eq_true rfl) rfl (fun hh178 eh177 => ?_)
                have K179 := xk_pf (k := 41) (v := 0) K175 (xk_wf rfl) xD_115 A176 rfl (by first | omega | decide) (by first | omega | decide) eh177 rfl
                refine xi_iload (pc' := 85) (x := v150) kc_15_83 rfl rfl ?_
                refine xi_ireturn kc_15_85 mr_15 rfl ?_
                show xw J ov 100 195 (285, [(4, .int x4), (3, .ref 167), (2, .ref 115), (1, .ref 0), (0, .ref 1000000)], [.int v150, .int v150], hh178) _
                refine xi_cmt (pc' := 1501) kc_195_285 rfl (xc_eq_t (X := v150.toInt) (Y := v150.toInt) rfl rfl (by omega)) ?_
                obtain ⟨v180, ev180⟩ : ∃ q : Int32, x4 + 6 = q := ⟨_, rfl⟩
                have zv180 : v180.toInt = (x4.toInt + 6) := by rw [← ev180]; exact (xz_add (X := x4.toInt) (Y := 6) rfl (by decide) (by omega) (by omega)).trans (by omega)
                refine xi_iinc (pc' := 1504) (x := x4) (v := v180) (lv' := [(4, .int v180), (3, .ref 167), (2, .ref 115), (1, .ref 0), (0, .ref 1000000)]) kc_195_1501 rfl rfl ev180 rfl (xm_lt ml_195 rfl) ?_
                refine xi_goto (pc' := 23) kc_195_1504 rfl ?_
                have A181 := ((eh177.2.1 13 (by decide)).trans ((eh174.2.1 13 (by decide)).trans ((eh169.2.1 13 (by decide)).trans eh152.1)))
                have A182 := ((eh177.2.1 122 (by decide)).trans eh174.1)
                have A183 := ((eh177.2.1 16 (by decide)).trans ((eh174.2.1 16 (by decide)).trans ((eh169.2.1 16 (by decide)).trans ((eh152.2.1 16 (by decide)).trans ((eh137.2.1 16 (by decide)).trans A3)))))
                have A184 := ((eh177.2.1 19 (by decide)).trans ((eh174.2.1 19 (by decide)).trans ((eh169.2.1 19 (by decide)).trans ((eh152.2.1 19 (by decide)).trans ((eh137.2.1 19 (by decide)).trans A4)))))
                have A185 := ((eh177.2.1 22 (by decide)).trans ((eh174.2.1 22 (by decide)).trans ((eh169.2.1 22 (by decide)).trans ((eh152.2.1 22 (by decide)).trans ((eh137.2.1 22 (by decide)).trans A5)))))
                have A186 := ((eh177.2.1 25 (by decide)).trans ((eh174.2.1 25 (by decide)).trans ((eh169.2.1 25 (by decide)).trans ((eh152.2.1 25 (by decide)).trans ((eh137.2.1 25 (by decide)).trans A6)))))
                have A187 := ((eh177.2.1 28 (by decide)).trans ((eh174.2.1 28 (by decide)).trans ((eh169.2.1 28 (by decide)).trans ((eh152.2.1 28 (by decide)).trans ((eh137.2.1 28 (by decide)).trans A7)))))
                exact kk v180 hh178 (by omega) K179 ⟨(xE_mk A181 A182 (xE_set H0 (by first | omega | decide) (by omega) (by omega) (by omega) s152 s174)), (xE_mk A183 A182 (xE_oth H1 (by first | omega | decide) (by omega) s174)), (xE_mk A184 A182 (xE_oth H2 (by first | omega | decide) (by omega) s174)), (xE_mk A185 A182 (xE_oth H3 (by first | omega | decide) (by omega) s174)), (xE_mk A186 A182 (xE_oth H4 (by first | omega | decide) (by omega) s174)), (xE_mk A187 A182 (xE_oth H5 (by first | omega | decide) (by omega) s174))⟩
              by_cases c188 : a9.toInt = 1
              · have qa9 : a9 = 1 := xc_of (Eq.trans (by omega) (show (1 : Int) = (1 : Int32).toInt by decide))
                subst qa9
                have A189 := ((eh137.2.1 2 (by decide)).trans A145)
                refine xi_aaload (pc' := 64) (b := 14) kc_94_63 rfl A189 rfl (xi_in (n := 6) (by decide) (by decide)) rfl ?_
                have A190 := xq_14 K.1
                have A191 := ((eh137.2.1 14 (by decide)).trans A190)
                refine xi_getfield (pc' := 67) (v := .ref 16) kc_94_64 rfl rfl rfl A191 rfl ?_
                refine xi_astore (pc' := 69) (lv' := [(4, .ref 16), (0, .ref 0), (1, .int 1), (2, .int a11), (3, .int a13)]) kc_94_67 rfl rfl (xm_lt ml_94 rfl) ?_
                refine xi_aload (pc' := 71) (x := 16) kc_94_69 rfl rfl ?_
                refine xi_iload_n (pc' := 72) (x := a11) kc_94_71 rfl rfl ?_
                obtain ⟨v192, ev192, bv192, dv192⟩ := xj_get hy3 ry3 (i := a11) (by omega) (by omega)
                have A193 := ((eh137.2.1 16 (by decide)).trans A3)
                refine xi_iaload (pc' := 73) (v := v192) kc_94_72 rfl A193 (by decide) rfl (xi_in (by omega) (by rw [hy3]; omega)) ev192 ?_
                refine xi_istore (pc' := 75) (lv' := [(5, .int v192), (4, .ref 16), (0, .ref 0), (1, .int 1), (2, .int a11), (3, .int a13)]) kc_94_73 rfl rfl (xm_lt ml_94 rfl) ?_
                refine xi_aload (pc' := 77) (x := 16) kc_94_75 rfl rfl ?_
                refine xi_iload_n (pc' := 78) (x := a11) kc_94_77 rfl rfl ?_
                refine xi_iload_n (pc' := 79) (x := a13) kc_94_78 rfl rfl ?_
                obtain ⟨y194, s194, hy194, ry194⟩ := xj_set (v := a13) hy3 ry3 a11 (by first | omega | decide) (by first | omega | decide)
                refine xi_iastore (pc' := 80) (x' := y194) kc_94_79 rfl A193 rfl (xi_in (by omega) (by rw [hy3]; omega)) s194 (fun hh194 eh194 => ?_)
                have K195 := xk_pa K139 (xk_wa rfl) xD_16 hy194 ry194 eh194
                refine xi_iload (pc' := 82) (x := v192) kc_94_80 rfl rfl ?_
                refine xi_ireturn kc_94_82 mr_94 rfl ?_
                show xw J ov 100 195 (263, [(4, .int x4), (3, .ref 167), (2, .ref 115), (1, .ref 0), (0, .ref 1000000)], [.int v192], hh194) _
                refine xi_aload_n (pc' := 264) (x := 115) kc_195_263 rfl rfl ?_
                refine xi_aload_n (pc' := 265) (x := 1000000) kc_195_264 rfl rfl ?_
                refine xi_iload (pc' := 267) (x := x4) kc_195_265 rfl rfl ?_
                refine xi_iconst (pc' := 268) (v := 1) kc_195_267 rfl rfl ?_
                refine xi_iadd (pc' := 269) (v := v8) kc_195_268 rfl ev8 ?_
                refine xi_ialoadO (pc' := 270) (v := 1) kc_195_269 rfl (by decide) hov0 (xi_in (by omega) (by omega)) ea9 ?_
                refine xi_aload_n (pc' := 271) (x := 1000000) kc_195_270 rfl rfl ?_
                refine xi_iload (pc' := 273) (x := x4) kc_195_271 rfl rfl ?_
                refine xi_iconst (pc' := 274) (v := 2) kc_195_273 rfl rfl ?_
                refine xi_iadd (pc' := 275) (v := v10) kc_195_274 rfl ev10 ?_
                refine xi_ialoadO (pc' := 276) (v := a11) kc_195_275 rfl (by decide) hov0 (xi_in (by omega) (by omega)) ea11 ?_
                refine xi_aload_n (pc' := 277) (x := 1000000) kc_195_276 rfl rfl ?_
                refine xi_iload (pc' := 279) (x := x4) kc_195_277 rfl rfl ?_
                refine xi_iconst (pc' := 280) (v := 3) kc_195_279 rfl rfl ?_
                refine xi_iadd (pc' := 281) (v := v12) kc_195_280 rfl ev12 ?_
                refine xi_ialoadO (pc' := 282) (v := a13) kc_195_281 rfl (by decide) hov0 (xi_in (by omega) (by omega)) ea13 ?_
                obtain ⟨u196, u197, u198, u199, u200, u201, u202, u203, u204, u205, u206, u207, u208, bu196, bu197, bu198, bu199, bu200, bu201, bu202, bu203, bu204, bu205, bu206, bu207, bu208, A209⟩ := xq_115 K.1
                have A210 := ((eh194.2.1 115 (by decide)).trans ((eh137.2.1 115 (by decide)).trans A209))
                refine xi_virtual (mj := 15) (as := [.int 1, .int a11, .int a13]) (st1 := [.int v192]) (lv0 := [(0, .ref 115), (1, .int 1), (2, .int a11), (3, .int a13)]) kc_195_282 rfl rfl rfl rfl rfl A210 (Nat.le_of_ble_eq_true rfl) (hJ _ _ _ _ (by decide)) (xm_le ml_15 rfl) rfl ?_
                refine xi_aload_n (pc' := 1) (x := 115) kc_15_0 rfl rfl ?_
                refine xi_iconst (pc' := 2) (v := 0) kc_15_1 rfl rfl ?_
                refine xi_putfield (pc' := 5) (fs' := [.int 0, .int u197, .ref 116, .ref 117, .ref 118, .ref 119, .ref 120, .ref 121, .ref 122, .ref 123, .ref 124, .ref 125, .ref 126, .ref 127, .ref 128, .ref 129, .int u198, .ref 130, .int u199, .ref 131, .ref 132, .ref 133, .ref 134, .int u200, .ref 135, .ref 136, .ref 137, .ref 138, .ref 139, .ref 140, .ref 141, .ref 142, .int u201, .int u202, .int u203, .ref 143, .ref 144, .ref 145, .ref 146, .ref 147, .ref 148, .int u204, .ref 149, .ref 150, .ref 151, .int u205, .ref 152, .ref 153, .ref 154, .ref 155, .ref 156, .ref 157, .ref 158, .ref 159, .int u206, .ref 160, .int u207, .ref 161, .ref 162, .ref 163, .ref 164, .int u208, .ref 165, .ref 166]) kc_15_2 rfl rfl rfl A210 rfl rfl rfl (Nat.le_of_ble_eq_true rfl) rfl (fun hh212 eh211 => ?_)
                have K213 := xk_pf (k := 0) (v := 0) K195 (xk_wf rfl) xD_115 A210 rfl (by first | omega | decide) (by first | omega | decide) eh211 rfl
                refine xi_iload_n (pc' := 6) (x := 1) kc_15_5 rfl rfl ?_
                refine xi_static (mj := 10) (as := [.int 1]) (st1 := []) (lv0 := [(0, .int 1)]) kc_15_6 rfl rfl (Nat.le_of_ble_eq_true rfl) rfl rfl (Nat.le_of_ble_eq_true rfl) (hJ _ _ _ _ (by decide)) (xm_le ml_10 rfl) rfl ?_
                refine xi_iload_n (pc' := 1) (x := 1) kc_10_0 rfl rfl ?_
                refine xi_iconst (pc' := 2) (v := 0) kc_10_1 rfl rfl ?_
                refine xi_iconst (pc' := 3) (v := 5) kc_10_2 rfl rfl ?_
                refine xi_static (mj := 11) (as := [.int 1, .int 0, .int 5]) (st1 := []) (lv0 := [(0, .int 1), (1, .int 0), (2, .int 5)]) kc_10_3 rfl rfl (Nat.le_of_ble_eq_true rfl) rfl rfl (Nat.le_of_ble_eq_true rfl) (hJ _ _ _ _ (by decide)) (xm_le ml_11 rfl) rfl ?_
                refine xi_iload_n (pc' := 1) (x := 1) kc_11_0 rfl rfl ?_
                refine xi_iload_n (pc' := 2) (x := 0) kc_11_1 rfl rfl ?_
                refine xi_cmf (pc' := 5) kc_11_2 rfl rfl ?_
                refine xi_iload_n (pc' := 6) (x := 1) kc_11_5 rfl rfl ?_
                refine xi_iload_n (pc' := 7) (x := 5) kc_11_6 rfl rfl ?_
                refine xi_cmf (pc' := 10) kc_11_7 rfl rfl ?_
                refine xi_iconst (pc' := 11) (v := 1) kc_11_10 rfl rfl ?_
                refine xi_goto (pc' := 15) kc_11_11 rfl ?_
                refine xi_ireturn kc_11_15 mr_11 rfl ?_
                show xw J ov 98 10 (6, [(0, .int 1)], [.int 1], hh212) _
                refine xi_ireturn kc_10_6 mr_10 rfl ?_
                show xw J ov 99 15 (9, [(0, .ref 115), (1, .int 1), (2, .int a11), (3, .int a13)], [.int 1], hh212) _
                refine xi_iff (pc' := 12) kc_15_9 rfl rfl ?_
                refine xi_iload_n (pc' := 13) (x := a11) kc_15_12 rfl rfl ?_
                refine xi_iconst (pc' := 14) (v := 0) kc_15_13 rfl rfl ?_
                refine xi_bipush (pc' := 16) (v := 23) kc_15_14 rfl rfl ?_
                refine xi_static (mj := 11) (as := [.int a11, .int 0, .int 23]) (st1 := []) (lv0 := [(0, .int a11), (1, .int 0), (2, .int 23)]) kc_15_16 rfl rfl (Nat.le_of_ble_eq_true rfl) rfl rfl (Nat.le_of_ble_eq_true rfl) (hJ _ _ _ _ (by decide)) (xm_le ml_11 rfl) rfl ?_
                refine xi_iload_n (pc' := 1) (x := a11) kc_11_0 rfl rfl ?_
                refine xi_iload_n (pc' := 2) (x := 0) kc_11_1 rfl rfl ?_
                refine xi_cmf (pc' := 5) kc_11_2 rfl (xc_lt_f (X := a11.toInt) (Y := 0) rfl (by decide) (by omega)) ?_
                refine xi_iload_n (pc' := 6) (x := a11) kc_11_5 rfl rfl ?_
                refine xi_iload_n (pc' := 7) (x := 23) kc_11_6 rfl rfl ?_
                refine xi_cmf (pc' := 10) kc_11_7 rfl (xc_gt_f (X := a11.toInt) (Y := 23) rfl (by decide) (by omega)) ?_
                refine xi_iconst (pc' := 11) (v := 1) kc_11_10 rfl rfl ?_
                refine xi_goto (pc' := 15) kc_11_11 rfl ?_
                refine xi_ireturn kc_11_15 mr_11 rfl ?_
                show xw J ov 99 15 (19, [(0, .ref 115), (1, .int 1), (2, .int a11), (3, .int a13)], [.int 1], hh212) _
                refine xi_ift (pc' := 28) kc_15_19 rfl rfl ?_
                refine xi_iload_n (pc' := 29) (x := a13) kc_15_28 rfl rfl ?_
                refine xi_ift (pc' := 39) kc_15_29 rfl (xc_ge_t (X := a13.toInt) (Y := 0) rfl (by decide) (by omega)) ?_
                refine xi_iload_n (pc' := 40) (x := a13) kc_15_39 rfl rfl ?_
                refine xi_sipush (pc' := 43) (v := 999) kc_15_40 rfl rfl ?_
                refine xi_cmt (pc' := 53) kc_15_43 rfl (xc_le_t (X := a13.toInt) (Y := 999) rfl (by decide) (by omega)) ?_
                refine xi_aload_n (pc' := 54) (x := 115) kc_15_53 rfl rfl ?_
                refine xi_getfield (pc' := 57) (v := .ref 122) kc_15_54 rfl rfl rfl eh211.1 rfl ?_
                refine xi_bipush (pc' := 59) (v := 24) kc_15_57 rfl rfl ?_
                refine xi_iload_n (pc' := 60) (x := 1) kc_15_59 rfl rfl ?_
                refine xi_imul (pc' := 61) (v := 24) kc_15_60 rfl rfl ?_
                refine xi_iload_n (pc' := 62) (x := a11) kc_15_61 rfl rfl ?_
                obtain ⟨v214, ev214⟩ : ∃ q : Int32, 24 + a11 = q := ⟨_, rfl⟩
                have zv214 : v214.toInt = (a11.toInt + 24) := by rw [← ev214]; exact (xz_add (X := 24) (Y := a11.toInt) (by decide) rfl (by omega) (by omega)).trans (by omega)
                refine xi_iadd (pc' := 63) (v := v214) kc_15_62 rfl ev214 ?_
                have A215 := ((eh211.2.1 122 (by decide)).trans ((eh194.2.1 122 (by decide)).trans ((eh137.2.1 122 (by decide)).trans A2)))
                refine xi_iaload (pc' := 64) (v := v192) kc_15_63 rfl A215 (by decide) rfl (xi_in (by rw [zv214]; omega) (by rw [hy2]; rw [zv214]; omega)) (xE_ld H1 (by first | omega | decide) (by first | omega | decide) (by omega) ev192) ?_
                refine xi_istore (pc' := 66) (lv' := [(4, .int v192), (0, .ref 115), (1, .int 1), (2, .int a11), (3, .int a13)]) kc_15_64 rfl rfl (xm_lt ml_15 rfl) ?_
                refine xi_aload_n (pc' := 67) (x := 115) kc_15_66 rfl rfl ?_
                refine xi_getfield (pc' := 70) (v := .ref 122) kc_15_67 rfl rfl rfl eh211.1 rfl ?_
                refine xi_bipush (pc' := 72) (v := 24) kc_15_70 rfl rfl ?_
                refine xi_iload_n (pc' := 73) (x := 1) kc_15_72 rfl rfl ?_
                refine xi_imul (pc' := 74) (v := 24) kc_15_73 rfl rfl ?_
                refine xi_iload_n (pc' := 75) (x := a11) kc_15_74 rfl rfl ?_
                refine xi_iadd (pc' := 76) (v := v214) kc_15_75 rfl ev214 ?_
                refine xi_iload_n (pc' := 77) (x := a13) kc_15_76 rfl rfl ?_
                obtain ⟨y216, s216, hy216, ry216⟩ := xj_set (v := a13) hy2 ry2 v214 (by first | omega | decide) (by first | omega | decide)
                refine xi_iastore (pc' := 78) (x' := y216) kc_15_77 rfl A215 rfl (xi_in (by rw [zv214]; omega) (by rw [hy2]; rw [zv214]; omega)) s216 (fun hh216 eh216 => ?_)
                have K217 := xk_pa K213 (xk_wa rfl) xD_122 hy216 ry216 eh216
                refine xi_aload_n (pc' := 79) (x := 115) kc_15_78 rfl rfl ?_
                refine xi_iconst (pc' := 80) (v := 0) kc_15_79 rfl rfl ?_
                have A218 := ((eh216.2.1 115 (by decide)).trans eh211.1)
                refine xi_putfield (pc' := 83) (fs' := [.int 0, .int u197, .ref 116, .ref 117, .ref 118, .ref 119, .ref 120, .ref 121, .ref 122, .ref 123, .ref 124, .ref 125, .ref 126, .ref 127, .ref 128, .ref 129, .int u198, .ref 130, .int u199, .ref 131, .ref 132, .ref 133, .ref 134, .int u200, .ref 135, .ref 136, .ref 137, .ref 138, .ref 139, .ref 140, .ref 141, .ref 142, .int u201, .int u202, .int u203, .ref 143, .ref 144, .ref 145, .ref 146, .ref 147, .ref 148, .int 0, .ref 149, .ref 150, .ref 151, .int u205, .ref 152, .ref 153, .ref 154, .ref 155, .ref 156, .ref 157, .ref 158, .ref 159, .int u206, .ref 160, .int u207, .ref 161, .ref 162, .ref 163, .ref 164, .int u208, .ref 165, .ref 166]) kc_15_80 rfl rfl rfl A218 rfl rfl rfl (Nat.le_of_ble_eq_true rfl) rfl (fun hh220 eh219 => ?_)
                have K221 := xk_pf (k := 41) (v := 0) K217 (xk_wf rfl) xD_115 A218 rfl (by first | omega | decide) (by first | omega | decide) eh219 rfl
                refine xi_iload (pc' := 85) (x := v192) kc_15_83 rfl rfl ?_
                refine xi_ireturn kc_15_85 mr_15 rfl ?_
                show xw J ov 100 195 (285, [(4, .int x4), (3, .ref 167), (2, .ref 115), (1, .ref 0), (0, .ref 1000000)], [.int v192, .int v192], hh220) _
                refine xi_cmt (pc' := 1501) kc_195_285 rfl (xc_eq_t (X := v192.toInt) (Y := v192.toInt) rfl rfl (by omega)) ?_
                obtain ⟨v222, ev222⟩ : ∃ q : Int32, x4 + 6 = q := ⟨_, rfl⟩
                have zv222 : v222.toInt = (x4.toInt + 6) := by rw [← ev222]; exact (xz_add (X := x4.toInt) (Y := 6) rfl (by decide) (by omega) (by omega)).trans (by omega)
                refine xi_iinc (pc' := 1504) (x := x4) (v := v222) (lv' := [(4, .int v222), (3, .ref 167), (2, .ref 115), (1, .ref 0), (0, .ref 1000000)]) kc_195_1501 rfl rfl ev222 rfl (xm_lt ml_195 rfl) ?_
                refine xi_goto (pc' := 23) kc_195_1504 rfl ?_
                have A223 := ((eh219.2.1 13 (by decide)).trans ((eh216.2.1 13 (by decide)).trans ((eh211.2.1 13 (by decide)).trans ((eh194.2.1 13 (by decide)).trans ((eh137.2.1 13 (by decide)).trans A1)))))
                have A224 := ((eh219.2.1 122 (by decide)).trans eh216.1)
                have A225 := ((eh219.2.1 16 (by decide)).trans ((eh216.2.1 16 (by decide)).trans ((eh211.2.1 16 (by decide)).trans eh194.1)))
                have A226 := ((eh219.2.1 19 (by decide)).trans ((eh216.2.1 19 (by decide)).trans ((eh211.2.1 19 (by decide)).trans ((eh194.2.1 19 (by decide)).trans ((eh137.2.1 19 (by decide)).trans A4)))))
                have A227 := ((eh219.2.1 22 (by decide)).trans ((eh216.2.1 22 (by decide)).trans ((eh211.2.1 22 (by decide)).trans ((eh194.2.1 22 (by decide)).trans ((eh137.2.1 22 (by decide)).trans A5)))))
                have A228 := ((eh219.2.1 25 (by decide)).trans ((eh216.2.1 25 (by decide)).trans ((eh211.2.1 25 (by decide)).trans ((eh194.2.1 25 (by decide)).trans ((eh137.2.1 25 (by decide)).trans A6)))))
                have A229 := ((eh219.2.1 28 (by decide)).trans ((eh216.2.1 28 (by decide)).trans ((eh211.2.1 28 (by decide)).trans ((eh194.2.1 28 (by decide)).trans ((eh137.2.1 28 (by decide)).trans A7)))))
                exact kk v222 hh220 (by omega) K221 ⟨(xE_mk A223 A224 (xE_oth H0 (by first | omega | decide) (by omega) s216)), (xE_mk A225 A224 (xE_set H1 (by first | omega | decide) (by omega) (by omega) (by omega) s194 s216)), (xE_mk A226 A224 (xE_oth H2 (by first | omega | decide) (by omega) s216)), (xE_mk A227 A224 (xE_oth H3 (by first | omega | decide) (by omega) s216)), (xE_mk A228 A224 (xE_oth H4 (by first | omega | decide) (by omega) s216)), (xE_mk A229 A224 (xE_oth H5 (by first | omega | decide) (by omega) s216))⟩
              by_cases c230 : a9.toInt = 2
              · have qa9 : a9 = 2 := xc_of (Eq.trans (by omega) (show (2 : Int) = (2 : Int32).toInt by decide))
                subst qa9
                have A231 := ((eh137.2.1 2 (by decide)).trans A145)
                refine xi_aaload (pc' := 64) (b := 17) kc_94_63 rfl A231 rfl (xi_in (n := 6) (by decide) (by decide)) rfl ?_
                have A232 := xq_17 K.1
                have A233 := ((eh137.2.1 17 (by decide)).trans A232)
                refine xi_getfield (pc' := 67) (v := .ref 19) kc_94_64 rfl rfl rfl A233 rfl ?_
                refine xi_astore (pc' := 69) (lv' := [(4, .ref 19), (0, .ref 0), (1, .int 2), (2, .int a11), (3, .int a13)]) kc_94_67 rfl rfl (xm_lt ml_94 rfl) ?_
                refine xi_aload (pc' := 71) (x := 19) kc_94_69 rfl rfl ?_
                refine xi_iload_n (pc' := 72) (x := a11) kc_94_71 rfl rfl ?_
                obtain ⟨v234, ev234, bv234, dv234⟩ := xj_get hy4 ry4 (i := a11) (by omega) (by omega)
                have A235 := ((eh137.2.1 19 (by decide)).trans A4)
                refine xi_iaload (pc' := 73) (v := v234) kc_94_72 rfl A235 (by decide) rfl (xi_in (by omega) (by rw [hy4]; omega)) ev234 ?_
                refine xi_istore (pc' := 75) (lv' := [(5, .int v234), (4, .ref 19), (0, .ref 0), (1, .int 2), (2, .int a11), (3, .int a13)]) kc_94_73 rfl rfl (xm_lt ml_94 rfl) ?_
                refine xi_aload (pc' := 77) (x := 19) kc_94_75 rfl rfl ?_
                refine xi_iload_n (pc' := 78) (x := a11) kc_94_77 rfl rfl ?_
                refine xi_iload_n (pc' := 79) (x := a13) kc_94_78 rfl rfl ?_
                obtain ⟨y236, s236, hy236, ry236⟩ := xj_set (v := a13) hy4 ry4 a11 (by first | omega | decide) (by first | omega | decide)
                refine xi_iastore (pc' := 80) (x' := y236) kc_94_79 rfl A235 rfl (xi_in (by omega) (by rw [hy4]; omega)) s236 (fun hh236 eh236 => ?_)
                have K237 := xk_pa K139 (xk_wa rfl) xD_19 hy236 ry236 eh236
                refine xi_iload (pc' := 82) (x := v234) kc_94_80 rfl rfl ?_
                refine xi_ireturn kc_94_82 mr_94 rfl ?_
                show xw J ov 100 195 (263, [(4, .int x4), (3, .ref 167), (2, .ref 115), (1, .ref 0), (0, .ref 1000000)], [.int v234], hh236) _
                refine xi_aload_n (pc' := 264) (x := 115) kc_195_263 rfl rfl ?_
                refine xi_aload_n (pc' := 265) (x := 1000000) kc_195_264 rfl rfl ?_
                refine xi_iload (pc' := 267) (x := x4) kc_195_265 rfl rfl ?_
                refine xi_iconst (pc' := 268) (v := 1) kc_195_267 rfl rfl ?_
                refine xi_iadd (pc' := 269) (v := v8) kc_195_268 rfl ev8 ?_
                refine xi_ialoadO (pc' := 270) (v := 2) kc_195_269 rfl (by decide) hov0 (xi_in (by omega) (by omega)) ea9 ?_
                refine xi_aload_n (pc' := 271) (x := 1000000) kc_195_270 rfl rfl ?_
                refine xi_iload (pc' := 273) (x := x4) kc_195_271 rfl rfl ?_
                refine xi_iconst (pc' := 274) (v := 2) kc_195_273 rfl rfl ?_
                refine xi_iadd (pc' := 275) (v := v10) kc_195_274 rfl ev10 ?_
                refine xi_ialoadO (pc' := 276) (v := a11) kc_195_275 rfl (by decide) hov0 (xi_in (by omega) (by omega)) ea11 ?_
                refine xi_aload_n (pc' := 277) (x := 1000000) kc_195_276 rfl rfl ?_
                refine xi_iload (pc' := 279) (x := x4) kc_195_277 rfl rfl ?_
                refine xi_iconst (pc' := 280) (v := 3) kc_195_279 rfl rfl ?_
                refine xi_iadd (pc' := 281) (v := v12) kc_195_280 rfl ev12 ?_
                refine xi_ialoadO (pc' := 282) (v := a13) kc_195_281 rfl (by decide) hov0 (xi_in (by omega) (by omega)) ea13 ?_
                obtain ⟨u238, u239, u240, u241, u242, u243, u244, u245, u246, u247, u248, u249, u250, bu238, bu239, bu240, bu241, bu242, bu243, bu244, bu245, bu246, bu247, bu248, bu249, bu250, A251⟩ := xq_115 K.1
                have A252 := ((eh236.2.1 115 (by decide)).trans ((eh137.2.1 115 (by decide)).trans A251))
                refine xi_virtual (mj := 15) (as := [.int 2, .int a11, .int a13]) (st1 := [.int v234]) (lv0 := [(0, .ref 115), (1, .int 2), (2, .int a11), (3, .int a13)]) kc_195_282 rfl rfl rfl rfl rfl A252 (Nat.le_of_ble_eq_true rfl) (hJ _ _ _ _ (by decide)) (xm_le ml_15 rfl) rfl ?_
                refine xi_aload_n (pc' := 1) (x := 115) kc_15_0 rfl rfl ?_
                refine xi_iconst (pc' := 2) (v := 0) kc_15_1 rfl rfl ?_
                refine xi_putfield (pc' := 5) (fs' := [.int 0, .int u239, .ref 116, .ref 117, .ref 118, .ref 119, .ref 120, .ref 121, .ref 122, .ref 123, .ref 124, .ref 125, .ref 126, .ref 127, .ref 128, .ref 129, .int u240, .ref 130, .int u241, .ref 131, .ref 132, .ref 133, .ref 134, .int u242, .ref 135, .ref 136, .ref 137, .ref 138, .ref 139, .ref 140, .ref 141, .ref 142, .int u243, .int u244, .int u245, .ref 143, .ref 144, .ref 145, .ref 146, .ref 147, .ref 148, .int u246, .ref 149, .ref 150, .ref 151, .int u247, .ref 152, .ref 153, .ref 154, .ref 155, .ref 156, .ref 157, .ref 158, .ref 159, .int u248, .ref 160, .int u249, .ref 161, .ref 162, .ref 163, .ref 164, .int u250, .ref 165, .ref 166]) kc_15_2 rfl rfl rfl A252 rfl rfl rfl (Nat.le_of_ble_eq_true rfl) rfl (fun hh254 eh253 => ?_)
                have K255 := xk_pf (k := 0) (v := 0) K237 (xk_wf rfl) xD_115 A252 rfl (by first | omega | decide) (by first | omega | decide) eh253 rfl
                refine xi_iload_n (pc' := 6) (x := 2) kc_15_5 rfl rfl ?_
                refine xi_static (mj := 10) (as := [.int 2]) (st1 := []) (lv0 := [(0, .int 2)]) kc_15_6 rfl rfl (Nat.le_of_ble_eq_true rfl) rfl rfl (Nat.le_of_ble_eq_true rfl) (hJ _ _ _ _ (by decide)) (xm_le ml_10 rfl) rfl ?_
                refine xi_iload_n (pc' := 1) (x := 2) kc_10_0 rfl rfl ?_
                refine xi_iconst (pc' := 2) (v := 0) kc_10_1 rfl rfl ?_
                refine xi_iconst (pc' := 3) (v := 5) kc_10_2 rfl rfl ?_
                refine xi_static (mj := 11) (as := [.int 2, .int 0, .int 5]) (st1 := []) (lv0 := [(0, .int 2), (1, .int 0), (2, .int 5)]) kc_10_3 rfl rfl (Nat.le_of_ble_eq_true rfl) rfl rfl (Nat.le_of_ble_eq_true rfl) (hJ _ _ _ _ (by decide)) (xm_le ml_11 rfl) rfl ?_
                refine xi_iload_n (pc' := 1) (x := 2) kc_11_0 rfl rfl ?_
                refine xi_iload_n (pc' := 2) (x := 0) kc_11_1 rfl rfl ?_
                refine xi_cmf (pc' := 5) kc_11_2 rfl rfl ?_
                refine xi_iload_n (pc' := 6) (x := 2) kc_11_5 rfl rfl ?_
                refine xi_iload_n (pc' := 7) (x := 5) kc_11_6 rfl rfl ?_
                refine xi_cmf (pc' := 10) kc_11_7 rfl rfl ?_
                refine xi_iconst (pc' := 11) (v := 1) kc_11_10 rfl rfl ?_
                refine xi_goto (pc' := 15) kc_11_11 rfl ?_
                refine xi_ireturn kc_11_15 mr_11 rfl ?_
                show xw J ov 98 10 (6, [(0, .int 2)], [.int 1], hh254) _
                refine xi_ireturn kc_10_6 mr_10 rfl ?_
                show xw J ov 99 15 (9, [(0, .ref 115), (1, .int 2), (2, .int a11), (3, .int a13)], [.int 1], hh254) _
                refine xi_iff (pc' := 12) kc_15_9 rfl rfl ?_
                refine xi_iload_n (pc' := 13) (x := a11) kc_15_12 rfl rfl ?_
                refine xi_iconst (pc' := 14) (v := 0) kc_15_13 rfl rfl ?_
                refine xi_bipush (pc' := 16) (v := 23) kc_15_14 rfl rfl ?_
                refine xi_static (mj := 11) (as := [.int a11, .int 0, .int 23]) (st1 := []) (lv0 := [(0, .int a11), (1, .int 0), (2, .int 23)]) kc_15_16 rfl rfl (Nat.le_of_ble_eq_true rfl) rfl rfl (Nat.le_of_ble_eq_true rfl) (hJ _ _ _ _ (by decide)) (xm_le ml_11 rfl) rfl ?_
                refine xi_iload_n (pc' := 1) (x := a11) kc_11_0 rfl rfl ?_
                refine xi_iload_n (pc' := 2) (x := 0) kc_11_1 rfl rfl ?_
                refine xi_cmf (pc' := 5) kc_11_2 rfl (xc_lt_f (X := a11.toInt) (Y := 0) rfl (by decide) (by omega)) ?_
                refine xi_iload_n (pc' := 6) (x := a11) kc_11_5 rfl rfl ?_
                refine xi_iload_n (pc' := 7) (x := 23) kc_11_6 rfl rfl ?_
                refine xi_cmf (pc' := 10) kc_11_7 rfl (xc_gt_f (X := a11.toInt) (Y := 23) rfl (by decide) (by omega)) ?_
                refine xi_iconst (pc' := 11) (v := 1) kc_11_10 rfl rfl ?_
                refine xi_goto (pc' := 15) kc_11_11 rfl ?_
                refine xi_ireturn kc_11_15 mr_11 rfl ?_
                show xw J ov 99 15 (19, [(0, .ref 115), (1, .int 2), (2, .int a11), (3, .int a13)], [.int 1], hh254) _
                refine xi_ift (pc' := 28) kc_15_19 rfl rfl ?_
                refine xi_iload_n (pc' := 29) (x := a13) kc_15_28 rfl rfl ?_
                refine xi_ift (pc' := 39) kc_15_29 rfl (xc_ge_t (X := a13.toInt) (Y := 0) rfl (by decide) (by omega)) ?_
                refine xi_iload_n (pc' := 40) (x := a13) kc_15_39 rfl rfl ?_
                refine xi_sipush (pc' := 43) (v := 999) kc_15_40 rfl rfl ?_
                refine xi_cmt (pc' := 53) kc_15_43 rfl (xc_le_t (X := a13.toInt) (Y := 999) rfl (by decide) (by omega)) ?_
                refine xi_aload_n (pc' := 54) (x := 115) kc_15_53 rfl rfl ?_
                refine xi_getfield (pc' := 57) (v := .ref 122) kc_15_54 rfl rfl rfl eh253.1 rfl ?_
                refine xi_bipush (pc' := 59) (v := 24) kc_15_57 rfl rfl ?_
                refine xi_iload_n (pc' := 60) (x := 2) kc_15_59 rfl rfl ?_
                refine xi_imul (pc' := 61) (v := 48) kc_15_60 rfl rfl ?_
                refine xi_iload_n (pc' := 62) (x := a11) kc_15_61 rfl rfl ?_
                obtain ⟨v256, ev256⟩ : ∃ q : Int32, 48 + a11 = q := ⟨_, rfl⟩
                have zv256 : v256.toInt = (a11.toInt + 48) := by rw [← ev256]; exact (xz_add (X := 48) (Y := a11.toInt) (by decide) rfl (by omega) (by omega)).trans (by omega)
                refine xi_iadd (pc' := 63) (v := v256) kc_15_62 rfl ev256 ?_
                have A257 := ((eh253.2.1 122 (by decide)).trans ((eh236.2.1 122 (by decide)).trans ((eh137.2.1 122 (by decide)).trans A2)))
                refine xi_iaload (pc' := 64) (v := v234) kc_15_63 rfl A257 (by decide) rfl (xi_in (by rw [zv256]; omega) (by rw [hy2]; rw [zv256]; omega)) (xE_ld H2 (by first | omega | decide) (by first | omega | decide) (by omega) ev234) ?_
                refine xi_istore (pc' := 66) (lv' := [(4, .int v234), (0, .ref 115), (1, .int 2), (2, .int a11), (3, .int a13)]) kc_15_64 rfl rfl (xm_lt ml_15 rfl) ?_
                refine xi_aload_n (pc' := 67) (x := 115) kc_15_66 rfl rfl ?_
                refine xi_getfield (pc' := 70) (v := .ref 122) kc_15_67 rfl rfl rfl eh253.1 rfl ?_
                refine xi_bipush (pc' := 72) (v := 24) kc_15_70 rfl rfl ?_
                refine xi_iload_n (pc' := 73) (x := 2) kc_15_72 rfl rfl ?_
                refine xi_imul (pc' := 74) (v := 48) kc_15_73 rfl rfl ?_
                refine xi_iload_n (pc' := 75) (x := a11) kc_15_74 rfl rfl ?_
                refine xi_iadd (pc' := 76) (v := v256) kc_15_75 rfl ev256 ?_
                refine xi_iload_n (pc' := 77) (x := a13) kc_15_76 rfl rfl ?_
                obtain ⟨y258, s258, hy258, ry258⟩ := xj_set (v := a13) hy2 ry2 v256 (by first | omega | decide) (by first | omega | decide)
                refine xi_iastore (pc' := 78) (x' := y258) kc_15_77 rfl A257 rfl (xi_in (by rw [zv256]; omega) (by rw [hy2]; rw [zv256]; omega)) s258 (fun hh258 eh258 => ?_)
                have K259 := xk_pa K255 (xk_wa rfl) xD_122 hy258 ry258 eh258
                refine xi_aload_n (pc' := 79) (x := 115) kc_15_78 rfl rfl ?_
                refine xi_iconst (pc' := 80) (v := 0) kc_15_79 rfl rfl ?_
                have A260 := ((eh258.2.1 115 (by decide)).trans eh253.1)
                refine xi_putfield (pc' := 83) (fs' := [.int 0, .int u239, .ref 116, .ref 117, .ref 118, .ref 119, .ref 120, .ref 121, .ref 122, .ref 123, .ref 124, .ref 125, .ref 126, .ref 127, .ref 128, .ref 129, .int u240, .ref 130, .int u241, .ref 131, .ref 132, .ref 133, .ref 134, .int u242, .ref 135, .ref 136, .ref 137, .ref 138, .ref 139, .ref 140, .ref 141, .ref 142, .int u243, .int u244, .int u245, .ref 143, .ref 144, .ref 145, .ref 146, .ref 147, .ref 148, .int 0, .ref 149, .ref 150, .ref 151, .int u247, .ref 152, .ref 153, .ref 154, .ref 155, .ref 156, .ref 157, .ref 158, .ref 159, .int u248, .ref 160, .int u249, .ref 161, .ref 162, .ref 163, .ref 164, .int u250, .ref 165, .ref 166]) kc_15_80 rfl rfl rfl A260 rfl rfl rfl (Nat.le_of_ble_eq_true rfl) rfl (fun hh262 eh261 => ?_)
                have K263 := xk_pf (k := 41) (v := 0) K259 (xk_wf rfl) xD_115 A260 rfl (by first | omega | decide) (by first | omega | decide) eh261 rfl
                refine xi_iload (pc' := 85) (x := v234) kc_15_83 rfl rfl ?_
                refine xi_ireturn kc_15_85 mr_15 rfl ?_
                show xw J ov 100 195 (285, [(4, .int x4), (3, .ref 167), (2, .ref 115), (1, .ref 0), (0, .ref 1000000)], [.int v234, .int v234], hh262) _
                refine xi_cmt (pc' := 1501) kc_195_285 rfl (xc_eq_t (X := v234.toInt) (Y := v234.toInt) rfl rfl (by omega)) ?_
                obtain ⟨v264, ev264⟩ : ∃ q : Int32, x4 + 6 = q := ⟨_, rfl⟩
                have zv264 : v264.toInt = (x4.toInt + 6) := by rw [← ev264]; exact (xz_add (X := x4.toInt) (Y := 6) rfl (by decide) (by omega) (by omega)).trans (by omega)
                refine xi_iinc (pc' := 1504) (x := x4) (v := v264) (lv' := [(4, .int v264), (3, .ref 167), (2, .ref 115), (1, .ref 0), (0, .ref 1000000)]) kc_195_1501 rfl rfl ev264 rfl (xm_lt ml_195 rfl) ?_
                refine xi_goto (pc' := 23) kc_195_1504 rfl ?_
                have A265 := ((eh261.2.1 13 (by decide)).trans ((eh258.2.1 13 (by decide)).trans ((eh253.2.1 13 (by decide)).trans ((eh236.2.1 13 (by decide)).trans ((eh137.2.1 13 (by decide)).trans A1)))))
                have A266 := ((eh261.2.1 122 (by decide)).trans eh258.1)
                have A267 := ((eh261.2.1 16 (by decide)).trans ((eh258.2.1 16 (by decide)).trans ((eh253.2.1 16 (by decide)).trans ((eh236.2.1 16 (by decide)).trans ((eh137.2.1 16 (by decide)).trans A3)))))
                have A268 := ((eh261.2.1 19 (by decide)).trans ((eh258.2.1 19 (by decide)).trans ((eh253.2.1 19 (by decide)).trans eh236.1)))
                have A269 := ((eh261.2.1 22 (by decide)).trans ((eh258.2.1 22 (by decide)).trans ((eh253.2.1 22 (by decide)).trans ((eh236.2.1 22 (by decide)).trans ((eh137.2.1 22 (by decide)).trans A5)))))
                have A270 := ((eh261.2.1 25 (by decide)).trans ((eh258.2.1 25 (by decide)).trans ((eh253.2.1 25 (by decide)).trans ((eh236.2.1 25 (by decide)).trans ((eh137.2.1 25 (by decide)).trans A6)))))
                have A271 := ((eh261.2.1 28 (by decide)).trans ((eh258.2.1 28 (by decide)).trans ((eh253.2.1 28 (by decide)).trans ((eh236.2.1 28 (by decide)).trans ((eh137.2.1 28 (by decide)).trans A7)))))
                exact kk v264 hh262 (by omega) K263 ⟨(xE_mk A265 A266 (xE_oth H0 (by first | omega | decide) (by omega) s258)), (xE_mk A267 A266 (xE_oth H1 (by first | omega | decide) (by omega) s258)), (xE_mk A268 A266 (xE_set H2 (by first | omega | decide) (by omega) (by omega) (by omega) s236 s258)), (xE_mk A269 A266 (xE_oth H3 (by first | omega | decide) (by omega) s258)), (xE_mk A270 A266 (xE_oth H4 (by first | omega | decide) (by omega) s258)), (xE_mk A271 A266 (xE_oth H5 (by first | omega | decide) (by omega) s258))⟩
              by_cases c272 : a9.toInt = 3
              · have qa9 : a9 = 3 := xc_of (Eq.trans (by omega) (show (3 : Int) = (3 : Int32).toInt by decide))
                subst qa9
                have A273 := ((eh137.2.1 2 (by decide)).trans A145)
                refine xi_aaload (pc' := 64) (b := 20) kc_94_63 rfl A273 rfl (xi_in (n := 6) (by decide) (by decide)) rfl ?_
                have A274 := xq_20 K.1
                have A275 := ((eh137.2.1 20 (by decide)).trans A274)
                refine xi_getfield (pc' := 67) (v := .ref 22) kc_94_64 rfl rfl rfl A275 rfl ?_
                refine xi_astore (pc' := 69) (lv' := [(4, .ref 22), (0, .ref 0), (1, .int 3), (2, .int a11), (3, .int a13)]) kc_94_67 rfl rfl (xm_lt ml_94 rfl) ?_
                refine xi_aload (pc' := 71) (x := 22) kc_94_69 rfl rfl ?_
                refine xi_iload_n (pc' := 72) (x := a11) kc_94_71 rfl rfl ?_
                obtain ⟨v276, ev276, bv276, dv276⟩ := xj_get hy5 ry5 (i := a11) (by omega) (by omega)
                have A277 := ((eh137.2.1 22 (by decide)).trans A5)
                refine xi_iaload (pc' := 73) (v := v276) kc_94_72 rfl A277 (by decide) rfl (xi_in (by omega) (by rw [hy5]; omega)) ev276 ?_
                refine xi_istore (pc' := 75) (lv' := [(5, .int v276), (4, .ref 22), (0, .ref 0), (1, .int 3), (2, .int a11), (3, .int a13)]) kc_94_73 rfl rfl (xm_lt ml_94 rfl) ?_
                refine xi_aload (pc' := 77) (x := 22) kc_94_75 rfl rfl ?_
                refine xi_iload_n (pc' := 78) (x := a11) kc_94_77 rfl rfl ?_
                refine xi_iload_n (pc' := 79) (x := a13) kc_94_78 rfl rfl ?_
                obtain ⟨y278, s278, hy278, ry278⟩ := xj_set (v := a13) hy5 ry5 a11 (by first | omega | decide) (by first | omega | decide)
                refine xi_iastore (pc' := 80) (x' := y278) kc_94_79 rfl A277 rfl (xi_in (by omega) (by rw [hy5]; omega)) s278 (fun hh278 eh278 => ?_)
                have K279 := xk_pa K139 (xk_wa rfl) xD_22 hy278 ry278 eh278
                refine xi_iload (pc' := 82) (x := v276) kc_94_80 rfl rfl ?_
                refine xi_ireturn kc_94_82 mr_94 rfl ?_
                show xw J ov 100 195 (263, [(4, .int x4), (3, .ref 167), (2, .ref 115), (1, .ref 0), (0, .ref 1000000)], [.int v276], hh278) _
                refine xi_aload_n (pc' := 264) (x := 115) kc_195_263 rfl rfl ?_
                refine xi_aload_n (pc' := 265) (x := 1000000) kc_195_264 rfl rfl ?_
                refine xi_iload (pc' := 267) (x := x4) kc_195_265 rfl rfl ?_
                refine xi_iconst (pc' := 268) (v := 1) kc_195_267 rfl rfl ?_
                refine xi_iadd (pc' := 269) (v := v8) kc_195_268 rfl ev8 ?_
                refine xi_ialoadO (pc' := 270) (v := 3) kc_195_269 rfl (by decide) hov0 (xi_in (by omega) (by omega)) ea9 ?_
                refine xi_aload_n (pc' := 271) (x := 1000000) kc_195_270 rfl rfl ?_
                refine xi_iload (pc' := 273) (x := x4) kc_195_271 rfl rfl ?_
                refine xi_iconst (pc' := 274) (v := 2) kc_195_273 rfl rfl ?_
                refine xi_iadd (pc' := 275) (v := v10) kc_195_274 rfl ev10 ?_
                refine xi_ialoadO (pc' := 276) (v := a11) kc_195_275 rfl (by decide) hov0 (xi_in (by omega) (by omega)) ea11 ?_
                refine xi_aload_n (pc' := 277) (x := 1000000) kc_195_276 rfl rfl ?_
                refine xi_iload (pc' := 279) (x := x4) kc_195_277 rfl rfl ?_
                refine xi_iconst (pc' := 280) (v := 3) kc_195_279 rfl rfl ?_
                refine xi_iadd (pc' := 281) (v := v12) kc_195_280 rfl ev12 ?_
                refine xi_ialoadO (pc' := 282) (v := a13) kc_195_281 rfl (by decide) hov0 (xi_in (by omega) (by omega)) ea13 ?_
                obtain ⟨u280, u281, u282, u283, u284, u285, u286, u287, u288, u289, u290, u291, u292, bu280, bu281, bu282, bu283, bu284, bu285, bu286, bu287, bu288, bu289, bu290, bu291, bu292, A293⟩ := xq_115 K.1
                have A294 := ((eh278.2.1 115 (by decide)).trans ((eh137.2.1 115 (by decide)).trans A293))
                refine xi_virtual (mj := 15) (as := [.int 3, .int a11, .int a13]) (st1 := [.int v276]) (lv0 := [(0, .ref 115), (1, .int 3), (2, .int a11), (3, .int a13)]) kc_195_282 rfl rfl rfl rfl rfl A294 (Nat.le_of_ble_eq_true rfl) (hJ _ _ _ _ (by decide)) (xm_le ml_15 rfl) rfl ?_
                refine xi_aload_n (pc' := 1) (x := 115) kc_15_0 rfl rfl ?_
                refine xi_iconst (pc' := 2) (v := 0) kc_15_1 rfl rfl ?_
                refine xi_putfield (pc' := 5) (fs' := [.int 0, .int u281, .ref 116, .ref 117, .ref 118, .ref 119, .ref 120, .ref 121, .ref 122, .ref 123, .ref 124, .ref 125, .ref 126, .ref 127, .ref 128, .ref 129, .int u282, .ref 130, .int u283, .ref 131, .ref 132, .ref 133, .ref 134, .int u284, .ref 135, .ref 136, .ref 137, .ref 138, .ref 139, .ref 140, .ref 141, .ref 142, .int u285, .int u286, .int u287, .ref 143, .ref 144, .ref 145, .ref 146, .ref 147, .ref 148, .int u288, .ref 149, .ref 150, .ref 151, .int u289, .ref 152, .ref 153, .ref 154, .ref 155, .ref 156, .ref 157, .ref 158, .ref 159, .int u290, .ref 160, .int u291, .ref 161, .ref 162, .ref 163, .ref 164, .int u292, .ref 165, .ref 166]) kc_15_2 rfl rfl rfl A294 rfl rfl rfl (Nat.le_of_ble_eq_true rfl) rfl (fun hh296 eh295 => ?_)
                have K297 := xk_pf (k := 0) (v := 0) K279 (xk_wf rfl) xD_115 A294 rfl (by first | omega | decide) (by first | omega | decide) eh295 rfl
                refine xi_iload_n (pc' := 6) (x := 3) kc_15_5 rfl rfl ?_
                refine xi_static (mj := 10) (as := [.int 3]) (st1 := []) (lv0 := [(0, .int 3)]) kc_15_6 rfl rfl (Nat.le_of_ble_eq_true rfl) rfl rfl (Nat.le_of_ble_eq_true rfl) (hJ _ _ _ _ (by decide)) (xm_le ml_10 rfl) rfl ?_
                refine xi_iload_n (pc' := 1) (x := 3) kc_10_0 rfl rfl ?_
                refine xi_iconst (pc' := 2) (v := 0) kc_10_1 rfl rfl ?_
                refine xi_iconst (pc' := 3) (v := 5) kc_10_2 rfl rfl ?_
                refine xi_static (mj := 11) (as := [.int 3, .int 0, .int 5]) (st1 := []) (lv0 := [(0, .int 3), (1, .int 0), (2, .int 5)]) kc_10_3 rfl rfl (Nat.le_of_ble_eq_true rfl) rfl rfl (Nat.le_of_ble_eq_true rfl) (hJ _ _ _ _ (by decide)) (xm_le ml_11 rfl) rfl ?_
                refine xi_iload_n (pc' := 1) (x := 3) kc_11_0 rfl rfl ?_
                refine xi_iload_n (pc' := 2) (x := 0) kc_11_1 rfl rfl ?_
                refine xi_cmf (pc' := 5) kc_11_2 rfl rfl ?_
                refine xi_iload_n (pc' := 6) (x := 3) kc_11_5 rfl rfl ?_
                refine xi_iload_n (pc' := 7) (x := 5) kc_11_6 rfl rfl ?_
                refine xi_cmf (pc' := 10) kc_11_7 rfl rfl ?_
                refine xi_iconst (pc' := 11) (v := 1) kc_11_10 rfl rfl ?_
                refine xi_goto (pc' := 15) kc_11_11 rfl ?_
                refine xi_ireturn kc_11_15 mr_11 rfl ?_
                show xw J ov 98 10 (6, [(0, .int 3)], [.int 1], hh296) _
                refine xi_ireturn kc_10_6 mr_10 rfl ?_
                show xw J ov 99 15 (9, [(0, .ref 115), (1, .int 3), (2, .int a11), (3, .int a13)], [.int 1], hh296) _
                refine xi_iff (pc' := 12) kc_15_9 rfl rfl ?_
                refine xi_iload_n (pc' := 13) (x := a11) kc_15_12 rfl rfl ?_
                refine xi_iconst (pc' := 14) (v := 0) kc_15_13 rfl rfl ?_
                refine xi_bipush (pc' := 16) (v := 23) kc_15_14 rfl rfl ?_
                refine xi_static (mj := 11) (as := [.int a11, .int 0, .int 23]) (st1 := []) (lv0 := [(0, .int a11), (1, .int 0), (2, .int 23)]) kc_15_16 rfl rfl (Nat.le_of_ble_eq_true rfl) rfl rfl (Nat.le_of_ble_eq_true rfl) (hJ _ _ _ _ (by decide)) (xm_le ml_11 rfl) rfl ?_
                refine xi_iload_n (pc' := 1) (x := a11) kc_11_0 rfl rfl ?_
                refine xi_iload_n (pc' := 2) (x := 0) kc_11_1 rfl rfl ?_
                refine xi_cmf (pc' := 5) kc_11_2 rfl (xc_lt_f (X := a11.toInt) (Y := 0) rfl (by decide) (by omega)) ?_
                refine xi_iload_n (pc' := 6) (x := a11) kc_11_5 rfl rfl ?_
                refine xi_iload_n (pc' := 7) (x := 23) kc_11_6 rfl rfl ?_
                refine xi_cmf (pc' := 10) kc_11_7 rfl (xc_gt_f (X := a11.toInt) (Y := 23) rfl (by decide) (by omega)) ?_
                refine xi_iconst (pc' := 11) (v := 1) kc_11_10 rfl rfl ?_
                refine xi_goto (pc' := 15) kc_11_11 rfl ?_
                refine xi_ireturn kc_11_15 mr_11 rfl ?_
                show xw J ov 99 15 (19, [(0, .ref 115), (1, .int 3), (2, .int a11), (3, .int a13)], [.int 1], hh296) _
                refine xi_ift (pc' := 28) kc_15_19 rfl rfl ?_
                refine xi_iload_n (pc' := 29) (x := a13) kc_15_28 rfl rfl ?_
                refine xi_ift (pc' := 39) kc_15_29 rfl (xc_ge_t (X := a13.toInt) (Y := 0) rfl (by decide) (by omega)) ?_
                refine xi_iload_n (pc' := 40) (x := a13) kc_15_39 rfl rfl ?_
                refine xi_sipush (pc' := 43) (v := 999) kc_15_40 rfl rfl ?_
                refine xi_cmt (pc' := 53) kc_15_43 rfl (xc_le_t (X := a13.toInt) (Y := 999) rfl (by decide) (by omega)) ?_
                refine xi_aload_n (pc' := 54) (x := 115) kc_15_53 rfl rfl ?_
                refine xi_getfield (pc' := 57) (v := .ref 122) kc_15_54 rfl rfl rfl eh295.1 rfl ?_
                refine xi_bipush (pc' := 59) (v := 24) kc_15_57 rfl rfl ?_
                refine xi_iload_n (pc' := 60) (x := 3) kc_15_59 rfl rfl ?_
                refine xi_imul (pc' := 61) (v := 72) kc_15_60 rfl rfl ?_
                refine xi_iload_n (pc' := 62) (x := a11) kc_15_61 rfl rfl ?_
                obtain ⟨v298, ev298⟩ : ∃ q : Int32, 72 + a11 = q := ⟨_, rfl⟩
                have zv298 : v298.toInt = (a11.toInt + 72) := by rw [← ev298]; exact (xz_add (X := 72) (Y := a11.toInt) (by decide) rfl (by omega) (by omega)).trans (by omega)
                refine xi_iadd (pc' := 63) (v := v298) kc_15_62 rfl ev298 ?_
                have A299 := ((eh295.2.1 122 (by decide)).trans ((eh278.2.1 122 (by decide)).trans ((eh137.2.1 122 (by decide)).trans A2)))
                refine xi_iaload (pc' := 64) (v := v276) kc_15_63 rfl A299 (by decide) rfl (xi_in (by rw [zv298]; omega) (by rw [hy2]; rw [zv298]; omega)) (xE_ld H3 (by first | omega | decide) (by first | omega | decide) (by omega) ev276) ?_
                refine xi_istore (pc' := 66) (lv' := [(4, .int v276), (0, .ref 115), (1, .int 3), (2, .int a11), (3, .int a13)]) kc_15_64 rfl rfl (xm_lt ml_15 rfl) ?_
                refine xi_aload_n (pc' := 67) (x := 115) kc_15_66 rfl rfl ?_
                refine xi_getfield (pc' := 70) (v := .ref 122) kc_15_67 rfl rfl rfl eh295.1 rfl ?_
                refine xi_bipush (pc' := 72) (v := 24) kc_15_70 rfl rfl ?_
                refine xi_iload_n (pc' := 73) (x := 3) kc_15_72 rfl rfl ?_
                refine xi_imul (pc' := 74) (v := 72) kc_15_73 rfl rfl ?_
                refine xi_iload_n (pc' := 75) (x := a11) kc_15_74 rfl rfl ?_
                refine xi_iadd (pc' := 76) (v := v298) kc_15_75 rfl ev298 ?_
                refine xi_iload_n (pc' := 77) (x := a13) kc_15_76 rfl rfl ?_
                obtain ⟨y300, s300, hy300, ry300⟩ := xj_set (v := a13) hy2 ry2 v298 (by first | omega | decide) (by first | omega | decide)
                refine xi_iastore (pc' := 78) (x' := y300) kc_15_77 rfl A299 rfl (xi_in (by rw [zv298]; omega) (by rw [hy2]; rw [zv298]; omega)) s300 (fun hh300 eh300 => ?_)
                have K301 := xk_pa K297 (xk_wa rfl) xD_122 hy300 ry300 eh300
                refine xi_aload_n (pc' := 79) (x := 115) kc_15_78 rfl rfl ?_
                refine xi_iconst (pc' := 80) (v := 0) kc_15_79 rfl rfl ?_
                have A302 := ((eh300.2.1 115 (by decide)).trans eh295.1)
                refine xi_putfield (pc' := 83) (fs' := [.int 0, .int u281, .ref 116, .ref 117, .ref 118, .ref 119, .ref 120, .ref 121, .ref 122, .ref 123, .ref 124, .ref 125, .ref 126, .ref 127, .ref 128, .ref 129, .int u282, .ref 130, .int u283, .ref 131, .ref 132, .ref 133, .ref 134, .int u284, .ref 135, .ref 136, .ref 137, .ref 138, .ref 139, .ref 140, .ref 141, .ref 142, .int u285, .int u286, .int u287, .ref 143, .ref 144, .ref 145, .ref 146, .ref 147, .ref 148, .int 0, .ref 149, .ref 150, .ref 151, .int u289, .ref 152, .ref 153, .ref 154, .ref 155, .ref 156, .ref 157, .ref 158, .ref 159, .int u290, .ref 160, .int u291, .ref 161, .ref 162, .ref 163, .ref 164, .int u292, .ref 165, .ref 166]) kc_15_80 rfl rfl rfl A302 rfl rfl rfl (Nat.le_of_ble_eq_true rfl) rfl (fun hh304 eh303 => ?_)
                have K305 := xk_pf (k := 41) (v := 0) K301 (xk_wf rfl) xD_115 A302 rfl (by first | omega | decide) (by first | omega | decide) eh303 rfl
                refine xi_iload (pc' := 85) (x := v276) kc_15_83 rfl rfl ?_
                refine xi_ireturn kc_15_85 mr_15 rfl ?_
                show xw J ov 100 195 (285, [(4, .int x4), (3, .ref 167), (2, .ref 115), (1, .ref 0), (0, .ref 1000000)], [.int v276, .int v276], hh304) _
                refine xi_cmt (pc' := 1501) kc_195_285 rfl (xc_eq_t (X := v276.toInt) (Y := v276.toInt) rfl rfl (by omega)) ?_
                obtain ⟨v306, ev306⟩ : ∃ q : Int32, x4 + 6 = q := ⟨_, rfl⟩
                have zv306 : v306.toInt = (x4.toInt + 6) := by rw [← ev306]; exact (xz_add (X := x4.toInt) (Y := 6) rfl (by decide) (by omega) (by omega)).trans (by omega)
                refine xi_iinc (pc' := 1504) (x := x4) (v := v306) (lv' := [(4, .int v306), (3, .ref 167), (2, .ref 115), (1, .ref 0), (0, .ref 1000000)]) kc_195_1501 rfl rfl ev306 rfl (xm_lt ml_195 rfl) ?_
                refine xi_goto (pc' := 23) kc_195_1504 rfl ?_
                have A307 := ((eh303.2.1 13 (by decide)).trans ((eh300.2.1 13 (by decide)).trans ((eh295.2.1 13 (by decide)).trans ((eh278.2.1 13 (by decide)).trans ((eh137.2.1 13 (by decide)).trans A1)))))
                have A308 := ((eh303.2.1 122 (by decide)).trans eh300.1)
                have A309 := ((eh303.2.1 16 (by decide)).trans ((eh300.2.1 16 (by decide)).trans ((eh295.2.1 16 (by decide)).trans ((eh278.2.1 16 (by decide)).trans ((eh137.2.1 16 (by decide)).trans A3)))))
                have A310 := ((eh303.2.1 19 (by decide)).trans ((eh300.2.1 19 (by decide)).trans ((eh295.2.1 19 (by decide)).trans ((eh278.2.1 19 (by decide)).trans ((eh137.2.1 19 (by decide)).trans A4)))))
                have A311 := ((eh303.2.1 22 (by decide)).trans ((eh300.2.1 22 (by decide)).trans ((eh295.2.1 22 (by decide)).trans eh278.1)))
                have A312 := ((eh303.2.1 25 (by decide)).trans ((eh300.2.1 25 (by decide)).trans ((eh295.2.1 25 (by decide)).trans ((eh278.2.1 25 (by decide)).trans ((eh137.2.1 25 (by decide)).trans A6)))))
                have A313 := ((eh303.2.1 28 (by decide)).trans ((eh300.2.1 28 (by decide)).trans ((eh295.2.1 28 (by decide)).trans ((eh278.2.1 28 (by decide)).trans ((eh137.2.1 28 (by decide)).trans A7)))))
                exact kk v306 hh304 (by omega) K305 ⟨(xE_mk A307 A308 (xE_oth H0 (by first | omega | decide) (by omega) s300)), (xE_mk A309 A308 (xE_oth H1 (by first | omega | decide) (by omega) s300)), (xE_mk A310 A308 (xE_oth H2 (by first | omega | decide) (by omega) s300)), (xE_mk A311 A308 (xE_set H3 (by first | omega | decide) (by omega) (by omega) (by omega) s278 s300)), (xE_mk A312 A308 (xE_oth H4 (by first | omega | decide) (by omega) s300)), (xE_mk A313 A308 (xE_oth H5 (by first | omega | decide) (by omega) s300))⟩
              by_cases c314 : a9.toInt = 4
              · have qa9 : a9 = 4 := xc_of (Eq.trans (by omega) (show (4 : Int) = (4 : Int32).toInt by decide))
                subst qa9
                have A315 := ((eh137.2.1 2 (by decide)).trans A145)
                refine xi_aaload (pc' := 64) (b := 23) kc_94_63 rfl A315 rfl (xi_in (n := 6) (by decide) (by decide)) rfl ?_
                have A316 := xq_23 K.1
                have A317 := ((eh137.2.1 23 (by decide)).trans A316)
                refine xi_getfield (pc' := 67) (v := .ref 25) kc_94_64 rfl rfl rfl A317 rfl ?_
                refine xi_astore (pc' := 69) (lv' := [(4, .ref 25), (0, .ref 0), (1, .int 4), (2, .int a11), (3, .int a13)]) kc_94_67 rfl rfl (xm_lt ml_94 rfl) ?_
                refine xi_aload (pc' := 71) (x := 25) kc_94_69 rfl rfl ?_
                refine xi_iload_n (pc' := 72) (x := a11) kc_94_71 rfl rfl ?_
                obtain ⟨v318, ev318, bv318, dv318⟩ := xj_get hy6 ry6 (i := a11) (by omega) (by omega)
                have A319 := ((eh137.2.1 25 (by decide)).trans A6)
                refine xi_iaload (pc' := 73) (v := v318) kc_94_72 rfl A319 (by decide) rfl (xi_in (by omega) (by rw [hy6]; omega)) ev318 ?_
                refine xi_istore (pc' := 75) (lv' := [(5, .int v318), (4, .ref 25), (0, .ref 0), (1, .int 4), (2, .int a11), (3, .int a13)]) kc_94_73 rfl rfl (xm_lt ml_94 rfl) ?_
                refine xi_aload (pc' := 77) (x := 25) kc_94_75 rfl rfl ?_
                refine xi_iload_n (pc' := 78) (x := a11) kc_94_77 rfl rfl ?_
                refine xi_iload_n (pc' := 79) (x := a13) kc_94_78 rfl rfl ?_
                obtain ⟨y320, s320, hy320, ry320⟩ := xj_set (v := a13) hy6 ry6 a11 (by first | omega | decide) (by first | omega | decide)
                refine xi_iastore (pc' := 80) (x' := y320) kc_94_79 rfl A319 rfl (xi_in (by omega) (by rw [hy6]; omega)) s320 (fun hh320 eh320 => ?_)
                have K321 := xk_pa K139 (xk_wa rfl) xD_25 hy320 ry320 eh320
                refine xi_iload (pc' := 82) (x := v318) kc_94_80 rfl rfl ?_
                refine xi_ireturn kc_94_82 mr_94 rfl ?_
                show xw J ov 100 195 (263, [(4, .int x4), (3, .ref 167), (2, .ref 115), (1, .ref 0), (0, .ref 1000000)], [.int v318], hh320) _
                refine xi_aload_n (pc' := 264) (x := 115) kc_195_263 rfl rfl ?_
                refine xi_aload_n (pc' := 265) (x := 1000000) kc_195_264 rfl rfl ?_
                refine xi_iload (pc' := 267) (x := x4) kc_195_265 rfl rfl ?_
                refine xi_iconst (pc' := 268) (v := 1) kc_195_267 rfl rfl ?_
                refine xi_iadd (pc' := 269) (v := v8) kc_195_268 rfl ev8 ?_
                refine xi_ialoadO (pc' := 270) (v := 4) kc_195_269 rfl (by decide) hov0 (xi_in (by omega) (by omega)) ea9 ?_
                refine xi_aload_n (pc' := 271) (x := 1000000) kc_195_270 rfl rfl ?_
                refine xi_iload (pc' := 273) (x := x4) kc_195_271 rfl rfl ?_
                refine xi_iconst (pc' := 274) (v := 2) kc_195_273 rfl rfl ?_
                refine xi_iadd (pc' := 275) (v := v10) kc_195_274 rfl ev10 ?_
                refine xi_ialoadO (pc' := 276) (v := a11) kc_195_275 rfl (by decide) hov0 (xi_in (by omega) (by omega)) ea11 ?_
                refine xi_aload_n (pc' := 277) (x := 1000000) kc_195_276 rfl rfl ?_
                refine xi_iload (pc' := 279) (x := x4) kc_195_277 rfl rfl ?_
                refine xi_iconst (pc' := 280) (v := 3) kc_195_279 rfl rfl ?_
                refine xi_iadd (pc' := 281) (v := v12) kc_195_280 rfl ev12 ?_
                refine xi_ialoadO (pc' := 282) (v := a13) kc_195_281 rfl (by decide) hov0 (xi_in (by omega) (by omega)) ea13 ?_
                obtain ⟨u322, u323, u324, u325, u326, u327, u328, u329, u330, u331, u332, u333, u334, bu322, bu323, bu324, bu325, bu326, bu327, bu328, bu329, bu330, bu331, bu332, bu333, bu334, A335⟩ := xq_115 K.1
                have A336 := ((eh320.2.1 115 (by decide)).trans ((eh137.2.1 115 (by decide)).trans A335))
                refine xi_virtual (mj := 15) (as := [.int 4, .int a11, .int a13]) (st1 := [.int v318]) (lv0 := [(0, .ref 115), (1, .int 4), (2, .int a11), (3, .int a13)]) kc_195_282 rfl rfl rfl rfl rfl A336 (Nat.le_of_ble_eq_true rfl) (hJ _ _ _ _ (by decide)) (xm_le ml_15 rfl) rfl ?_
                refine xi_aload_n (pc' := 1) (x := 115) kc_15_0 rfl rfl ?_
                refine xi_iconst (pc' := 2) (v := 0) kc_15_1 rfl rfl ?_
                refine xi_putfield (pc' := 5) (fs' := [.int 0, .int u323, .ref 116, .ref 117, .ref 118, .ref 119, .ref 120, .ref 121, .ref 122, .ref 123, .ref 124, .ref 125, .ref 126, .ref 127, .ref 128, .ref 129, .int u324, .ref 130, .int u325, .ref 131, .ref 132, .ref 133, .ref 134, .int u326, .ref 135, .ref 136, .ref 137, .ref 138, .ref 139, .ref 140, .ref 141, .ref 142, .int u327, .int u328, .int u329, .ref 143, .ref 144, .ref 145, .ref 146, .ref 147, .ref 148, .int u330, .ref 149, .ref 150, .ref 151, .int u331, .ref 152, .ref 153, .ref 154, .ref 155, .ref 156, .ref 157, .ref 158, .ref 159, .int u332, .ref 160, .int u333, .ref 161, .ref 162, .ref 163, .ref 164, .int u334, .ref 165, .ref 166]) kc_15_2 rfl rfl rfl A336 rfl rfl rfl (Nat.le_of_ble_eq_true rfl) rfl (fun hh338 eh337 => ?_)
                have K339 := xk_pf (k := 0) (v := 0) K321 (xk_wf rfl) xD_115 A336 rfl (by first | omega | decide) (by first | omega | decide) eh337 rfl
                refine xi_iload_n (pc' := 6) (x := 4) kc_15_5 rfl rfl ?_
                refine xi_static (mj := 10) (as := [.int 4]) (st1 := []) (lv0 := [(0, .int 4)]) kc_15_6 rfl rfl (Nat.le_of_ble_eq_true rfl) rfl rfl (Nat.le_of_ble_eq_true rfl) (hJ _ _ _ _ (by decide)) (xm_le ml_10 rfl) rfl ?_
                refine xi_iload_n (pc' := 1) (x := 4) kc_10_0 rfl rfl ?_
                refine xi_iconst (pc' := 2) (v := 0) kc_10_1 rfl rfl ?_
                refine xi_iconst (pc' := 3) (v := 5) kc_10_2 rfl rfl ?_
                refine xi_static (mj := 11) (as := [.int 4, .int 0, .int 5]) (st1 := []) (lv0 := [(0, .int 4), (1, .int 0), (2, .int 5)]) kc_10_3 rfl rfl (Nat.le_of_ble_eq_true rfl) rfl rfl (Nat.le_of_ble_eq_true rfl) (hJ _ _ _ _ (by decide)) (xm_le ml_11 rfl) rfl ?_
                refine xi_iload_n (pc' := 1) (x := 4) kc_11_0 rfl rfl ?_
                refine xi_iload_n (pc' := 2) (x := 0) kc_11_1 rfl rfl ?_
                refine xi_cmf (pc' := 5) kc_11_2 rfl rfl ?_
                refine xi_iload_n (pc' := 6) (x := 4) kc_11_5 rfl rfl ?_
                refine xi_iload_n (pc' := 7) (x := 5) kc_11_6 rfl rfl ?_
                refine xi_cmf (pc' := 10) kc_11_7 rfl rfl ?_
                refine xi_iconst (pc' := 11) (v := 1) kc_11_10 rfl rfl ?_
                refine xi_goto (pc' := 15) kc_11_11 rfl ?_
                refine xi_ireturn kc_11_15 mr_11 rfl ?_
                show xw J ov 98 10 (6, [(0, .int 4)], [.int 1], hh338) _
                refine xi_ireturn kc_10_6 mr_10 rfl ?_
                show xw J ov 99 15 (9, [(0, .ref 115), (1, .int 4), (2, .int a11), (3, .int a13)], [.int 1], hh338) _
                refine xi_iff (pc' := 12) kc_15_9 rfl rfl ?_
                refine xi_iload_n (pc' := 13) (x := a11) kc_15_12 rfl rfl ?_
                refine xi_iconst (pc' := 14) (v := 0) kc_15_13 rfl rfl ?_
                refine xi_bipush (pc' := 16) (v := 23) kc_15_14 rfl rfl ?_
                refine xi_static (mj := 11) (as := [.int a11, .int 0, .int 23]) (st1 := []) (lv0 := [(0, .int a11), (1, .int 0), (2, .int 23)]) kc_15_16 rfl rfl (Nat.le_of_ble_eq_true rfl) rfl rfl (Nat.le_of_ble_eq_true rfl) (hJ _ _ _ _ (by decide)) (xm_le ml_11 rfl) rfl ?_
                refine xi_iload_n (pc' := 1) (x := a11) kc_11_0 rfl rfl ?_
                refine xi_iload_n (pc' := 2) (x := 0) kc_11_1 rfl rfl ?_
                refine xi_cmf (pc' := 5) kc_11_2 rfl (xc_lt_f (X := a11.toInt) (Y := 0) rfl (by decide) (by omega)) ?_
                refine xi_iload_n (pc' := 6) (x := a11) kc_11_5 rfl rfl ?_
                refine xi_iload_n (pc' := 7) (x := 23) kc_11_6 rfl rfl ?_
                refine xi_cmf (pc' := 10) kc_11_7 rfl (xc_gt_f (X := a11.toInt) (Y := 23) rfl (by decide) (by omega)) ?_
                refine xi_iconst (pc' := 11) (v := 1) kc_11_10 rfl rfl ?_
                refine xi_goto (pc' := 15) kc_11_11 rfl ?_
                refine xi_ireturn kc_11_15 mr_11 rfl ?_
                show xw J ov 99 15 (19, [(0, .ref 115), (1, .int 4), (2, .int a11), (3, .int a13)], [.int 1], hh338) _
                refine xi_ift (pc' := 28) kc_15_19 rfl rfl ?_
                refine xi_iload_n (pc' := 29) (x := a13) kc_15_28 rfl rfl ?_
                refine xi_ift (pc' := 39) kc_15_29 rfl (xc_ge_t (X := a13.toInt) (Y := 0) rfl (by decide) (by omega)) ?_
                refine xi_iload_n (pc' := 40) (x := a13) kc_15_39 rfl rfl ?_
                refine xi_sipush (pc' := 43) (v := 999) kc_15_40 rfl rfl ?_
                refine xi_cmt (pc' := 53) kc_15_43 rfl (xc_le_t (X := a13.toInt) (Y := 999) rfl (by decide) (by omega)) ?_
                refine xi_aload_n (pc' := 54) (x := 115) kc_15_53 rfl rfl ?_
                refine xi_getfield (pc' := 57) (v := .ref 122) kc_15_54 rfl rfl rfl eh337.1 rfl ?_
                refine xi_bipush (pc' := 59) (v := 24) kc_15_57 rfl rfl ?_
                refine xi_iload_n (pc' := 60) (x := 4) kc_15_59 rfl rfl ?_
                refine xi_imul (pc' := 61) (v := 96) kc_15_60 rfl rfl ?_
                refine xi_iload_n (pc' := 62) (x := a11) kc_15_61 rfl rfl ?_
                obtain ⟨v340, ev340⟩ : ∃ q : Int32, 96 + a11 = q := ⟨_, rfl⟩
                have zv340 : v340.toInt = (a11.toInt + 96) := by rw [← ev340]; exact (xz_add (X := 96) (Y := a11.toInt) (by decide) rfl (by omega) (by omega)).trans (by omega)
                refine xi_iadd (pc' := 63) (v := v340) kc_15_62 rfl ev340 ?_
                have A341 := ((eh337.2.1 122 (by decide)).trans ((eh320.2.1 122 (by decide)).trans ((eh137.2.1 122 (by decide)).trans A2)))
                refine xi_iaload (pc' := 64) (v := v318) kc_15_63 rfl A341 (by decide) rfl (xi_in (by rw [zv340]; omega) (by rw [hy2]; rw [zv340]; omega)) (xE_ld H4 (by first | omega | decide) (by first | omega | decide) (by omega) ev318) ?_
                refine xi_istore (pc' := 66) (lv' := [(4, .int v318), (0, .ref 115), (1, .int 4), (2, .int a11), (3, .int a13)]) kc_15_64 rfl rfl (xm_lt ml_15 rfl) ?_
                refine xi_aload_n (pc' := 67) (x := 115) kc_15_66 rfl rfl ?_
                refine xi_getfield (pc' := 70) (v := .ref 122) kc_15_67 rfl rfl rfl eh337.1 rfl ?_
                refine xi_bipush (pc' := 72) (v := 24) kc_15_70 rfl rfl ?_
                refine xi_iload_n (pc' := 73) (x := 4) kc_15_72 rfl rfl ?_
                refine xi_imul (pc' := 74) (v := 96) kc_15_73 rfl rfl ?_
                refine xi_iload_n (pc' := 75) (x := a11) kc_15_74 rfl rfl ?_
                refine xi_iadd (pc' := 76) (v := v340) kc_15_75 rfl ev340 ?_
                refine xi_iload_n (pc' := 77) (x := a13) kc_15_76 rfl rfl ?_
                obtain ⟨y342, s342, hy342, ry342⟩ := xj_set (v := a13) hy2 ry2 v340 (by first | omega | decide) (by first | omega | decide)
                refine xi_iastore (pc' := 78) (x' := y342) kc_15_77 rfl A341 rfl (xi_in (by rw [zv340]; omega) (by rw [hy2]; rw [zv340]; omega)) s342 (fun hh342 eh342 => ?_)
                have K343 := xk_pa K339 (xk_wa rfl) xD_122 hy342 ry342 eh342
                refine xi_aload_n (pc' := 79) (x := 115) kc_15_78 rfl rfl ?_
                refine xi_iconst (pc' := 80) (v := 0) kc_15_79 rfl rfl ?_
                have A344 := ((eh342.2.1 115 (by decide)).trans eh337.1)
                refine xi_putfield (pc' := 83) (fs' := [.int 0, .int u323, .ref 116, .ref 117, .ref 118, .ref 119, .ref 120, .ref 121, .ref 122, .ref 123, .ref 124, .ref 125, .ref 126, .ref 127, .ref 128, .ref 129, .int u324, .ref 130, .int u325, .ref 131, .ref 132, .ref 133, .ref 134, .int u326, .ref 135, .ref 136, .ref 137, .ref 138, .ref 139, .ref 140, .ref 141, .ref 142, .int u327, .int u328, .int u329, .ref 143, .ref 144, .ref 145, .ref 146, .ref 147, .ref 148, .int 0, .ref 149, .ref 150, .ref 151, .int u331, .ref 152, .ref 153, .ref 154, .ref 155, .ref 156, .ref 157, .ref 158, .ref 159, .int u332, .ref 160, .int u333, .ref 161, .ref 162, .ref 163, .ref 164, .int u334, .ref 165, .ref 166]) kc_15_80 rfl rfl rfl A344 rfl rfl rfl (Nat.le_of_ble_eq_true rfl) rfl (fun hh346 eh345 => ?_)
                have K347 := xk_pf (k := 41) (v := 0) K343 (xk_wf rfl) xD_115 A344 rfl (by first | omega | decide) (by first | omega | decide) eh345 rfl
                refine xi_iload (pc' := 85) (x := v318) kc_15_83 rfl rfl ?_
                refine xi_ireturn kc_15_85 mr_15 rfl ?_
                show xw J ov 100 195 (285, [(4, .int x4), (3, .ref 167), (2, .ref 115), (1, .ref 0), (0, .ref 1000000)], [.int v318, .int v318], hh346) _
                refine xi_cmt (pc' := 1501) kc_195_285 rfl (xc_eq_t (X := v318.toInt) (Y := v318.toInt) rfl rfl (by omega)) ?_
                obtain ⟨v348, ev348⟩ : ∃ q : Int32, x4 + 6 = q := ⟨_, rfl⟩
                have zv348 : v348.toInt = (x4.toInt + 6) := by rw [← ev348]; exact (xz_add (X := x4.toInt) (Y := 6) rfl (by decide) (by omega) (by omega)).trans (by omega)
                refine xi_iinc (pc' := 1504) (x := x4) (v := v348) (lv' := [(4, .int v348), (3, .ref 167), (2, .ref 115), (1, .ref 0), (0, .ref 1000000)]) kc_195_1501 rfl rfl ev348 rfl (xm_lt ml_195 rfl) ?_
                refine xi_goto (pc' := 23) kc_195_1504 rfl ?_
                have A349 := ((eh345.2.1 13 (by decide)).trans ((eh342.2.1 13 (by decide)).trans ((eh337.2.1 13 (by decide)).trans ((eh320.2.1 13 (by decide)).trans ((eh137.2.1 13 (by decide)).trans A1)))))
                have A350 := ((eh345.2.1 122 (by decide)).trans eh342.1)
                have A351 := ((eh345.2.1 16 (by decide)).trans ((eh342.2.1 16 (by decide)).trans ((eh337.2.1 16 (by decide)).trans ((eh320.2.1 16 (by decide)).trans ((eh137.2.1 16 (by decide)).trans A3)))))
                have A352 := ((eh345.2.1 19 (by decide)).trans ((eh342.2.1 19 (by decide)).trans ((eh337.2.1 19 (by decide)).trans ((eh320.2.1 19 (by decide)).trans ((eh137.2.1 19 (by decide)).trans A4)))))
                have A353 := ((eh345.2.1 22 (by decide)).trans ((eh342.2.1 22 (by decide)).trans ((eh337.2.1 22 (by decide)).trans ((eh320.2.1 22 (by decide)).trans ((eh137.2.1 22 (by decide)).trans A5)))))
                have A354 := ((eh345.2.1 25 (by decide)).trans ((eh342.2.1 25 (by decide)).trans ((eh337.2.1 25 (by decide)).trans eh320.1)))
                have A355 := ((eh345.2.1 28 (by decide)).trans ((eh342.2.1 28 (by decide)).trans ((eh337.2.1 28 (by decide)).trans ((eh320.2.1 28 (by decide)).trans ((eh137.2.1 28 (by decide)).trans A7)))))
                exact kk v348 hh346 (by omega) K347 ⟨(xE_mk A349 A350 (xE_oth H0 (by first | omega | decide) (by omega) s342)), (xE_mk A351 A350 (xE_oth H1 (by first | omega | decide) (by omega) s342)), (xE_mk A352 A350 (xE_oth H2 (by first | omega | decide) (by omega) s342)), (xE_mk A353 A350 (xE_oth H3 (by first | omega | decide) (by omega) s342)), (xE_mk A354 A350 (xE_set H4 (by first | omega | decide) (by omega) (by omega) (by omega) s320 s342)), (xE_mk A355 A350 (xE_oth H5 (by first | omega | decide) (by omega) s342))⟩
              have qa9 : a9 = 5 := xc_of (Eq.trans (by omega) (show (5 : Int) = (5 : Int32).toInt by decide))
              subst qa9
              have A356 := ((eh137.2.1 2 (by decide)).trans A145)
              refine xi_aaload (pc' := 64) (b := 26) kc_94_63 rfl A356 rfl (xi_in (n := 6) (by decide) (by decide)) rfl ?_
              have A357 := xq_26 K.1
              have A358 := ((eh137.2.1 26 (by decide)).trans A357)
              refine xi_getfield (pc' := 67) (v := .ref 28) kc_94_64 rfl rfl rfl A358 rfl ?_
              refine xi_astore (pc' := 69) (lv' := [(4, .ref 28), (0, .ref 0), (1, .int 5), (2, .int a11), (3, .int a13)]) kc_94_67 rfl rfl (xm_lt ml_94 rfl) ?_
              refine xi_aload (pc' := 71) (x := 28) kc_94_69 rfl rfl ?_
              refine xi_iload_n (pc' := 72) (x := a11) kc_94_71 rfl rfl ?_
              obtain ⟨v359, ev359, bv359, dv359⟩ := xj_get hy7 ry7 (i := a11) (by omega) (by omega)
              have A360 := ((eh137.2.1 28 (by decide)).trans A7)
              refine xi_iaload (pc' := 73) (v := v359) kc_94_72 rfl A360 (by decide) rfl (xi_in (by omega) (by rw [hy7]; omega)) ev359 ?_
              refine xi_istore (pc' := 75) (lv' := [(5, .int v359), (4, .ref 28), (0, .ref 0), (1, .int 5), (2, .int a11), (3, .int a13)]) kc_94_73 rfl rfl (xm_lt ml_94 rfl) ?_
              refine xi_aload (pc' := 77) (x := 28) kc_94_75 rfl rfl ?_
              refine xi_iload_n (pc' := 78) (x := a11) kc_94_77 rfl rfl ?_
              refine xi_iload_n (pc' := 79) (x := a13) kc_94_78 rfl rfl ?_
              obtain ⟨y361, s361, hy361, ry361⟩ := xj_set (v := a13) hy7 ry7 a11 (by first | omega | decide) (by first | omega | decide)
              refine xi_iastore (pc' := 80) (x' := y361) kc_94_79 rfl A360 rfl (xi_in (by omega) (by rw [hy7]; omega)) s361 (fun hh361 eh361 => ?_)
              have K362 := xk_pa K139 (xk_wa rfl) xD_28 hy361 ry361 eh361
              refine xi_iload (pc' := 82) (x := v359) kc_94_80 rfl rfl ?_
              refine xi_ireturn kc_94_82 mr_94 rfl ?_
              show xw J ov 100 195 (263, [(4, .int x4), (3, .ref 167), (2, .ref 115), (1, .ref 0), (0, .ref 1000000)], [.int v359], hh361) _
              refine xi_aload_n (pc' := 264) (x := 115) kc_195_263 rfl rfl ?_
              refine xi_aload_n (pc' := 265) (x := 1000000) kc_195_264 rfl rfl ?_
              refine xi_iload (pc' := 267) (x := x4) kc_195_265 rfl rfl ?_
              refine xi_iconst (pc' := 268) (v := 1) kc_195_267 rfl rfl ?_
              refine xi_iadd (pc' := 269) (v := v8) kc_195_268 rfl ev8 ?_
              refine xi_ialoadO (pc' := 270) (v := 5) kc_195_269 rfl (by decide) hov0 (xi_in (by omega) (by omega)) ea9 ?_
              refine xi_aload_n (pc' := 271) (x := 1000000) kc_195_270 rfl rfl ?_
              refine xi_iload (pc' := 273) (x := x4) kc_195_271 rfl rfl ?_
              refine xi_iconst (pc' := 274) (v := 2) kc_195_273 rfl rfl ?_
              refine xi_iadd (pc' := 275) (v := v10) kc_195_274 rfl ev10 ?_
              refine xi_ialoadO (pc' := 276) (v := a11) kc_195_275 rfl (by decide) hov0 (xi_in (by omega) (by omega)) ea11 ?_
              refine xi_aload_n (pc' := 277) (x := 1000000) kc_195_276 rfl rfl ?_
              refine xi_iload (pc' := 279) (x := x4) kc_195_277 rfl rfl ?_
              refine xi_iconst (pc' := 280) (v := 3) kc_195_279 rfl rfl ?_
              refine xi_iadd (pc' := 281) (v := v12) kc_195_280 rfl ev12 ?_
              refine xi_ialoadO (pc' := 282) (v := a13) kc_195_281 rfl (by decide) hov0 (xi_in (by omega) (by omega)) ea13 ?_
              obtain ⟨u363, u364, u365, u366, u367, u368, u369, u370, u371, u372, u373, u374, u375, bu363, bu364, bu365, bu366, bu367, bu368, bu369, bu370, bu371, bu372, bu373, bu374, bu375, A376⟩ := xq_115 K.1
              have A377 := ((eh361.2.1 115 (by decide)).trans ((eh137.2.1 115 (by decide)).trans A376))
              refine xi_virtual (mj := 15) (as := [.int 5, .int a11, .int a13]) (st1 := [.int v359]) (lv0 := [(0, .ref 115), (1, .int 5), (2, .int a11), (3, .int a13)]) kc_195_282 rfl rfl rfl rfl rfl A377 (Nat.le_of_ble_eq_true rfl) (hJ _ _ _ _ (by decide)) (xm_le ml_15 rfl) rfl ?_
              refine xi_aload_n (pc' := 1) (x := 115) kc_15_0 rfl rfl ?_
              refine xi_iconst (pc' := 2) (v := 0) kc_15_1 rfl rfl ?_
              refine xi_putfield (pc' := 5) (fs' := [.int 0, .int u364, .ref 116, .ref 117, .ref 118, .ref 119, .ref 120, .ref 121, .ref 122, .ref 123, .ref 124, .ref 125, .ref 126, .ref 127, .ref 128, .ref 129, .int u365, .ref 130, .int u366, .ref 131, .ref 132, .ref 133, .ref 134, .int u367, .ref 135, .ref 136, .ref 137, .ref 138, .ref 139, .ref 140, .ref 141, .ref 142, .int u368, .int u369, .int u370, .ref 143, .ref 144, .ref 145, .ref 146, .ref 147, .ref 148, .int u371, .ref 149, .ref 150, .ref 151, .int u372, .ref 152, .ref 153, .ref 154, .ref 155, .ref 156, .ref 157, .ref 158, .ref 159, .int u373, .ref 160, .int u374, .ref 161, .ref 162, .ref 163, .ref 164, .int u375, .ref 165, .ref 166]) kc_15_2 rfl rfl rfl A377 rfl rfl rfl (Nat.le_of_ble_eq_true rfl) rfl (fun hh379 eh378 => ?_)
              have K380 := xk_pf (k := 0) (v := 0) K362 (xk_wf rfl) xD_115 A377 rfl (by first | omega | decide) (by first | omega | decide) eh378 rfl
              refine xi_iload_n (pc' := 6) (x := 5) kc_15_5 rfl rfl ?_
              refine xi_static (mj := 10) (as := [.int 5]) (st1 := []) (lv0 := [(0, .int 5)]) kc_15_6 rfl rfl (Nat.le_of_ble_eq_true rfl) rfl rfl (Nat.le_of_ble_eq_true rfl) (hJ _ _ _ _ (by decide)) (xm_le ml_10 rfl) rfl ?_
              refine xi_iload_n (pc' := 1) (x := 5) kc_10_0 rfl rfl ?_
              refine xi_iconst (pc' := 2) (v := 0) kc_10_1 rfl rfl ?_
              refine xi_iconst (pc' := 3) (v := 5) kc_10_2 rfl rfl ?_
              refine xi_static (mj := 11) (as := [.int 5, .int 0, .int 5]) (st1 := []) (lv0 := [(0, .int 5), (1, .int 0), (2, .int 5)]) kc_10_3 rfl rfl (Nat.le_of_ble_eq_true rfl) rfl rfl (Nat.le_of_ble_eq_true rfl) (hJ _ _ _ _ (by decide)) (xm_le ml_11 rfl) rfl ?_
              refine xi_iload_n (pc' := 1) (x := 5) kc_11_0 rfl rfl ?_
              refine xi_iload_n (pc' := 2) (x := 0) kc_11_1 rfl rfl ?_
              refine xi_cmf (pc' := 5) kc_11_2 rfl rfl ?_
              refine xi_iload_n (pc' := 6) (x := 5) kc_11_5 rfl rfl ?_
              refine xi_iload_n (pc' := 7) (x := 5) kc_11_6 rfl rfl ?_
              refine xi_cmf (pc' := 10) kc_11_7 rfl rfl ?_
              refine xi_iconst (pc' := 11) (v := 1) kc_11_10 rfl rfl ?_
              refine xi_goto (pc' := 15) kc_11_11 rfl ?_
              refine xi_ireturn kc_11_15 mr_11 rfl ?_
              show xw J ov 98 10 (6, [(0, .int 5)], [.int 1], hh379) _
              refine xi_ireturn kc_10_6 mr_10 rfl ?_
              show xw J ov 99 15 (9, [(0, .ref 115), (1, .int 5), (2, .int a11), (3, .int a13)], [.int 1], hh379) _
              refine xi_iff (pc' := 12) kc_15_9 rfl rfl ?_
              refine xi_iload_n (pc' := 13) (x := a11) kc_15_12 rfl rfl ?_
              refine xi_iconst (pc' := 14) (v := 0) kc_15_13 rfl rfl ?_
              refine xi_bipush (pc' := 16) (v := 23) kc_15_14 rfl rfl ?_
              refine xi_static (mj := 11) (as := [.int a11, .int 0, .int 23]) (st1 := []) (lv0 := [(0, .int a11), (1, .int 0), (2, .int 23)]) kc_15_16 rfl rfl (Nat.le_of_ble_eq_true rfl) rfl rfl (Nat.le_of_ble_eq_true rfl) (hJ _ _ _ _ (by decide)) (xm_le ml_11 rfl) rfl ?_
              refine xi_iload_n (pc' := 1) (x := a11) kc_11_0 rfl rfl ?_
              refine xi_iload_n (pc' := 2) (x := 0) kc_11_1 rfl rfl ?_
              refine xi_cmf (pc' := 5) kc_11_2 rfl (xc_lt_f (X := a11.toInt) (Y := 0) rfl (by decide) (by omega)) ?_
              refine xi_iload_n (pc' := 6) (x := a11) kc_11_5 rfl rfl ?_
              refine xi_iload_n (pc' := 7) (x := 23) kc_11_6 rfl rfl ?_
              refine xi_cmf (pc' := 10) kc_11_7 rfl (xc_gt_f (X := a11.toInt) (Y := 23) rfl (by decide) (by omega)) ?_
              refine xi_iconst (pc' := 11) (v := 1) kc_11_10 rfl rfl ?_
              refine xi_goto (pc' := 15) kc_11_11 rfl ?_
              refine xi_ireturn kc_11_15 mr_11 rfl ?_
              show xw J ov 99 15 (19, [(0, .ref 115), (1, .int 5), (2, .int a11), (3, .int a13)], [.int 1], hh379) _
              refine xi_ift (pc' := 28) kc_15_19 rfl rfl ?_
              refine xi_iload_n (pc' := 29) (x := a13) kc_15_28 rfl rfl ?_
              refine xi_ift (pc' := 39) kc_15_29 rfl (xc_ge_t (X := a13.toInt) (Y := 0) rfl (by decide) (by omega)) ?_
              refine xi_iload_n (pc' := 40) (x := a13) kc_15_39 rfl rfl ?_
              refine xi_sipush (pc' := 43) (v := 999) kc_15_40 rfl rfl ?_
              refine xi_cmt (pc' := 53) kc_15_43 rfl (xc_le_t (X := a13.toInt) (Y := 999) rfl (by decide) (by omega)) ?_
              refine xi_aload_n (pc' := 54) (x := 115) kc_15_53 rfl rfl ?_
              refine xi_getfield (pc' := 57) (v := .ref 122) kc_15_54 rfl rfl rfl eh378.1 rfl ?_
              refine xi_bipush (pc' := 59) (v := 24) kc_15_57 rfl rfl ?_
              refine xi_iload_n (pc' := 60) (x := 5) kc_15_59 rfl rfl ?_
              refine xi_imul (pc' := 61) (v := 120) kc_15_60 rfl rfl ?_
              refine xi_iload_n (pc' := 62) (x := a11) kc_15_61 rfl rfl ?_
              obtain ⟨v381, ev381⟩ : ∃ q : Int32, 120 + a11 = q := ⟨_, rfl⟩
              have zv381 : v381.toInt = (a11.toInt + 120) := by rw [← ev381]; exact (xz_add (X := 120) (Y := a11.toInt) (by decide) rfl (by omega) (by omega)).trans (by omega)
              refine xi_iadd (pc' := 63) (v := v381) kc_15_62 rfl ev381 ?_
              have A382 := ((eh378.2.1 122 (by decide)).trans ((eh361.2.1 122 (by decide)).trans ((eh137.2.1 122 (by decide)).trans A2)))
              refine xi_iaload (pc' := 64) (v := v359) kc_15_63 rfl A382 (by decide) rfl (xi_in (by rw [zv381]; omega) (by rw [hy2]; rw [zv381]; omega)) (xE_ld H5 (by first | omega | decide) (by first | omega | decide) (by omega) ev359) ?_
              refine xi_istore (pc' := 66) (lv' := [(4, .int v359), (0, .ref 115), (1, .int 5), (2, .int a11), (3, .int a13)]) kc_15_64 rfl rfl (xm_lt ml_15 rfl) ?_
              refine xi_aload_n (pc' := 67) (x := 115) kc_15_66 rfl rfl ?_
              refine xi_getfield (pc' := 70) (v := .ref 122) kc_15_67 rfl rfl rfl eh378.1 rfl ?_
              refine xi_bipush (pc' := 72) (v := 24) kc_15_70 rfl rfl ?_
              refine xi_iload_n (pc' := 73) (x := 5) kc_15_72 rfl rfl ?_
              refine xi_imul (pc' := 74) (v := 120) kc_15_73 rfl rfl ?_
              refine xi_iload_n (pc' := 75) (x := a11) kc_15_74 rfl rfl ?_
              refine xi_iadd (pc' := 76) (v := v381) kc_15_75 rfl ev381 ?_
              refine xi_iload_n (pc' := 77) (x := a13) kc_15_76 rfl rfl ?_
              obtain ⟨y383, s383, hy383, ry383⟩ := xj_set (v := a13) hy2 ry2 v381 (by first | omega | decide) (by first | omega | decide)
              refine xi_iastore (pc' := 78) (x' := y383) kc_15_77 rfl A382 rfl (xi_in (by rw [zv381]; omega) (by rw [hy2]; rw [zv381]; omega)) s383 (fun hh383 eh383 => ?_)
              have K384 := xk_pa K380 (xk_wa rfl) xD_122 hy383 ry383 eh383
              refine xi_aload_n (pc' := 79) (x := 115) kc_15_78 rfl rfl ?_
              refine xi_iconst (pc' := 80) (v := 0) kc_15_79 rfl rfl ?_
              have A385 := ((eh383.2.1 115 (by decide)).trans eh378.1)
              refine xi_putfield (pc' := 83) (fs' := [.int 0, .int u364, .ref 116, .ref 117, .ref 118, .ref 119, .ref 120, .ref 121, .ref 122, .ref 123, .ref 124, .ref 125, .ref 126, .ref 127, .ref 128, .ref 129, .int u365, .ref 130, .int u366, .ref 131, .ref 132, .ref 133, .ref 134, .int u367, .ref 135, .ref 136, .ref 137, .ref 138, .ref 139, .ref 140, .ref 141, .ref 142, .int u368, .int u369, .int u370, .ref 143, .ref 144, .ref 145, .ref 146, .ref 147, .ref 148, .int 0, .ref 149, .ref 150, .ref 151, .int u372, .ref 152, .ref 153, .ref 154, .ref 155, .ref 156, .ref 157, .ref 158, .ref 159, .int u373, .ref 160, .int u374, .ref 161, .ref 162, .ref 163, .ref 164, .int u375, .ref 165, .ref 166]) kc_15_80 rfl rfl rfl A385 rfl rfl rfl (Nat.le_of_ble_eq_true rfl) rfl (fun hh387 eh386 => ?_)
              have K388 := xk_pf (k := 41) (v := 0) K384 (xk_wf rfl) xD_115 A385 rfl (by first | omega | decide) (by first | omega | decide) eh386 rfl
              refine xi_iload (pc' := 85) (x := v359) kc_15_83 rfl rfl ?_
              refine xi_ireturn kc_15_85 mr_15 rfl ?_
              show xw J ov 100 195 (285, [(4, .int x4), (3, .ref 167), (2, .ref 115), (1, .ref 0), (0, .ref 1000000)], [.int v359, .int v359], hh387) _
              refine xi_cmt (pc' := 1501) kc_195_285 rfl (xc_eq_t (X := v359.toInt) (Y := v359.toInt) rfl rfl (by omega)) ?_
              obtain ⟨v389, ev389⟩ : ∃ q : Int32, x4 + 6 = q := ⟨_, rfl⟩
              have zv389 : v389.toInt = (x4.toInt + 6) := by rw [← ev389]; exact (xz_add (X := x4.toInt) (Y := 6) rfl (by decide) (by omega) (by omega)).trans (by omega)
              refine xi_iinc (pc' := 1504) (x := x4) (v := v389) (lv' := [(4, .int v389), (3, .ref 167), (2, .ref 115), (1, .ref 0), (0, .ref 1000000)]) kc_195_1501 rfl rfl ev389 rfl (xm_lt ml_195 rfl) ?_
              refine xi_goto (pc' := 23) kc_195_1504 rfl ?_
              have A390 := ((eh386.2.1 13 (by decide)).trans ((eh383.2.1 13 (by decide)).trans ((eh378.2.1 13 (by decide)).trans ((eh361.2.1 13 (by decide)).trans ((eh137.2.1 13 (by decide)).trans A1)))))
              have A391 := ((eh386.2.1 122 (by decide)).trans eh383.1)
              have A392 := ((eh386.2.1 16 (by decide)).trans ((eh383.2.1 16 (by decide)).trans ((eh378.2.1 16 (by decide)).trans ((eh361.2.1 16 (by decide)).trans ((eh137.2.1 16 (by decide)).trans A3)))))
              have A393 := ((eh386.2.1 19 (by decide)).trans ((eh383.2.1 19 (by decide)).trans ((eh378.2.1 19 (by decide)).trans ((eh361.2.1 19 (by decide)).trans ((eh137.2.1 19 (by decide)).trans A4)))))
              have A394 := ((eh386.2.1 22 (by decide)).trans ((eh383.2.1 22 (by decide)).trans ((eh378.2.1 22 (by decide)).trans ((eh361.2.1 22 (by decide)).trans ((eh137.2.1 22 (by decide)).trans A5)))))
              have A395 := ((eh386.2.1 25 (by decide)).trans ((eh383.2.1 25 (by decide)).trans ((eh378.2.1 25 (by decide)).trans ((eh361.2.1 25 (by decide)).trans ((eh137.2.1 25 (by decide)).trans A6)))))
              have A396 := ((eh386.2.1 28 (by decide)).trans ((eh383.2.1 28 (by decide)).trans ((eh378.2.1 28 (by decide)).trans eh361.1)))
              exact kk v389 hh387 (by omega) K388 ⟨(xE_mk A390 A391 (xE_oth H0 (by first | omega | decide) (by omega) s383)), (xE_mk A392 A391 (xE_oth H1 (by first | omega | decide) (by omega) s383)), (xE_mk A393 A391 (xE_oth H2 (by first | omega | decide) (by omega) s383)), (xE_mk A394 A391 (xE_oth H3 (by first | omega | decide) (by omega) s383)), (xE_mk A395 A391 (xE_oth H4 (by first | omega | decide) (by omega) s383)), (xE_mk A396 A391 (xE_set H5 (by first | omega | decide) (by omega) (by omega) (by omega) s361 s383))⟩
            · refine xi_cmf (pc' := 41) kc_94_38 rfl (xc_le_f (X := a13.toInt) (Y := 999) rfl (by decide) (by omega)) ?_
              refine xi_aload_n (pc' := 42) (x := 0) kc_94_41 rfl rfl ?_
              refine xi_bipush (pc' := 44) (v := (-6)) kc_94_42 rfl rfl ?_
              refine xi_virtual (mj := 90) (as := [.int (-6)]) (st1 := []) (lv0 := [(0, .ref 0), (1, .int (-6))]) kc_94_44 rfl rfl rfl rfl rfl A16 (Nat.le_of_ble_eq_true rfl) (hJ _ _ _ _ (by decide)) (xm_le ml_90 rfl) rfl ?_
              refine xi_iload_n (pc' := 1) (x := (-6)) kc_90_0 rfl rfl ?_
              refine xi_ineg (pc' := 2) (v := 6) kc_90_1 rfl rfl ?_
              refine xi_istore_n (pc' := 3) (lv' := [(2, .int 6), (0, .ref 0), (1, .int (-6))]) kc_90_2 rfl rfl (xm_lt ml_90 rfl) ?_
              refine xi_iload_n (pc' := 4) (x := 6) kc_90_3 rfl rfl ?_
              refine xi_iff (pc' := 7) kc_90_4 rfl rfl ?_
              refine xi_iload_n (pc' := 8) (x := 6) kc_90_7 rfl rfl ?_
              refine xi_aload_n (pc' := 9) (x := 0) kc_90_8 rfl rfl ?_
              refine xi_getfield (pc' := 12) (v := .ref 94) kc_90_9 rfl rfl rfl A16 rfl ?_
              obtain ⟨y397, A397, hy397, ry397⟩ := xk_arr K.1 xD_94
              refine xi_arraylength (pc' := 13) (n := 7) (v := 7) kc_90_12 rfl (xl_lenI (by decide) (by decide) A397 hy397) rfl ?_
              refine xi_cmf (pc' := 16) kc_90_13 rfl rfl ?_
              refine xi_aload_n (pc' := 17) (x := 0) kc_90_16 rfl rfl ?_
              refine xi_getfield (pc' := 20) (v := .ref 94) kc_90_17 rfl rfl rfl A16 rfl ?_
              refine xi_iload_n (pc' := 21) (x := 6) kc_90_20 rfl rfl ?_
              refine xi_dup2 (pc' := 22) kc_90_21 rfl ⟨rfl, rfl⟩ ?_
              obtain ⟨v398, ev398, bv398, dv398⟩ := xj_get hy397 ry397 (i := 6) (by decide) (by decide)
              refine xi_iaload (pc' := 23) (v := v398) kc_90_22 rfl A397 (by decide) rfl (xi_in (by decide) (by rw [hy397]; decide)) ev398 ?_
              refine xi_iconst (pc' := 24) (v := 1) kc_90_23 rfl rfl ?_
              obtain ⟨v399, ev399⟩ : ∃ q : Int32, (v398 : Int32) + 1 = q := ⟨_, rfl⟩
              have rv399 := xc_rng v399
              refine xi_iadd (pc' := 25) (v := v399) kc_90_24 rfl ev399 ?_
              obtain ⟨y400, s400, hy400, ry400⟩ := xj_set (v := v399) hy397 ry397 6 (by first | omega | decide) (by first | omega | decide)
              refine xi_iastore (pc' := 26) (x' := y400) kc_90_25 rfl A397 rfl (xi_in (by decide) (by rw [hy397]; decide)) s400 (fun hh400 eh400 => ?_)
              have K401 := xk_pa K (xk_wa rfl) xD_94 hy400 ry400 eh400
              refine xi_iload_n (pc' := 27) (x := (-6)) kc_90_26 rfl rfl ?_
              refine xi_ireturn kc_90_27 mr_90 rfl ?_
              show xw J ov 99 94 (47, [(0, .ref 0), (1, .int a9), (2, .int a11), (3, .int a13)], [.int (-6)], hh400) _
              refine xi_ireturn kc_94_47 mr_94 rfl ?_
              show xw J ov 100 195 (263, [(4, .int x4), (3, .ref 167), (2, .ref 115), (1, .ref 0), (0, .ref 1000000)], [.int (-6)], hh400) _
              refine xi_aload_n (pc' := 264) (x := 115) kc_195_263 rfl rfl ?_
              refine xi_aload_n (pc' := 265) (x := 1000000) kc_195_264 rfl rfl ?_
              refine xi_iload (pc' := 267) (x := x4) kc_195_265 rfl rfl ?_
              refine xi_iconst (pc' := 268) (v := 1) kc_195_267 rfl rfl ?_
              refine xi_iadd (pc' := 269) (v := v8) kc_195_268 rfl ev8 ?_
              refine xi_ialoadO (pc' := 270) (v := a9) kc_195_269 rfl (by decide) hov0 (xi_in (by omega) (by omega)) ea9 ?_
              refine xi_aload_n (pc' := 271) (x := 1000000) kc_195_270 rfl rfl ?_
              refine xi_iload (pc' := 273) (x := x4) kc_195_271 rfl rfl ?_
              refine xi_iconst (pc' := 274) (v := 2) kc_195_273 rfl rfl ?_
              refine xi_iadd (pc' := 275) (v := v10) kc_195_274 rfl ev10 ?_
              refine xi_ialoadO (pc' := 276) (v := a11) kc_195_275 rfl (by decide) hov0 (xi_in (by omega) (by omega)) ea11 ?_
              refine xi_aload_n (pc' := 277) (x := 1000000) kc_195_276 rfl rfl ?_
              refine xi_iload (pc' := 279) (x := x4) kc_195_277 rfl rfl ?_
              refine xi_iconst (pc' := 280) (v := 3) kc_195_279 rfl rfl ?_
              refine xi_iadd (pc' := 281) (v := v12) kc_195_280 rfl ev12 ?_
              refine xi_ialoadO (pc' := 282) (v := a13) kc_195_281 rfl (by decide) hov0 (xi_in (by omega) (by omega)) ea13 ?_
              obtain ⟨u402, u403, u404, u405, u406, u407, u408, u409, u410, u411, u412, u413, u414, bu402, bu403, bu404, bu405, bu406, bu407, bu408, bu409, bu410, bu411, bu412, bu413, bu414, A415⟩ := xq_115 K.1
              have A416 := ((eh400.2.1 115 (by decide)).trans A415)
              refine xi_virtual (mj := 15) (as := [.int a9, .int a11, .int a13]) (st1 := [.int (-6)]) (lv0 := [(0, .ref 115), (1, .int a9), (2, .int a11), (3, .int a13)]) kc_195_282 rfl rfl rfl rfl rfl A416 (Nat.le_of_ble_eq_true rfl) (hJ _ _ _ _ (by decide)) (xm_le ml_15 rfl) rfl ?_
              refine xi_aload_n (pc' := 1) (x := 115) kc_15_0 rfl rfl ?_
              refine xi_iconst (pc' := 2) (v := 0) kc_15_1 rfl rfl ?_
              refine xi_putfield (pc' := 5) (fs' := [.int 0, .int u403, .ref 116, .ref 117, .ref 118, .ref 119, .ref 120, .ref 121, .ref 122, .ref 123, .ref 124, .ref 125, .ref 126, .ref 127, .ref 128, .ref 129, .int u404, .ref 130, .int u405, .ref 131, .ref 132, .ref 133, .ref 134, .int u406, .ref 135, .ref 136, .ref 137, .ref 138, .ref 139, .ref 140, .ref 141, .ref 142, .int u407, .int u408, .int u409, .ref 143, .ref 144, .ref 145, .ref 146, .ref 147, .ref 148, .int u410, .ref 149, .ref 150, .ref 151, .int u411, .ref 152, .ref 153, .ref 154, .ref 155, .ref 156, .ref 157, .ref 158, .ref 159, .int u412, .ref 160, .int u413, .ref 161, .ref 162, .ref 163, .ref 164, .int u414, .ref 165, .ref 166]) kc_15_2 rfl rfl rfl A416 rfl rfl rfl (Nat.le_of_ble_eq_true rfl) rfl (fun hh418 eh417 => ?_)
              have K419 := xk_pf (k := 0) (v := 0) K401 (xk_wf rfl) xD_115 A416 rfl (by first | omega | decide) (by first | omega | decide) eh417 rfl
              refine xi_iload_n (pc' := 6) (x := a9) kc_15_5 rfl rfl ?_
              refine xi_static (mj := 10) (as := [.int a9]) (st1 := []) (lv0 := [(0, .int a9)]) kc_15_6 rfl rfl (Nat.le_of_ble_eq_true rfl) rfl rfl (Nat.le_of_ble_eq_true rfl) (hJ _ _ _ _ (by decide)) (xm_le ml_10 rfl) rfl ?_
              refine xi_iload_n (pc' := 1) (x := a9) kc_10_0 rfl rfl ?_
              refine xi_iconst (pc' := 2) (v := 0) kc_10_1 rfl rfl ?_
              refine xi_iconst (pc' := 3) (v := 5) kc_10_2 rfl rfl ?_
              refine xi_static (mj := 11) (as := [.int a9, .int 0, .int 5]) (st1 := []) (lv0 := [(0, .int a9), (1, .int 0), (2, .int 5)]) kc_10_3 rfl rfl (Nat.le_of_ble_eq_true rfl) rfl rfl (Nat.le_of_ble_eq_true rfl) (hJ _ _ _ _ (by decide)) (xm_le ml_11 rfl) rfl ?_
              refine xi_iload_n (pc' := 1) (x := a9) kc_11_0 rfl rfl ?_
              refine xi_iload_n (pc' := 2) (x := 0) kc_11_1 rfl rfl ?_
              refine xi_cmf (pc' := 5) kc_11_2 rfl (xc_lt_f (X := a9.toInt) (Y := 0) rfl (by decide) (by omega)) ?_
              refine xi_iload_n (pc' := 6) (x := a9) kc_11_5 rfl rfl ?_
              refine xi_iload_n (pc' := 7) (x := 5) kc_11_6 rfl rfl ?_
              refine xi_cmf (pc' := 10) kc_11_7 rfl (xc_gt_f (X := a9.toInt) (Y := 5) rfl (by decide) (by omega)) ?_
              refine xi_iconst (pc' := 11) (v := 1) kc_11_10 rfl rfl ?_
              refine xi_goto (pc' := 15) kc_11_11 rfl ?_
              refine xi_ireturn kc_11_15 mr_11 rfl ?_
              show xw J ov 98 10 (6, [(0, .int a9)], [.int 1], hh418) _
              refine xi_ireturn kc_10_6 mr_10 rfl ?_
              show xw J ov 99 15 (9, [(0, .ref 115), (1, .int a9), (2, .int a11), (3, .int a13)], [.int 1], hh418) _
              refine xi_iff (pc' := 12) kc_15_9 rfl rfl ?_
              refine xi_iload_n (pc' := 13) (x := a11) kc_15_12 rfl rfl ?_
              refine xi_iconst (pc' := 14) (v := 0) kc_15_13 rfl rfl ?_
              refine xi_bipush (pc' := 16) (v := 23) kc_15_14 rfl rfl ?_
              refine xi_static (mj := 11) (as := [.int a11, .int 0, .int 23]) (st1 := []) (lv0 := [(0, .int a11), (1, .int 0), (2, .int 23)]) kc_15_16 rfl rfl (Nat.le_of_ble_eq_true rfl) rfl rfl (Nat.le_of_ble_eq_true rfl) (hJ _ _ _ _ (by decide)) (xm_le ml_11 rfl) rfl ?_
              refine xi_iload_n (pc' := 1) (x := a11) kc_11_0 rfl rfl ?_
              refine xi_iload_n (pc' := 2) (x := 0) kc_11_1 rfl rfl ?_
              refine xi_cmf (pc' := 5) kc_11_2 rfl (xc_lt_f (X := a11.toInt) (Y := 0) rfl (by decide) (by omega)) ?_
              refine xi_iload_n (pc' := 6) (x := a11) kc_11_5 rfl rfl ?_
              refine xi_iload_n (pc' := 7) (x := 23) kc_11_6 rfl rfl ?_
              refine xi_cmf (pc' := 10) kc_11_7 rfl (xc_gt_f (X := a11.toInt) (Y := 23) rfl (by decide) (by omega)) ?_
              refine xi_iconst (pc' := 11) (v := 1) kc_11_10 rfl rfl ?_
              refine xi_goto (pc' := 15) kc_11_11 rfl ?_
              refine xi_ireturn kc_11_15 mr_11 rfl ?_
              show xw J ov 99 15 (19, [(0, .ref 115), (1, .int a9), (2, .int a11), (3, .int a13)], [.int 1], hh418) _
              refine xi_ift (pc' := 28) kc_15_19 rfl rfl ?_
              refine xi_iload_n (pc' := 29) (x := a13) kc_15_28 rfl rfl ?_
              refine xi_ift (pc' := 39) kc_15_29 rfl (xc_ge_t (X := a13.toInt) (Y := 0) rfl (by decide) (by omega)) ?_
              refine xi_iload_n (pc' := 40) (x := a13) kc_15_39 rfl rfl ?_
              refine xi_sipush (pc' := 43) (v := 999) kc_15_40 rfl rfl ?_
              refine xi_cmf (pc' := 46) kc_15_43 rfl (xc_le_f (X := a13.toInt) (Y := 999) rfl (by decide) (by omega)) ?_
              refine xi_aload_n (pc' := 47) (x := 115) kc_15_46 rfl rfl ?_
              refine xi_bipush (pc' := 49) (v := (-6)) kc_15_47 rfl rfl ?_
              refine xi_virtual (mj := 12) (as := [.int (-6)]) (st1 := []) (lv0 := [(0, .ref 115), (1, .int (-6))]) kc_15_49 rfl rfl rfl rfl rfl eh417.1 (Nat.le_of_ble_eq_true rfl) (hJ _ _ _ _ (by decide)) (xm_le ml_12 rfl) rfl ?_
              refine xi_aload_n (pc' := 1) (x := 115) kc_12_0 rfl rfl ?_
              refine xi_getfield (pc' := 4) (v := .ref 140) kc_12_1 rfl rfl rfl eh417.1 rfl ?_
              refine xi_iload_n (pc' := 5) (x := (-6)) kc_12_4 rfl rfl ?_
              refine xi_ineg (pc' := 6) (v := 6) kc_12_5 rfl rfl ?_
              refine xi_dup2 (pc' := 7) kc_12_6 rfl ⟨rfl, rfl⟩ ?_
              obtain ⟨y420, A420, hy420, ry420⟩ := xk_arr K.1 xD_140
              obtain ⟨v421, ev421, bv421, dv421⟩ := xj_get hy420 ry420 (i := 6) (by decide) (by decide)
              have A422 := ((eh417.2.1 140 (by decide)).trans ((eh400.2.1 140 (by decide)).trans A420))
              refine xi_iaload (pc' := 8) (v := v421) kc_12_7 rfl A422 (by decide) rfl (xi_in (by decide) (by rw [hy420]; decide)) ev421 ?_
              refine xi_iconst (pc' := 9) (v := 1) kc_12_8 rfl rfl ?_
              obtain ⟨v423, ev423⟩ : ∃ q : Int32, (v421 : Int32) + 1 = q := ⟨_, rfl⟩
              have rv423 := xc_rng v423
              refine xi_iadd (pc' := 10) (v := v423) kc_12_9 rfl ev423 ?_
              obtain ⟨y424, s424, hy424, ry424⟩ := xj_set (v := v423) hy420 ry420 6 (by first | omega | decide) (by first | omega | decide)
              refine xi_iastore (pc' := 11) (x' := y424) kc_12_10 rfl A422 rfl (xi_in (by decide) (by rw [hy420]; decide)) s424 (fun hh424 eh424 => ?_)
              have K425 := xk_pa K419 (xk_wa rfl) xD_140 hy424 ry424 eh424
              refine xi_iload_n (pc' := 12) (x := (-6)) kc_12_11 rfl rfl ?_
              refine xi_ireturn kc_12_12 mr_12 rfl ?_
              show xw J ov 99 15 (52, [(0, .ref 115), (1, .int a9), (2, .int a11), (3, .int a13)], [.int (-6)], hh424) _
              refine xi_ireturn kc_15_52 mr_15 rfl ?_
              show xw J ov 100 195 (285, [(4, .int x4), (3, .ref 167), (2, .ref 115), (1, .ref 0), (0, .ref 1000000)], [.int (-6), .int (-6)], hh424) _
              refine xi_cmt (pc' := 1501) kc_195_285 rfl rfl ?_
              obtain ⟨v426, ev426⟩ : ∃ q : Int32, x4 + 6 = q := ⟨_, rfl⟩
              have zv426 : v426.toInt = (x4.toInt + 6) := by rw [← ev426]; exact (xz_add (X := x4.toInt) (Y := 6) rfl (by decide) (by omega) (by omega)).trans (by omega)
              refine xi_iinc (pc' := 1504) (x := x4) (v := v426) (lv' := [(4, .int v426), (3, .ref 167), (2, .ref 115), (1, .ref 0), (0, .ref 1000000)]) kc_195_1501 rfl rfl ev426 rfl (xm_lt ml_195 rfl) ?_
              refine xi_goto (pc' := 23) kc_195_1504 rfl ?_
              have A427 := ((eh424.2.1 13 (by decide)).trans ((eh417.2.1 13 (by decide)).trans ((eh400.2.1 13 (by decide)).trans A1)))
              have A428 := ((eh424.2.1 122 (by decide)).trans ((eh417.2.1 122 (by decide)).trans ((eh400.2.1 122 (by decide)).trans A2)))
              have A429 := ((eh424.2.1 16 (by decide)).trans ((eh417.2.1 16 (by decide)).trans ((eh400.2.1 16 (by decide)).trans A3)))
              have A430 := ((eh424.2.1 19 (by decide)).trans ((eh417.2.1 19 (by decide)).trans ((eh400.2.1 19 (by decide)).trans A4)))
              have A431 := ((eh424.2.1 22 (by decide)).trans ((eh417.2.1 22 (by decide)).trans ((eh400.2.1 22 (by decide)).trans A5)))
              have A432 := ((eh424.2.1 25 (by decide)).trans ((eh417.2.1 25 (by decide)).trans ((eh400.2.1 25 (by decide)).trans A6)))
              have A433 := ((eh424.2.1 28 (by decide)).trans ((eh417.2.1 28 (by decide)).trans ((eh400.2.1 28 (by decide)).trans A7)))
              exact kk v426 hh424 (by omega) K425 ⟨(xE_mk A427 A428 H0), (xE_mk A429 A428 H1), (xE_mk A430 A428 H2), (xE_mk A431 A428 H3), (xE_mk A432 A428 H4), (xE_mk A433 A428 H5)⟩
          · refine xi_iff (pc' := 27) kc_94_24 rfl (xc_ge_f (X := a13.toInt) (Y := 0) rfl (by decide) (by omega)) ?_
            refine xi_aload_n (pc' := 28) (x := 0) kc_94_27 rfl rfl ?_
            refine xi_bipush (pc' := 30) (v := (-4)) kc_94_28 rfl rfl ?_
            refine xi_virtual (mj := 90) (as := [.int (-4)]) (st1 := []) (lv0 := [(0, .ref 0), (1, .int (-4))]) kc_94_30 rfl rfl rfl rfl rfl A16 (Nat.le_of_ble_eq_true rfl) (hJ _ _ _ _ (by decide)) (xm_le ml_90 rfl) rfl ?_
            refine xi_iload_n (pc' := 1) (x := (-4)) kc_90_0 rfl rfl ?_
            refine xi_ineg (pc' := 2) (v := 4) kc_90_1 rfl rfl ?_
            refine xi_istore_n (pc' := 3) (lv' := [(2, .int 4), (0, .ref 0), (1, .int (-4))]) kc_90_2 rfl rfl (xm_lt ml_90 rfl) ?_
            refine xi_iload_n (pc' := 4) (x := 4) kc_90_3 rfl rfl ?_
            refine xi_iff (pc' := 7) kc_90_4 rfl rfl ?_
            refine xi_iload_n (pc' := 8) (x := 4) kc_90_7 rfl rfl ?_
            refine xi_aload_n (pc' := 9) (x := 0) kc_90_8 rfl rfl ?_
            refine xi_getfield (pc' := 12) (v := .ref 94) kc_90_9 rfl rfl rfl A16 rfl ?_
            obtain ⟨y434, A434, hy434, ry434⟩ := xk_arr K.1 xD_94
            refine xi_arraylength (pc' := 13) (n := 7) (v := 7) kc_90_12 rfl (xl_lenI (by decide) (by decide) A434 hy434) rfl ?_
            refine xi_cmf (pc' := 16) kc_90_13 rfl rfl ?_
            refine xi_aload_n (pc' := 17) (x := 0) kc_90_16 rfl rfl ?_
            refine xi_getfield (pc' := 20) (v := .ref 94) kc_90_17 rfl rfl rfl A16 rfl ?_
            refine xi_iload_n (pc' := 21) (x := 4) kc_90_20 rfl rfl ?_
            refine xi_dup2 (pc' := 22) kc_90_21 rfl ⟨rfl, rfl⟩ ?_
            obtain ⟨v435, ev435, bv435, dv435⟩ := xj_get hy434 ry434 (i := 4) (by decide) (by decide)
            refine xi_iaload (pc' := 23) (v := v435) kc_90_22 rfl A434 (by decide) rfl (xi_in (by decide) (by rw [hy434]; decide)) ev435 ?_
            refine xi_iconst (pc' := 24) (v := 1) kc_90_23 rfl rfl ?_
            obtain ⟨v436, ev436⟩ : ∃ q : Int32, (v435 : Int32) + 1 = q := ⟨_, rfl⟩
            have rv436 := xc_rng v436
            refine xi_iadd (pc' := 25) (v := v436) kc_90_24 rfl ev436 ?_
            obtain ⟨y437, s437, hy437, ry437⟩ := xj_set (v := v436) hy434 ry434 4 (by first | omega | decide) (by first | omega | decide)
            refine xi_iastore (pc' := 26) (x' := y437) kc_90_25 rfl A434 rfl (xi_in (by decide) (by rw [hy434]; decide)) s437 (fun hh437 eh437 => ?_)
            have K438 := xk_pa K (xk_wa rfl) xD_94 hy437 ry437 eh437
            refine xi_iload_n (pc' := 27) (x := (-4)) kc_90_26 rfl rfl ?_
            refine xi_ireturn kc_90_27 mr_90 rfl ?_
            show xw J ov 99 94 (33, [(0, .ref 0), (1, .int a9), (2, .int a11), (3, .int a13)], [.int (-4)], hh437) _
            refine xi_ireturn kc_94_33 mr_94 rfl ?_
            show xw J ov 100 195 (263, [(4, .int x4), (3, .ref 167), (2, .ref 115), (1, .ref 0), (0, .ref 1000000)], [.int (-4)], hh437) _
            refine xi_aload_n (pc' := 264) (x := 115) kc_195_263 rfl rfl ?_
            refine xi_aload_n (pc' := 265) (x := 1000000) kc_195_264 rfl rfl ?_
            refine xi_iload (pc' := 267) (x := x4) kc_195_265 rfl rfl ?_
            refine xi_iconst (pc' := 268) (v := 1) kc_195_267 rfl rfl ?_
            refine xi_iadd (pc' := 269) (v := v8) kc_195_268 rfl ev8 ?_
            refine xi_ialoadO (pc' := 270) (v := a9) kc_195_269 rfl (by decide) hov0 (xi_in (by omega) (by omega)) ea9 ?_
            refine xi_aload_n (pc' := 271) (x := 1000000) kc_195_270 rfl rfl ?_
            refine xi_iload (pc' := 273) (x := x4) kc_195_271 rfl rfl ?_
            refine xi_iconst (pc' := 274) (v := 2) kc_195_273 rfl rfl ?_
            refine xi_iadd (pc' := 275) (v := v10) kc_195_274 rfl ev10 ?_
            refine xi_ialoadO (pc' := 276) (v := a11) kc_195_275 rfl (by decide) hov0 (xi_in (by omega) (by omega)) ea11 ?_
            refine xi_aload_n (pc' := 277) (x := 1000000) kc_195_276 rfl rfl ?_
            refine xi_iload (pc' := 279) (x := x4) kc_195_277 rfl rfl ?_
            refine xi_iconst (pc' := 280) (v := 3) kc_195_279 rfl rfl ?_
            refine xi_iadd (pc' := 281) (v := v12) kc_195_280 rfl ev12 ?_
            refine xi_ialoadO (pc' := 282) (v := a13) kc_195_281 rfl (by decide) hov0 (xi_in (by omega) (by omega)) ea13 ?_
            obtain ⟨u439, u440, u441, u442, u443, u444, u445, u446, u447, u448, u449, u450, u451, bu439, bu440, bu441, bu442, bu443, bu444, bu445, bu446, bu447, bu448, bu449, bu450, bu451, A452⟩ := xq_115 K.1
            have A453 := ((eh437.2.1 115 (by decide)).trans A452)
            refine xi_virtual (mj := 15) (as := [.int a9, .int a11, .int a13]) (st1 := [.int (-4)]) (lv0 := [(0, .ref 115), (1, .int a9), (2, .int a11), (3, .int a13)]) kc_195_282 rfl rfl rfl rfl rfl A453 (Nat.le_of_ble_eq_true rfl) (hJ _ _ _ _ (by decide)) (xm_le ml_15 rfl) rfl ?_
            refine xi_aload_n (pc' := 1) (x := 115) kc_15_0 rfl rfl ?_
            refine xi_iconst (pc' := 2) (v := 0) kc_15_1 rfl rfl ?_
            refine xi_putfield (pc' := 5) (fs' := [.int 0, .int u440, .ref 116, .ref 117, .ref 118, .ref 119, .ref 120, .ref 121, .ref 122, .ref 123, .ref 124, .ref 125, .ref 126, .ref 127, .ref 128, .ref 129, .int u441, .ref 130, .int u442, .ref 131, .ref 132, .ref 133, .ref 134, .int u443, .ref 135, .ref 136, .ref 137, .ref 138, .ref 139, .ref 140, .ref 141, .ref 142, .int u444, .int u445, .int u446, .ref 143, .ref 144, .ref 145, .ref 146, .ref 147, .ref 148, .int u447, .ref 149, .ref 150, .ref 151, .int u448, .ref 152, .ref 153, .ref 154, .ref 155, .ref 156, .ref 157, .ref 158, .ref 159, .int u449, .ref 160, .int u450, .ref 161, .ref 162, .ref 163, .ref 164, .int u451, .ref 165, .ref 166]) kc_15_2 rfl rfl rfl A453 rfl rfl rfl (Nat.le_of_ble_eq_true rfl) rfl (fun hh455 eh454 => ?_)
            have K456 := xk_pf (k := 0) (v := 0) K438 (xk_wf rfl) xD_115 A453 rfl (by first | omega | decide) (by first | omega | decide) eh454 rfl
            refine xi_iload_n (pc' := 6) (x := a9) kc_15_5 rfl rfl ?_
            refine xi_static (mj := 10) (as := [.int a9]) (st1 := []) (lv0 := [(0, .int a9)]) kc_15_6 rfl rfl (Nat.le_of_ble_eq_true rfl) rfl rfl (Nat.le_of_ble_eq_true rfl) (hJ _ _ _ _ (by decide)) (xm_le ml_10 rfl) rfl ?_
            refine xi_iload_n (pc' := 1) (x := a9) kc_10_0 rfl rfl ?_
            refine xi_iconst (pc' := 2) (v := 0) kc_10_1 rfl rfl ?_
            refine xi_iconst (pc' := 3) (v := 5) kc_10_2 rfl rfl ?_
            refine xi_static (mj := 11) (as := [.int a9, .int 0, .int 5]) (st1 := []) (lv0 := [(0, .int a9), (1, .int 0), (2, .int 5)]) kc_10_3 rfl rfl (Nat.le_of_ble_eq_true rfl) rfl rfl (Nat.le_of_ble_eq_true rfl) (hJ _ _ _ _ (by decide)) (xm_le ml_11 rfl) rfl ?_
            refine xi_iload_n (pc' := 1) (x := a9) kc_11_0 rfl rfl ?_
            refine xi_iload_n (pc' := 2) (x := 0) kc_11_1 rfl rfl ?_
            refine xi_cmf (pc' := 5) kc_11_2 rfl (xc_lt_f (X := a9.toInt) (Y := 0) rfl (by decide) (by omega)) ?_
            refine xi_iload_n (pc' := 6) (x := a9) kc_11_5 rfl rfl ?_
            refine xi_iload_n (pc' := 7) (x := 5) kc_11_6 rfl rfl ?_
            refine xi_cmf (pc' := 10) kc_11_7 rfl (xc_gt_f (X := a9.toInt) (Y := 5) rfl (by decide) (by omega)) ?_
            refine xi_iconst (pc' := 11) (v := 1) kc_11_10 rfl rfl ?_
            refine xi_goto (pc' := 15) kc_11_11 rfl ?_
            refine xi_ireturn kc_11_15 mr_11 rfl ?_
            show xw J ov 98 10 (6, [(0, .int a9)], [.int 1], hh455) _
            refine xi_ireturn kc_10_6 mr_10 rfl ?_
            show xw J ov 99 15 (9, [(0, .ref 115), (1, .int a9), (2, .int a11), (3, .int a13)], [.int 1], hh455) _
            refine xi_iff (pc' := 12) kc_15_9 rfl rfl ?_
            refine xi_iload_n (pc' := 13) (x := a11) kc_15_12 rfl rfl ?_
            refine xi_iconst (pc' := 14) (v := 0) kc_15_13 rfl rfl ?_
            refine xi_bipush (pc' := 16) (v := 23) kc_15_14 rfl rfl ?_
            refine xi_static (mj := 11) (as := [.int a11, .int 0, .int 23]) (st1 := []) (lv0 := [(0, .int a11), (1, .int 0), (2, .int 23)]) kc_15_16 rfl rfl (Nat.le_of_ble_eq_true rfl) rfl rfl (Nat.le_of_ble_eq_true rfl) (hJ _ _ _ _ (by decide)) (xm_le ml_11 rfl) rfl ?_
            refine xi_iload_n (pc' := 1) (x := a11) kc_11_0 rfl rfl ?_
            refine xi_iload_n (pc' := 2) (x := 0) kc_11_1 rfl rfl ?_
            refine xi_cmf (pc' := 5) kc_11_2 rfl (xc_lt_f (X := a11.toInt) (Y := 0) rfl (by decide) (by omega)) ?_
            refine xi_iload_n (pc' := 6) (x := a11) kc_11_5 rfl rfl ?_
            refine xi_iload_n (pc' := 7) (x := 23) kc_11_6 rfl rfl ?_
            refine xi_cmf (pc' := 10) kc_11_7 rfl (xc_gt_f (X := a11.toInt) (Y := 23) rfl (by decide) (by omega)) ?_
            refine xi_iconst (pc' := 11) (v := 1) kc_11_10 rfl rfl ?_
            refine xi_goto (pc' := 15) kc_11_11 rfl ?_
            refine xi_ireturn kc_11_15 mr_11 rfl ?_
            show xw J ov 99 15 (19, [(0, .ref 115), (1, .int a9), (2, .int a11), (3, .int a13)], [.int 1], hh455) _
            refine xi_ift (pc' := 28) kc_15_19 rfl rfl ?_
            refine xi_iload_n (pc' := 29) (x := a13) kc_15_28 rfl rfl ?_
            refine xi_iff (pc' := 32) kc_15_29 rfl (xc_ge_f (X := a13.toInt) (Y := 0) rfl (by decide) (by omega)) ?_
            refine xi_aload_n (pc' := 33) (x := 115) kc_15_32 rfl rfl ?_
            refine xi_bipush (pc' := 35) (v := (-4)) kc_15_33 rfl rfl ?_
            refine xi_virtual (mj := 12) (as := [.int (-4)]) (st1 := []) (lv0 := [(0, .ref 115), (1, .int (-4))]) kc_15_35 rfl rfl rfl rfl rfl eh454.1 (Nat.le_of_ble_eq_true rfl) (hJ _ _ _ _ (by decide)) (xm_le ml_12 rfl) rfl ?_
            refine xi_aload_n (pc' := 1) (x := 115) kc_12_0 rfl rfl ?_
            refine xi_getfield (pc' := 4) (v := .ref 140) kc_12_1 rfl rfl rfl eh454.1 rfl ?_
            refine xi_iload_n (pc' := 5) (x := (-4)) kc_12_4 rfl rfl ?_
            refine xi_ineg (pc' := 6) (v := 4) kc_12_5 rfl rfl ?_
            refine xi_dup2 (pc' := 7) kc_12_6 rfl ⟨rfl, rfl⟩ ?_
            obtain ⟨y457, A457, hy457, ry457⟩ := xk_arr K.1 xD_140
            obtain ⟨v458, ev458, bv458, dv458⟩ := xj_get hy457 ry457 (i := 4) (by decide) (by decide)
            have A459 := ((eh454.2.1 140 (by decide)).trans ((eh437.2.1 140 (by decide)).trans A457))
            refine xi_iaload (pc' := 8) (v := v458) kc_12_7 rfl A459 (by decide) rfl (xi_in (by decide) (by rw [hy457]; decide)) ev458 ?_
            refine xi_iconst (pc' := 9) (v := 1) kc_12_8 rfl rfl ?_
            obtain ⟨v460, ev460⟩ : ∃ q : Int32, (v458 : Int32) + 1 = q := ⟨_, rfl⟩
            have rv460 := xc_rng v460
            refine xi_iadd (pc' := 10) (v := v460) kc_12_9 rfl ev460 ?_
            obtain ⟨y461, s461, hy461, ry461⟩ := xj_set (v := v460) hy457 ry457 4 (by first | omega | decide) (by first | omega | decide)
            refine xi_iastore (pc' := 11) (x' := y461) kc_12_10 rfl A459 rfl (xi_in (by decide) (by rw [hy457]; decide)) s461 (fun hh461 eh461 => ?_)
            have K462 := xk_pa K456 (xk_wa rfl) xD_140 hy461 ry461 eh461
            refine xi_iload_n (pc' := 12) (x := (-4)) kc_12_11 rfl rfl ?_
            refine xi_ireturn kc_12_12 mr_12 rfl ?_
            show xw J ov 99 15 (38, [(0, .ref 115), (1, .int a9), (2, .int a11), (3, .int a13)], [.int (-4)], hh461) _
            refine xi_ireturn kc_15_38 mr_15 rfl ?_
            show xw J ov 100 195 (285, [(4, .int x4), (3, .ref 167), (2, .ref 115), (1, .ref 0), (0, .ref 1000000)], [.int (-4), .int (-4)], hh461) _
            refine xi_cmt (pc' := 1501) kc_195_285 rfl rfl ?_
            obtain ⟨v463, ev463⟩ : ∃ q : Int32, x4 + 6 = q := ⟨_, rfl⟩
            have zv463 : v463.toInt = (x4.toInt + 6) := by rw [← ev463]; exact (xz_add (X := x4.toInt) (Y := 6) rfl (by decide) (by omega) (by omega)).trans (by omega)
            refine xi_iinc (pc' := 1504) (x := x4) (v := v463) (lv' := [(4, .int v463), (3, .ref 167), (2, .ref 115), (1, .ref 0), (0, .ref 1000000)]) kc_195_1501 rfl rfl ev463 rfl (xm_lt ml_195 rfl) ?_
            refine xi_goto (pc' := 23) kc_195_1504 rfl ?_
            have A464 := ((eh461.2.1 13 (by decide)).trans ((eh454.2.1 13 (by decide)).trans ((eh437.2.1 13 (by decide)).trans A1)))
            have A465 := ((eh461.2.1 122 (by decide)).trans ((eh454.2.1 122 (by decide)).trans ((eh437.2.1 122 (by decide)).trans A2)))
            have A466 := ((eh461.2.1 16 (by decide)).trans ((eh454.2.1 16 (by decide)).trans ((eh437.2.1 16 (by decide)).trans A3)))
            have A467 := ((eh461.2.1 19 (by decide)).trans ((eh454.2.1 19 (by decide)).trans ((eh437.2.1 19 (by decide)).trans A4)))
            have A468 := ((eh461.2.1 22 (by decide)).trans ((eh454.2.1 22 (by decide)).trans ((eh437.2.1 22 (by decide)).trans A5)))
            have A469 := ((eh461.2.1 25 (by decide)).trans ((eh454.2.1 25 (by decide)).trans ((eh437.2.1 25 (by decide)).trans A6)))
            have A470 := ((eh461.2.1 28 (by decide)).trans ((eh454.2.1 28 (by decide)).trans ((eh437.2.1 28 (by decide)).trans A7)))
            exact kk v463 hh461 (by omega) K462 ⟨(xE_mk A464 A465 H0), (xE_mk A466 A465 H1), (xE_mk A467 A465 H2), (xE_mk A468 A465 H3), (xE_mk A469 A465 H4), (xE_mk A470 A465 H5)⟩
        · refine xi_cmf (pc' := 17) kc_94_14 rfl (xc_lt_f (X := a11.toInt) (Y := 24) rfl (by decide) (by omega)) ?_
          refine xi_aload_n (pc' := 18) (x := 0) kc_94_17 rfl rfl ?_
          refine xi_iconst (pc' := 19) (v := (-1)) kc_94_18 rfl rfl ?_
          refine xi_virtual (mj := 90) (as := [.int (-1)]) (st1 := []) (lv0 := [(0, .ref 0), (1, .int (-1))]) kc_94_19 rfl rfl rfl rfl rfl A16 (Nat.le_of_ble_eq_true rfl) (hJ _ _ _ _ (by decide)) (xm_le ml_90 rfl) rfl ?_
          refine xi_iload_n (pc' := 1) (x := (-1)) kc_90_0 rfl rfl ?_
          refine xi_ineg (pc' := 2) (v := 1) kc_90_1 rfl rfl ?_
          refine xi_istore_n (pc' := 3) (lv' := [(2, .int 1), (0, .ref 0), (1, .int (-1))]) kc_90_2 rfl rfl (xm_lt ml_90 rfl) ?_
          refine xi_iload_n (pc' := 4) (x := 1) kc_90_3 rfl rfl ?_
          refine xi_iff (pc' := 7) kc_90_4 rfl rfl ?_
          refine xi_iload_n (pc' := 8) (x := 1) kc_90_7 rfl rfl ?_
          refine xi_aload_n (pc' := 9) (x := 0) kc_90_8 rfl rfl ?_
          refine xi_getfield (pc' := 12) (v := .ref 94) kc_90_9 rfl rfl rfl A16 rfl ?_
          obtain ⟨y471, A471, hy471, ry471⟩ := xk_arr K.1 xD_94
          refine xi_arraylength (pc' := 13) (n := 7) (v := 7) kc_90_12 rfl (xl_lenI (by decide) (by decide) A471 hy471) rfl ?_
          refine xi_cmf (pc' := 16) kc_90_13 rfl rfl ?_
          refine xi_aload_n (pc' := 17) (x := 0) kc_90_16 rfl rfl ?_
          refine xi_getfield (pc' := 20) (v := .ref 94) kc_90_17 rfl rfl rfl A16 rfl ?_
          refine xi_iload_n (pc' := 21) (x := 1) kc_90_20 rfl rfl ?_
          refine xi_dup2 (pc' := 22) kc_90_21 rfl ⟨rfl, rfl⟩ ?_
          obtain ⟨v472, ev472, bv472, dv472⟩ := xj_get hy471 ry471 (i := 1) (by decide) (by decide)
          refine xi_iaload (pc' := 23) (v := v472) kc_90_22 rfl A471 (by decide) rfl (xi_in (by decide) (by rw [hy471]; decide)) ev472 ?_
          refine xi_iconst (pc' := 24) (v := 1) kc_90_23 rfl rfl ?_
          obtain ⟨v473, ev473⟩ : ∃ q : Int32, (v472 : Int32) + 1 = q := ⟨_, rfl⟩
          have rv473 := xc_rng v473
          refine xi_iadd (pc' := 25) (v := v473) kc_90_24 rfl ev473 ?_
          obtain ⟨y474, s474, hy474, ry474⟩ := xj_set (v := v473) hy471 ry471 1 (by first | omega | decide) (by first | omega | decide)
          refine xi_iastore (pc' := 26) (x' := y474) kc_90_25 rfl A471 rfl (xi_in (by decide) (by rw [hy471]; decide)) s474 (fun hh474 eh474 => ?_)
          have K475 := xk_pa K (xk_wa rfl) xD_94 hy474 ry474 eh474
          refine xi_iload_n (pc' := 27) (x := (-1)) kc_90_26 rfl rfl ?_
          refine xi_ireturn kc_90_27 mr_90 rfl ?_
          show xw J ov 99 94 (22, [(0, .ref 0), (1, .int a9), (2, .int a11), (3, .int a13)], [.int (-1)], hh474) _
          refine xi_ireturn kc_94_22 mr_94 rfl ?_
          show xw J ov 100 195 (263, [(4, .int x4), (3, .ref 167), (2, .ref 115), (1, .ref 0), (0, .ref 1000000)], [.int (-1)], hh474) _
          refine xi_aload_n (pc' := 264) (x := 115) kc_195_263 rfl rfl ?_
          refine xi_aload_n (pc' := 265) (x := 1000000) kc_195_264 rfl rfl ?_
          refine xi_iload (pc' := 267) (x := x4) kc_195_265 rfl rfl ?_
          refine xi_iconst (pc' := 268) (v := 1) kc_195_267 rfl rfl ?_
          refine xi_iadd (pc' := 269) (v := v8) kc_195_268 rfl ev8 ?_
          refine xi_ialoadO (pc' := 270) (v := a9) kc_195_269 rfl (by decide) hov0 (xi_in (by omega) (by omega)) ea9 ?_
          refine xi_aload_n (pc' := 271) (x := 1000000) kc_195_270 rfl rfl ?_
          refine xi_iload (pc' := 273) (x := x4) kc_195_271 rfl rfl ?_
          refine xi_iconst (pc' := 274) (v := 2) kc_195_273 rfl rfl ?_
          refine xi_iadd (pc' := 275) (v := v10) kc_195_274 rfl ev10 ?_
          refine xi_ialoadO (pc' := 276) (v := a11) kc_195_275 rfl (by decide) hov0 (xi_in (by omega) (by omega)) ea11 ?_
          refine xi_aload_n (pc' := 277) (x := 1000000) kc_195_276 rfl rfl ?_
          refine xi_iload (pc' := 279) (x := x4) kc_195_277 rfl rfl ?_
          refine xi_iconst (pc' := 280) (v := 3) kc_195_279 rfl rfl ?_
          refine xi_iadd (pc' := 281) (v := v12) kc_195_280 rfl ev12 ?_
          refine xi_ialoadO (pc' := 282) (v := a13) kc_195_281 rfl (by decide) hov0 (xi_in (by omega) (by omega)) ea13 ?_
          obtain ⟨u476, u477, u478, u479, u480, u481, u482, u483, u484, u485, u486, u487, u488, bu476, bu477, bu478, bu479, bu480, bu481, bu482, bu483, bu484, bu485, bu486, bu487, bu488, A489⟩ := xq_115 K.1
          have A490 := ((eh474.2.1 115 (by decide)).trans A489)
          refine xi_virtual (mj := 15) (as := [.int a9, .int a11, .int a13]) (st1 := [.int (-1)]) (lv0 := [(0, .ref 115), (1, .int a9), (2, .int a11), (3, .int a13)]) kc_195_282 rfl rfl rfl rfl rfl A490 (Nat.le_of_ble_eq_true rfl) (hJ _ _ _ _ (by decide)) (xm_le ml_15 rfl) rfl ?_
          refine xi_aload_n (pc' := 1) (x := 115) kc_15_0 rfl rfl ?_
          refine xi_iconst (pc' := 2) (v := 0) kc_15_1 rfl rfl ?_
          refine xi_putfield (pc' := 5) (fs' := [.int 0, .int u477, .ref 116, .ref 117, .ref 118, .ref 119, .ref 120, .ref 121, .ref 122, .ref 123, .ref 124, .ref 125, .ref 126, .ref 127, .ref 128, .ref 129, .int u478, .ref 130, .int u479, .ref 131, .ref 132, .ref 133, .ref 134, .int u480, .ref 135, .ref 136, .ref 137, .ref 138, .ref 139, .ref 140, .ref 141, .ref 142, .int u481, .int u482, .int u483, .ref 143, .ref 144, .ref 145, .ref 146, .ref 147, .ref 148, .int u484, .ref 149, .ref 150, .ref 151, .int u485, .ref 152, .ref 153, .ref 154, .ref 155, .ref 156, .ref 157, .ref 158, .ref 159, .int u486, .ref 160, .int u487, .ref 161, .ref 162, .ref 163, .ref 164, .int u488, .ref 165, .ref 166]) kc_15_2 rfl rfl rfl A490 rfl rfl rfl (Nat.le_of_ble_eq_true rfl) rfl (fun hh492 eh491 => ?_)
          have K493 := xk_pf (k := 0) (v := 0) K475 (xk_wf rfl) xD_115 A490 rfl (by first | omega | decide) (by first | omega | decide) eh491 rfl
          refine xi_iload_n (pc' := 6) (x := a9) kc_15_5 rfl rfl ?_
          refine xi_static (mj := 10) (as := [.int a9]) (st1 := []) (lv0 := [(0, .int a9)]) kc_15_6 rfl rfl (Nat.le_of_ble_eq_true rfl) rfl rfl (Nat.le_of_ble_eq_true rfl) (hJ _ _ _ _ (by decide)) (xm_le ml_10 rfl) rfl ?_
          refine xi_iload_n (pc' := 1) (x := a9) kc_10_0 rfl rfl ?_
          refine xi_iconst (pc' := 2) (v := 0) kc_10_1 rfl rfl ?_
          refine xi_iconst (pc' := 3) (v := 5) kc_10_2 rfl rfl ?_
          refine xi_static (mj := 11) (as := [.int a9, .int 0, .int 5]) (st1 := []) (lv0 := [(0, .int a9), (1, .int 0), (2, .int 5)]) kc_10_3 rfl rfl (Nat.le_of_ble_eq_true rfl) rfl rfl (Nat.le_of_ble_eq_true rfl) (hJ _ _ _ _ (by decide)) (xm_le ml_11 rfl) rfl ?_
          refine xi_iload_n (pc' := 1) (x := a9) kc_11_0 rfl rfl ?_
          refine xi_iload_n (pc' := 2) (x := 0) kc_11_1 rfl rfl ?_
          refine xi_cmf (pc' := 5) kc_11_2 rfl (xc_lt_f (X := a9.toInt) (Y := 0) rfl (by decide) (by omega)) ?_
          refine xi_iload_n (pc' := 6) (x := a9) kc_11_5 rfl rfl ?_
          refine xi_iload_n (pc' := 7) (x := 5) kc_11_6 rfl rfl ?_
          refine xi_cmf (pc' := 10) kc_11_7 rfl (xc_gt_f (X := a9.toInt) (Y := 5) rfl (by decide) (by omega)) ?_
          refine xi_iconst (pc' := 11) (v := 1) kc_11_10 rfl rfl ?_
          refine xi_goto (pc' := 15) kc_11_11 rfl ?_
          refine xi_ireturn kc_11_15 mr_11 rfl ?_
          show xw J ov 98 10 (6, [(0, .int a9)], [.int 1], hh492) _
          refine xi_ireturn kc_10_6 mr_10 rfl ?_
          show xw J ov 99 15 (9, [(0, .ref 115), (1, .int a9), (2, .int a11), (3, .int a13)], [.int 1], hh492) _
          refine xi_iff (pc' := 12) kc_15_9 rfl rfl ?_
          refine xi_iload_n (pc' := 13) (x := a11) kc_15_12 rfl rfl ?_
          refine xi_iconst (pc' := 14) (v := 0) kc_15_13 rfl rfl ?_
          refine xi_bipush (pc' := 16) (v := 23) kc_15_14 rfl rfl ?_
          refine xi_static (mj := 11) (as := [.int a11, .int 0, .int 23]) (st1 := []) (lv0 := [(0, .int a11), (1, .int 0), (2, .int 23)]) kc_15_16 rfl rfl (Nat.le_of_ble_eq_true rfl) rfl rfl (Nat.le_of_ble_eq_true rfl) (hJ _ _ _ _ (by decide)) (xm_le ml_11 rfl) rfl ?_
          refine xi_iload_n (pc' := 1) (x := a11) kc_11_0 rfl rfl ?_
          refine xi_iload_n (pc' := 2) (x := 0) kc_11_1 rfl rfl ?_
          refine xi_cmf (pc' := 5) kc_11_2 rfl (xc_lt_f (X := a11.toInt) (Y := 0) rfl (by decide) (by omega)) ?_
          refine xi_iload_n (pc' := 6) (x := a11) kc_11_5 rfl rfl ?_
          refine xi_iload_n (pc' := 7) (x := 23) kc_11_6 rfl rfl ?_
          refine xi_cmt (pc' := 14) kc_11_7 rfl (xc_gt_t (X := a11.toInt) (Y := 23) rfl (by decide) (by omega)) ?_
          refine xi_iconst (pc' := 15) (v := 0) kc_11_14 rfl rfl ?_
          refine xi_ireturn kc_11_15 mr_11 rfl ?_
          show xw J ov 99 15 (19, [(0, .ref 115), (1, .int a9), (2, .int a11), (3, .int a13)], [.int 0], hh492) _
          refine xi_iff (pc' := 22) kc_15_19 rfl rfl ?_
          refine xi_aload_n (pc' := 23) (x := 115) kc_15_22 rfl rfl ?_
          refine xi_iconst (pc' := 24) (v := (-1)) kc_15_23 rfl rfl ?_
          refine xi_virtual (mj := 12) (as := [.int (-1)]) (st1 := []) (lv0 := [(0, .ref 115), (1, .int (-1))]) kc_15_24 rfl rfl rfl rfl rfl eh491.1 (Nat.le_of_ble_eq_true rfl) (hJ _ _ _ _ (by decide)) (xm_le ml_12 rfl) rfl ?_
          refine xi_aload_n (pc' := 1) (x := 115) kc_12_0 rfl rfl ?_
          refine xi_getfield (pc' := 4) (v := .ref 140) kc_12_1 rfl rfl rfl eh491.1 rfl ?_
          refine xi_iload_n (pc' := 5) (x := (-1)) kc_12_4 rfl rfl ?_
          refine xi_ineg (pc' := 6) (v := 1) kc_12_5 rfl rfl ?_
          refine xi_dup2 (pc' := 7) kc_12_6 rfl ⟨rfl, rfl⟩ ?_
          obtain ⟨y494, A494, hy494, ry494⟩ := xk_arr K.1 xD_140
          obtain ⟨v495, ev495, bv495, dv495⟩ := xj_get hy494 ry494 (i := 1) (by decide) (by decide)
          have A496 := ((eh491.2.1 140 (by decide)).trans ((eh474.2.1 140 (by decide)).trans A494))
          refine xi_iaload (pc' := 8) (v := v495) kc_12_7 rfl A496 (by decide) rfl (xi_in (by decide) (by rw [hy494]; decide)) ev495 ?_
          refine xi_iconst (pc' := 9) (v := 1) kc_12_8 rfl rfl ?_
          obtain ⟨v497, ev497⟩ : ∃ q : Int32, (v495 : Int32) + 1 = q := ⟨_, rfl⟩
          have rv497 := xc_rng v497
          refine xi_iadd (pc' := 10) (v := v497) kc_12_9 rfl ev497 ?_
          obtain ⟨y498, s498, hy498, ry498⟩ := xj_set (v := v497) hy494 ry494 1 (by first | omega | decide) (by first | omega | decide)
          refine xi_iastore (pc' := 11) (x' := y498) kc_12_10 rfl A496 rfl (xi_in (by decide) (by rw [hy494]; decide)) s498 (fun hh498 eh498 => ?_)
          have K499 := xk_pa K493 (xk_wa rfl) xD_140 hy498 ry498 eh498
          refine xi_iload_n (pc' := 12) (x := (-1)) kc_12_11 rfl rfl ?_
          refine xi_ireturn kc_12_12 mr_12 rfl ?_
          show xw J ov 99 15 (27, [(0, .ref 115), (1, .int a9), (2, .int a11), (3, .int a13)], [.int (-1)], hh498) _
          refine xi_ireturn kc_15_27 mr_15 rfl ?_
          show xw J ov 100 195 (285, [(4, .int x4), (3, .ref 167), (2, .ref 115), (1, .ref 0), (0, .ref 1000000)], [.int (-1), .int (-1)], hh498) _
          refine xi_cmt (pc' := 1501) kc_195_285 rfl rfl ?_
          obtain ⟨v500, ev500⟩ : ∃ q : Int32, x4 + 6 = q := ⟨_, rfl⟩
          have zv500 : v500.toInt = (x4.toInt + 6) := by rw [← ev500]; exact (xz_add (X := x4.toInt) (Y := 6) rfl (by decide) (by omega) (by omega)).trans (by omega)
          refine xi_iinc (pc' := 1504) (x := x4) (v := v500) (lv' := [(4, .int v500), (3, .ref 167), (2, .ref 115), (1, .ref 0), (0, .ref 1000000)]) kc_195_1501 rfl rfl ev500 rfl (xm_lt ml_195 rfl) ?_
          refine xi_goto (pc' := 23) kc_195_1504 rfl ?_
          have A501 := ((eh498.2.1 13 (by decide)).trans ((eh491.2.1 13 (by decide)).trans ((eh474.2.1 13 (by decide)).trans A1)))
          have A502 := ((eh498.2.1 122 (by decide)).trans ((eh491.2.1 122 (by decide)).trans ((eh474.2.1 122 (by decide)).trans A2)))
          have A503 := ((eh498.2.1 16 (by decide)).trans ((eh491.2.1 16 (by decide)).trans ((eh474.2.1 16 (by decide)).trans A3)))
          have A504 := ((eh498.2.1 19 (by decide)).trans ((eh491.2.1 19 (by decide)).trans ((eh474.2.1 19 (by decide)).trans A4)))
          have A505 := ((eh498.2.1 22 (by decide)).trans ((eh491.2.1 22 (by decide)).trans ((eh474.2.1 22 (by decide)).trans A5)))
          have A506 := ((eh498.2.1 25 (by decide)).trans ((eh491.2.1 25 (by decide)).trans ((eh474.2.1 25 (by decide)).trans A6)))
          have A507 := ((eh498.2.1 28 (by decide)).trans ((eh491.2.1 28 (by decide)).trans ((eh474.2.1 28 (by decide)).trans A7)))
          exact kk v500 hh498 (by omega) K499 ⟨(xE_mk A501 A502 H0), (xE_mk A503 A502 H1), (xE_mk A504 A502 H2), (xE_mk A505 A502 H3), (xE_mk A506 A502 H4), (xE_mk A507 A502 H5)⟩
set_option maxHeartbeats 8000000 in
theorem lc_2 {J : xe_J} {ov : List (List Int32)} (hJ : ∀ d mj as h, mj ≠ xe_loff → J d mj as h = none) (hov1 : ov[1]? = some [10, 0, 0, 0, 0, 0]) (hov2 : ov[2]? = some [99, 30, 50, 50, 1, 99999]) {xs : List Int32} (hov0 : ov[0]? = some xs) {Q : Option Value → xe_H → Prop} {h : xe_H} {x4 : Int32} (hi0 : 0 ≤ x4.toInt) (hi1 : x4.toInt + 6 ≤ xs.length) (hi2 : x4.toInt ≤ 3066) (T : xt h) (kk : ∀ (i : Int32) (h' : xe_H), i.toInt = x4.toInt + 6 → xk [(13, 0), (122, 0), (16, 0), (19, 0), (22, 0), (25, 0), (28, 0)] h h' → xw J ov 100 195 (23, [(4, .int i), (3, .ref 167), (2, .ref 115), (1, .ref 0), (0, .ref 1000000)], [], h') Q) : xw J ov 100 195 (290, [(4, .int x4), (3, .ref 167), (2, .ref 115), (1, .ref 0), (0, .ref 1000000)], [], h) Q := by
  have K : xk [(13, 0), (122, 0), (16, 0), (19, 0), (22, 0), (25, 0), (28, 0)] h h := xk_re T
  refine xi_aload_n (pc' := 291) (x := 0) kc_195_290 rfl rfl ?_
  refine xi_aload_n (pc' := 292) (x := 1000000) kc_195_291 rfl rfl ?_
  refine xi_iload (pc' := 294) (x := x4) kc_195_292 rfl rfl ?_
  refine xi_iconst (pc' := 295) (v := 1) kc_195_294 rfl rfl ?_
  obtain ⟨v1, ev1⟩ : ∃ q : Int32, x4 + 1 = q := ⟨_, rfl⟩
  have zv1 : v1.toInt = (x4.toInt + 1) := by rw [← ev1]; exact (xz_add (X := x4.toInt) (Y := 1) rfl (by decide) (by omega) (by omega)).trans (by omega)
  refine xi_iadd (pc' := 296) (v := v1) kc_195_295 rfl ev1 ?_
  obtain ⟨a2, ea2⟩ : ∃ q : Int32, xs.getD (Int32.toNatClampNeg v1) 0 = q := ⟨_, rfl⟩
  have ra2 := xc_rng a2
  refine xi_ialoadO (pc' := 297) (v := a2) kc_195_296 rfl (by decide) hov0 (xi_in (by omega) (by omega)) ea2 ?_
  refine xi_aload_n (pc' := 298) (x := 1000000) kc_195_297 rfl rfl ?_
  refine xi_iload (pc' := 300) (x := x4) kc_195_298 rfl rfl ?_
  refine xi_iconst (pc' := 301) (v := 2) kc_195_300 rfl rfl ?_
  obtain ⟨v3, ev3⟩ : ∃ q : Int32, x4 + 2 = q := ⟨_, rfl⟩
  have zv3 : v3.toInt = (x4.toInt + 2) := by rw [← ev3]; exact (xz_add (X := x4.toInt) (Y := 2) rfl (by decide) (by omega) (by omega)).trans (by omega)
  refine xi_iadd (pc' := 302) (v := v3) kc_195_301 rfl ev3 ?_
  obtain ⟨a4, ea4⟩ : ∃ q : Int32, xs.getD (Int32.toNatClampNeg v3) 0 = q := ⟨_, rfl⟩
  have ra4 := xc_rng a4
  refine xi_ialoadO (pc' := 303) (v := a4) kc_195_302 rfl (by decide) hov0 (xi_in (by omega) (by omega)) ea4 ?_
  refine xi_aload_n (pc' := 304) (x := 1000000) kc_195_303 rfl rfl ?_
  refine xi_iload (pc' := 306) (x := x4) kc_195_304 rfl rfl ?_
  refine xi_iconst (pc' := 307) (v := 3) kc_195_306 rfl rfl ?_
  obtain ⟨v5, ev5⟩ : ∃ q : Int32, x4 + 3 = q := ⟨_, rfl⟩
  have zv5 : v5.toInt = (x4.toInt + 3) := by rw [← ev5]; exact (xz_add (X := x4.toInt) (Y := 3) rfl (by decide) (by omega) (by omega)).trans (by omega)
  refine xi_iadd (pc' := 308) (v := v5) kc_195_307 rfl ev5 ?_
  obtain ⟨a6, ea6⟩ : ∃ q : Int32, xs.getD (Int32.toNatClampNeg v5) 0 = q := ⟨_, rfl⟩
  have ra6 := xc_rng a6
  refine xi_ialoadO (pc' := 309) (v := a6) kc_195_308 rfl (by decide) hov0 (xi_in (by omega) (by omega)) ea6 ?_
  obtain ⟨u7, u8, bu7, bu8, A9⟩ := xq_0 K.1
  refine xi_virtual (mj := 95) (as := [.int a2, .int a4, .int a6]) (st1 := []) (lv0 := [(0, .ref 0), (1, .int a2), (2, .int a4), (3, .int a6)]) kc_195_309 rfl rfl rfl rfl rfl A9 (Nat.le_of_ble_eq_true rfl) (hJ _ _ _ _ (by decide)) (xm_le ml_95 rfl) rfl ?_
  refine mt_95_0 hJ hov1 hov2 (d := 97) (x1 := a2) (x2 := a4) (x3 := a6) K.1 (fun r10 hh11 K12 => ?_)
  have br10 := xc_rng r10
  have K13 := xk_tr K K12 rfl
  obtain ⟨u14, u15, bu14, bu15, A16⟩ := xq_0 K13.1
  have e17 : u8 = u15 := xk_eqi (q := 9) K12 rfl A9 A16 rfl rfl
  subst e17
  show xw J ov 100 195 (312, [(4, .int x4), (3, .ref 167), (2, .ref 115), (1, .ref 0), (0, .ref 1000000)], [.int r10], hh11) _
  refine xi_pop (pc' := 313) kc_195_312 rfl rfl ?_
  refine xi_aload_n (pc' := 314) (x := 115) kc_195_313 rfl rfl ?_
  refine xi_aload_n (pc' := 315) (x := 1000000) kc_195_314 rfl rfl ?_
  refine xi_iload (pc' := 317) (x := x4) kc_195_315 rfl rfl ?_
  refine xi_iconst (pc' := 318) (v := 1) kc_195_317 rfl rfl ?_
  refine xi_iadd (pc' := 319) (v := v1) kc_195_318 rfl ev1 ?_
  refine xi_ialoadO (pc' := 320) (v := a2) kc_195_319 rfl (by decide) hov0 (xi_in (by omega) (by omega)) ea2 ?_
  refine xi_aload_n (pc' := 321) (x := 1000000) kc_195_320 rfl rfl ?_
  refine xi_iload (pc' := 323) (x := x4) kc_195_321 rfl rfl ?_
  refine xi_iconst (pc' := 324) (v := 2) kc_195_323 rfl rfl ?_
  refine xi_iadd (pc' := 325) (v := v3) kc_195_324 rfl ev3 ?_
  refine xi_ialoadO (pc' := 326) (v := a4) kc_195_325 rfl (by decide) hov0 (xi_in (by omega) (by omega)) ea4 ?_
  refine xi_aload_n (pc' := 327) (x := 1000000) kc_195_326 rfl rfl ?_
  refine xi_iload (pc' := 329) (x := x4) kc_195_327 rfl rfl ?_
  refine xi_iconst (pc' := 330) (v := 3) kc_195_329 rfl rfl ?_
  refine xi_iadd (pc' := 331) (v := v5) kc_195_330 rfl ev5 ?_
  refine xi_ialoadO (pc' := 332) (v := a6) kc_195_331 rfl (by decide) hov0 (xi_in (by omega) (by omega)) ea6 ?_
  obtain ⟨u18, u19, u20, u21, u22, u23, u24, u25, u26, u27, u28, u29, u30, bu18, bu19, bu20, bu21, bu22, bu23, bu24, bu25, bu26, bu27, bu28, bu29, bu30, A31⟩ := xq_115 K13.1
  refine xi_virtual (mj := 16) (as := [.int a2, .int a4, .int a6]) (st1 := []) (lv0 := [(0, .ref 115), (1, .int a2), (2, .int a4), (3, .int a6)]) kc_195_332 rfl rfl rfl rfl rfl A31 (Nat.le_of_ble_eq_true rfl) (hJ _ _ _ _ (by decide)) (xm_le ml_16 rfl) rfl ?_
  refine mt_16_0 hJ hov1 hov2 (d := 98) (x1 := a2) (x2 := a4) (x3 := a6) K13.1 (fun r32 hh33 K34 => ?_)
  have br32 := xc_rng r32
  have K35 := xk_tr K13 K34 rfl
  obtain ⟨u36, u37, bu36, bu37, A38⟩ := xq_0 K35.1
  have e39 : u8 = u37 := xk_eqi (q := 9) K34 rfl A16 A38 rfl rfl
  subst e39
  obtain ⟨u40, u41, u42, u43, u44, u45, u46, u47, u48, u49, u50, u51, u52, bu40, bu41, bu42, bu43, bu44, bu45, bu46, bu47, bu48, bu49, bu50, bu51, bu52, A53⟩ := xq_115 K35.1
  have e54 : u19 = u41 := xk_eqi (q := 1) K34 rfl A31 A53 rfl rfl
  subst e54
  show xw J ov 100 195 (335, [(4, .int x4), (3, .ref 167), (2, .ref 115), (1, .ref 0), (0, .ref 1000000)], [.int r32], hh33) _
  refine xi_pop (pc' := 336) kc_195_335 rfl rfl ?_
  refine xi_goto (pc' := 1501) kc_195_336 rfl ?_
  obtain ⟨v55, ev55⟩ : ∃ q : Int32, x4 + 6 = q := ⟨_, rfl⟩
  have zv55 : v55.toInt = (x4.toInt + 6) := by rw [← ev55]; exact (xz_add (X := x4.toInt) (Y := 6) rfl (by decide) (by omega) (by omega)).trans (by omega)
  refine xi_iinc (pc' := 1504) (x := x4) (v := v55) (lv' := [(4, .int v55), (3, .ref 167), (2, .ref 115), (1, .ref 0), (0, .ref 1000000)]) kc_195_1501 rfl rfl ev55 rfl (xm_lt ml_195 rfl) ?_
  refine xi_goto (pc' := 23) kc_195_1504 rfl ?_
  exact kk v55 hh33 (by omega) K35
set_option maxHeartbeats 8000000 in
theorem lc_3 {J : xe_J} {ov : List (List Int32)} (hJ : ∀ d mj as h, mj ≠ xe_loff → J d mj as h = none) (hov1 : ov[1]? = some [10, 0, 0, 0, 0, 0]) (hov2 : ov[2]? = some [99, 30, 50, 50, 1, 99999]) {xs : List Int32} (hov0 : ov[0]? = some xs) {Q : Option Value → xe_H → Prop} {h : xe_H} {x4 : Int32} (hi0 : 0 ≤ x4.toInt) (hi1 : x4.toInt + 6 ≤ xs.length) (hi2 : x4.toInt ≤ 3066) (T : xt h) (kk : ∀ (i : Int32) (h' : xe_H), i.toInt = x4.toInt + 6 → xk [(13, 0), (122, 0), (16, 0), (19, 0), (22, 0), (25, 0), (28, 0)] h h' → xw J ov 100 195 (23, [(4, .int i), (3, .ref 167), (2, .ref 115), (1, .ref 0), (0, .ref 1000000)], [], h') Q) : xw J ov 100 195 (339, [(4, .int x4), (3, .ref 167), (2, .ref 115), (1, .ref 0), (0, .ref 1000000)], [], h) Q := by
  have K : xk [(13, 0), (122, 0), (16, 0), (19, 0), (22, 0), (25, 0), (28, 0)] h h := xk_re T
  refine xi_aload_n (pc' := 340) (x := 0) kc_195_339 rfl rfl ?_
  refine xi_aload_n (pc' := 341) (x := 1000000) kc_195_340 rfl rfl ?_
  refine xi_iload (pc' := 343) (x := x4) kc_195_341 rfl rfl ?_
  refine xi_iconst (pc' := 344) (v := 1) kc_195_343 rfl rfl ?_
  obtain ⟨v1, ev1⟩ : ∃ q : Int32, x4 + 1 = q := ⟨_, rfl⟩
  have zv1 : v1.toInt = (x4.toInt + 1) := by rw [← ev1]; exact (xz_add (X := x4.toInt) (Y := 1) rfl (by decide) (by omega) (by omega)).trans (by omega)
  refine xi_iadd (pc' := 345) (v := v1) kc_195_344 rfl ev1 ?_
  obtain ⟨a2, ea2⟩ : ∃ q : Int32, xs.getD (Int32.toNatClampNeg v1) 0 = q := ⟨_, rfl⟩
  have ra2 := xc_rng a2
  refine xi_ialoadO (pc' := 346) (v := a2) kc_195_345 rfl (by decide) hov0 (xi_in (by omega) (by omega)) ea2 ?_
  refine xi_aload_n (pc' := 347) (x := 1000000) kc_195_346 rfl rfl ?_
  refine xi_iload (pc' := 349) (x := x4) kc_195_347 rfl rfl ?_
  refine xi_iconst (pc' := 350) (v := 2) kc_195_349 rfl rfl ?_
  obtain ⟨v3, ev3⟩ : ∃ q : Int32, x4 + 2 = q := ⟨_, rfl⟩
  have zv3 : v3.toInt = (x4.toInt + 2) := by rw [← ev3]; exact (xz_add (X := x4.toInt) (Y := 2) rfl (by decide) (by omega) (by omega)).trans (by omega)
  refine xi_iadd (pc' := 351) (v := v3) kc_195_350 rfl ev3 ?_
  obtain ⟨a4, ea4⟩ : ∃ q : Int32, xs.getD (Int32.toNatClampNeg v3) 0 = q := ⟨_, rfl⟩
  have ra4 := xc_rng a4
  refine xi_ialoadO (pc' := 352) (v := a4) kc_195_351 rfl (by decide) hov0 (xi_in (by omega) (by omega)) ea4 ?_
  obtain ⟨u5, u6, bu5, bu6, A7⟩ := xq_0 K.1
  refine xi_virtual (mj := 100) (as := [.int a2, .int a4]) (st1 := []) (lv0 := [(0, .ref 0), (1, .int a2), (2, .int a4)]) kc_195_352 rfl rfl rfl rfl rfl A7 (Nat.le_of_ble_eq_true rfl) (hJ _ _ _ _ (by decide)) (xm_le ml_100 rfl) rfl ?_
  refine mt_100_0 hJ hov1 hov2 (d := 97) (x1 := a2) (x2 := a4) K.1 (fun r8 hh9 K10 => ?_)
  have br8 := xc_rng r8
  have K11 := xk_tr K K10 rfl
  obtain ⟨u12, u13, bu12, bu13, A14⟩ := xq_0 K11.1
  have e15 : u6 = u13 := xk_eqi (q := 9) K10 rfl A7 A14 rfl rfl
  subst e15
  show xw J ov 100 195 (355, [(4, .int x4), (3, .ref 167), (2, .ref 115), (1, .ref 0), (0, .ref 1000000)], [.int r8], hh9) _
  refine xi_pop (pc' := 356) kc_195_355 rfl rfl ?_
  refine xi_aload_n (pc' := 357) (x := 115) kc_195_356 rfl rfl ?_
  refine xi_aload_n (pc' := 358) (x := 1000000) kc_195_357 rfl rfl ?_
  refine xi_iload (pc' := 360) (x := x4) kc_195_358 rfl rfl ?_
  refine xi_iconst (pc' := 361) (v := 1) kc_195_360 rfl rfl ?_
  refine xi_iadd (pc' := 362) (v := v1) kc_195_361 rfl ev1 ?_
  refine xi_ialoadO (pc' := 363) (v := a2) kc_195_362 rfl (by decide) hov0 (xi_in (by omega) (by omega)) ea2 ?_
  refine xi_aload_n (pc' := 364) (x := 1000000) kc_195_363 rfl rfl ?_
  refine xi_iload (pc' := 366) (x := x4) kc_195_364 rfl rfl ?_
  refine xi_iconst (pc' := 367) (v := 2) kc_195_366 rfl rfl ?_
  refine xi_iadd (pc' := 368) (v := v3) kc_195_367 rfl ev3 ?_
  refine xi_ialoadO (pc' := 369) (v := a4) kc_195_368 rfl (by decide) hov0 (xi_in (by omega) (by omega)) ea4 ?_
  obtain ⟨u16, u17, u18, u19, u20, u21, u22, u23, u24, u25, u26, u27, u28, bu16, bu17, bu18, bu19, bu20, bu21, bu22, bu23, bu24, bu25, bu26, bu27, bu28, A29⟩ := xq_115 K11.1
  refine xi_virtual (mj := 18) (as := [.int a2, .int a4]) (st1 := []) (lv0 := [(0, .ref 115), (1, .int a2), (2, .int a4)]) kc_195_369 rfl rfl rfl rfl rfl A29 (Nat.le_of_ble_eq_true rfl) (hJ _ _ _ _ (by decide)) (xm_le ml_18 rfl) rfl ?_
  refine mt_18_0 hJ hov1 hov2 (d := 97) (x1 := a2) (x2 := a4) K11.1 (fun r30 hh31 K32 => ?_)
  have br30 := xc_rng r30
  have K33 := xk_tr K11 K32 rfl
  obtain ⟨u34, u35, bu34, bu35, A36⟩ := xq_0 K33.1
  have e37 : u6 = u35 := xk_eqi (q := 9) K32 rfl A14 A36 rfl rfl
  subst e37
  obtain ⟨u38, u39, u40, u41, u42, u43, u44, u45, u46, u47, u48, u49, u50, bu38, bu39, bu40, bu41, bu42, bu43, bu44, bu45, bu46, bu47, bu48, bu49, bu50, A51⟩ := xq_115 K33.1
  have e52 : u17 = u39 := xk_eqi (q := 1) K32 rfl A29 A51 rfl rfl
  subst e52
  show xw J ov 100 195 (372, [(4, .int x4), (3, .ref 167), (2, .ref 115), (1, .ref 0), (0, .ref 1000000)], [.int r30], hh31) _
  refine xi_pop (pc' := 373) kc_195_372 rfl rfl ?_
  refine xi_goto (pc' := 1501) kc_195_373 rfl ?_
  obtain ⟨v53, ev53⟩ : ∃ q : Int32, x4 + 6 = q := ⟨_, rfl⟩
  have zv53 : v53.toInt = (x4.toInt + 6) := by rw [← ev53]; exact (xz_add (X := x4.toInt) (Y := 6) rfl (by decide) (by omega) (by omega)).trans (by omega)
  refine xi_iinc (pc' := 1504) (x := x4) (v := v53) (lv' := [(4, .int v53), (3, .ref 167), (2, .ref 115), (1, .ref 0), (0, .ref 1000000)]) kc_195_1501 rfl rfl ev53 rfl (xm_lt ml_195 rfl) ?_
  refine xi_goto (pc' := 23) kc_195_1504 rfl ?_
  exact kk v53 hh31 (by omega) K33
set_option maxHeartbeats 8000000 in
theorem lc_4 {J : xe_J} {ov : List (List Int32)} (hJ : ∀ d mj as h, mj ≠ xe_loff → J d mj as h = none) (hov1 : ov[1]? = some [10, 0, 0, 0, 0, 0]) (hov2 : ov[2]? = some [99, 30, 50, 50, 1, 99999]) {xs : List Int32} (hov0 : ov[0]? = some xs) {Q : Option Value → xe_H → Prop} {h : xe_H} {x4 : Int32} (hi0 : 0 ≤ x4.toInt) (hi1 : x4.toInt + 6 ≤ xs.length) (hi2 : x4.toInt ≤ 3066) (T : xt h) (kk : ∀ (i : Int32) (h' : xe_H), i.toInt = x4.toInt + 6 → xk [(13, 0), (122, 0), (16, 0), (19, 0), (22, 0), (25, 0), (28, 0)] h h' → xw J ov 100 195 (23, [(4, .int i), (3, .ref 167), (2, .ref 115), (1, .ref 0), (0, .ref 1000000)], [], h') Q) : xw J ov 100 195 (376, [(4, .int x4), (3, .ref 167), (2, .ref 115), (1, .ref 0), (0, .ref 1000000)], [], h) Q := by
  have K : xk [(13, 0), (122, 0), (16, 0), (19, 0), (22, 0), (25, 0), (28, 0)] h h := xk_re T
  refine xi_aload_n (pc' := 377) (x := 0) kc_195_376 rfl rfl ?_
  refine xi_aload_n (pc' := 378) (x := 1000000) kc_195_377 rfl rfl ?_
  refine xi_iload (pc' := 380) (x := x4) kc_195_378 rfl rfl ?_
  refine xi_iconst (pc' := 381) (v := 1) kc_195_380 rfl rfl ?_
  obtain ⟨v1, ev1⟩ : ∃ q : Int32, x4 + 1 = q := ⟨_, rfl⟩
  have zv1 : v1.toInt = (x4.toInt + 1) := by rw [← ev1]; exact (xz_add (X := x4.toInt) (Y := 1) rfl (by decide) (by omega) (by omega)).trans (by omega)
  refine xi_iadd (pc' := 382) (v := v1) kc_195_381 rfl ev1 ?_
  obtain ⟨a2, ea2⟩ : ∃ q : Int32, xs.getD (Int32.toNatClampNeg v1) 0 = q := ⟨_, rfl⟩
  have ra2 := xc_rng a2
  refine xi_ialoadO (pc' := 383) (v := a2) kc_195_382 rfl (by decide) hov0 (xi_in (by omega) (by omega)) ea2 ?_
  obtain ⟨u3, u4, bu3, bu4, A5⟩ := xq_0 K.1
  refine xi_virtual (mj := 101) (as := [.int a2]) (st1 := []) (lv0 := [(0, .ref 0), (1, .int a2)]) kc_195_383 rfl rfl rfl rfl rfl A5 (Nat.le_of_ble_eq_true rfl) (hJ _ _ _ _ (by decide)) (xm_le ml_101 rfl) rfl ?_
  refine mt_101_0 hJ hov1 hov2 (d := 96) (x1 := a2) K.1 (fun r6 hh7 br6 K8 => ?_)
  have K9 := xk_tr K K8 rfl
  obtain ⟨u10, u11, bu10, bu11, A12⟩ := xq_0 K9.1
  have e13 : u4 = u11 := xk_eqi (q := 9) K8 rfl A5 A12 rfl rfl
  subst e13
  show xw J ov 100 195 (386, [(4, .int x4), (3, .ref 167), (2, .ref 115), (1, .ref 0), (0, .ref 1000000)], [.int r6], hh7) _
  refine xi_pop (pc' := 387) kc_195_386 rfl rfl ?_
  refine xi_aload_n (pc' := 388) (x := 115) kc_195_387 rfl rfl ?_
  refine xi_aload_n (pc' := 389) (x := 1000000) kc_195_388 rfl rfl ?_
  refine xi_iload (pc' := 391) (x := x4) kc_195_389 rfl rfl ?_
  refine xi_iconst (pc' := 392) (v := 1) kc_195_391 rfl rfl ?_
  refine xi_iadd (pc' := 393) (v := v1) kc_195_392 rfl ev1 ?_
  refine xi_ialoadO (pc' := 394) (v := a2) kc_195_393 rfl (by decide) hov0 (xi_in (by omega) (by omega)) ea2 ?_
  obtain ⟨u14, u15, u16, u17, u18, u19, u20, u21, u22, u23, u24, u25, u26, bu14, bu15, bu16, bu17, bu18, bu19, bu20, bu21, bu22, bu23, bu24, bu25, bu26, A27⟩ := xq_115 K9.1
  refine xi_virtual (mj := 21) (as := [.int a2]) (st1 := []) (lv0 := [(0, .ref 115), (1, .int a2)]) kc_195_394 rfl rfl rfl rfl rfl A27 (Nat.le_of_ble_eq_true rfl) (hJ _ _ _ _ (by decide)) (xm_le ml_21 rfl) rfl ?_
  refine mt_21_0 hJ hov1 hov2 (d := 97) (x1 := a2) K9.1 (fun r28 hh29 br28 K30 => ?_)
  have K31 := xk_tr K9 K30 rfl
  obtain ⟨u32, u33, bu32, bu33, A34⟩ := xq_0 K31.1
  have e35 : u4 = u33 := xk_eqi (q := 9) K30 rfl A12 A34 rfl rfl
  subst e35
  obtain ⟨u36, u37, u38, u39, u40, u41, u42, u43, u44, u45, u46, u47, u48, bu36, bu37, bu38, bu39, bu40, bu41, bu42, bu43, bu44, bu45, bu46, bu47, bu48, A49⟩ := xq_115 K31.1
  have e50 : u15 = u37 := xk_eqi (q := 1) K30 rfl A27 A49 rfl rfl
  subst e50
  show xw J ov 100 195 (397, [(4, .int x4), (3, .ref 167), (2, .ref 115), (1, .ref 0), (0, .ref 1000000)], [.int r28], hh29) _
  refine xi_pop (pc' := 398) kc_195_397 rfl rfl ?_
  refine xi_goto (pc' := 1501) kc_195_398 rfl ?_
  obtain ⟨v51, ev51⟩ : ∃ q : Int32, x4 + 6 = q := ⟨_, rfl⟩
  have zv51 : v51.toInt = (x4.toInt + 6) := by rw [← ev51]; exact (xz_add (X := x4.toInt) (Y := 6) rfl (by decide) (by omega) (by omega)).trans (by omega)
  refine xi_iinc (pc' := 1504) (x := x4) (v := v51) (lv' := [(4, .int v51), (3, .ref 167), (2, .ref 115), (1, .ref 0), (0, .ref 1000000)]) kc_195_1501 rfl rfl ev51 rfl (xm_lt ml_195 rfl) ?_
  refine xi_goto (pc' := 23) kc_195_1504 rfl ?_
  exact kk v51 hh29 (by omega) K31
set_option maxHeartbeats 8000000 in
theorem lc_5 {J : xe_J} {ov : List (List Int32)} (hJ : ∀ d mj as h, mj ≠ xe_loff → J d mj as h = none) (hov1 : ov[1]? = some [10, 0, 0, 0, 0, 0]) (hov2 : ov[2]? = some [99, 30, 50, 50, 1, 99999]) {xs : List Int32} (hov0 : ov[0]? = some xs) {Q : Option Value → xe_H → Prop} {h : xe_H} {x4 : Int32} (hi0 : 0 ≤ x4.toInt) (hi1 : x4.toInt + 6 ≤ xs.length) (hi2 : x4.toInt ≤ 3066) (T : xt h) (kk : ∀ (i : Int32) (h' : xe_H), i.toInt = x4.toInt + 6 → xk [(13, 0), (122, 0), (16, 0), (19, 0), (22, 0), (25, 0), (28, 0)] h h' → xw J ov 100 195 (23, [(4, .int i), (3, .ref 167), (2, .ref 115), (1, .ref 0), (0, .ref 1000000)], [], h') Q) : xw J ov 100 195 (401, [(4, .int x4), (3, .ref 167), (2, .ref 115), (1, .ref 0), (0, .ref 1000000)], [], h) Q := by
  have K : xk [(13, 0), (122, 0), (16, 0), (19, 0), (22, 0), (25, 0), (28, 0)] h h := xk_re T
  refine xi_aload_n (pc' := 402) (x := 0) kc_195_401 rfl rfl ?_
  refine xi_aload_n (pc' := 403) (x := 1000000) kc_195_402 rfl rfl ?_
  refine xi_iload (pc' := 405) (x := x4) kc_195_403 rfl rfl ?_
  refine xi_iconst (pc' := 406) (v := 1) kc_195_405 rfl rfl ?_
  obtain ⟨v1, ev1⟩ : ∃ q : Int32, x4 + 1 = q := ⟨_, rfl⟩
  have zv1 : v1.toInt = (x4.toInt + 1) := by rw [← ev1]; exact (xz_add (X := x4.toInt) (Y := 1) rfl (by decide) (by omega) (by omega)).trans (by omega)
  refine xi_iadd (pc' := 407) (v := v1) kc_195_406 rfl ev1 ?_
  obtain ⟨a2, ea2⟩ : ∃ q : Int32, xs.getD (Int32.toNatClampNeg v1) 0 = q := ⟨_, rfl⟩
  have ra2 := xc_rng a2
  refine xi_ialoadO (pc' := 408) (v := a2) kc_195_407 rfl (by decide) hov0 (xi_in (by omega) (by omega)) ea2 ?_
  refine xi_aload_n (pc' := 409) (x := 1000000) kc_195_408 rfl rfl ?_
  refine xi_iload (pc' := 411) (x := x4) kc_195_409 rfl rfl ?_
  refine xi_iconst (pc' := 412) (v := 2) kc_195_411 rfl rfl ?_
  obtain ⟨v3, ev3⟩ : ∃ q : Int32, x4 + 2 = q := ⟨_, rfl⟩
  have zv3 : v3.toInt = (x4.toInt + 2) := by rw [← ev3]; exact (xz_add (X := x4.toInt) (Y := 2) rfl (by decide) (by omega) (by omega)).trans (by omega)
  refine xi_iadd (pc' := 413) (v := v3) kc_195_412 rfl ev3 ?_
  obtain ⟨a4, ea4⟩ : ∃ q : Int32, xs.getD (Int32.toNatClampNeg v3) 0 = q := ⟨_, rfl⟩
  have ra4 := xc_rng a4
  refine xi_ialoadO (pc' := 414) (v := a4) kc_195_413 rfl (by decide) hov0 (xi_in (by omega) (by omega)) ea4 ?_
  refine xi_aload_n (pc' := 415) (x := 1000000) kc_195_414 rfl rfl ?_
  refine xi_iload (pc' := 417) (x := x4) kc_195_415 rfl rfl ?_
  refine xi_iconst (pc' := 418) (v := 3) kc_195_417 rfl rfl ?_
  obtain ⟨v5, ev5⟩ : ∃ q : Int32, x4 + 3 = q := ⟨_, rfl⟩
  have zv5 : v5.toInt = (x4.toInt + 3) := by rw [← ev5]; exact (xz_add (X := x4.toInt) (Y := 3) rfl (by decide) (by omega) (by omega)).trans (by omega)
  refine xi_iadd (pc' := 419) (v := v5) kc_195_418 rfl ev5 ?_
  obtain ⟨a6, ea6⟩ : ∃ q : Int32, xs.getD (Int32.toNatClampNeg v5) 0 = q := ⟨_, rfl⟩
  have ra6 := xc_rng a6
  refine xi_ialoadO (pc' := 420) (v := a6) kc_195_419 rfl (by decide) hov0 (xi_in (by omega) (by omega)) ea6 ?_
  refine xi_aload_n (pc' := 421) (x := 1000000) kc_195_420 rfl rfl ?_
  refine xi_iload (pc' := 423) (x := x4) kc_195_421 rfl rfl ?_
  refine xi_iconst (pc' := 424) (v := 4) kc_195_423 rfl rfl ?_
  obtain ⟨v7, ev7⟩ : ∃ q : Int32, x4 + 4 = q := ⟨_, rfl⟩
  have zv7 : v7.toInt = (x4.toInt + 4) := by rw [← ev7]; exact (xz_add (X := x4.toInt) (Y := 4) rfl (by decide) (by omega) (by omega)).trans (by omega)
  refine xi_iadd (pc' := 425) (v := v7) kc_195_424 rfl ev7 ?_
  obtain ⟨a8, ea8⟩ : ∃ q : Int32, xs.getD (Int32.toNatClampNeg v7) 0 = q := ⟨_, rfl⟩
  have ra8 := xc_rng a8
  refine xi_ialoadO (pc' := 426) (v := a8) kc_195_425 rfl (by decide) hov0 (xi_in (by omega) (by omega)) ea8 ?_
  by_cases c9 : a8.toInt = 0
  · refine xi_ift (pc' := 433) kc_195_426 rfl (xc_eq_t (X := a8.toInt) (Y := 0) rfl (by decide) (by omega)) ?_
    refine xi_iconst (pc' := 434) (v := 0) kc_195_433 rfl rfl ?_
    obtain ⟨u10, u11, bu10, bu11, A12⟩ := xq_0 K.1
    refine xi_virtual (mj := 103) (as := [.int a2, .int a4, .int a6, .int 0]) (st1 := []) (lv0 := [(0, .ref 0), (1, .int a2), (2, .int a4), (3, .int a6), (4, .int 0)]) kc_195_434 rfl rfl rfl rfl rfl A12 (Nat.le_of_ble_eq_true rfl) (hJ _ _ _ _ (by decide)) (xm_le ml_103 rfl) rfl ?_
    have zc0 : (0 : Int32).toInt = 0 := by decide
    refine mt_103_0 hJ hov1 hov2 (d := 97) (x1 := a2) (x2 := a4) (x3 := a6) (x4 := 0) K.1 (by first | omega | decide) (fun r13 hh14 br13 K15 => ?_)
    have K16 := xk_tr K K15 rfl
    obtain ⟨u17, u18, bu17, bu18, A19⟩ := xq_0 K16.1
    have e20 : u11 = u18 := xk_eqi (q := 9) K15 rfl A12 A19 rfl rfl
    subst e20
    show xw J ov 100 195 (437, [(4, .int x4), (3, .ref 167), (2, .ref 115), (1, .ref 0), (0, .ref 1000000)], [.int r13], hh14) _
    refine xi_pop (pc' := 438) kc_195_437 rfl rfl ?_
    refine xi_aload_n (pc' := 439) (x := 115) kc_195_438 rfl rfl ?_
    refine xi_aload_n (pc' := 440) (x := 1000000) kc_195_439 rfl rfl ?_
    refine xi_iload (pc' := 442) (x := x4) kc_195_440 rfl rfl ?_
    refine xi_iconst (pc' := 443) (v := 1) kc_195_442 rfl rfl ?_
    refine xi_iadd (pc' := 444) (v := v1) kc_195_443 rfl ev1 ?_
    refine xi_ialoadO (pc' := 445) (v := a2) kc_195_444 rfl (by decide) hov0 (xi_in (by omega) (by omega)) ea2 ?_
    refine xi_aload_n (pc' := 446) (x := 1000000) kc_195_445 rfl rfl ?_
    refine xi_iload (pc' := 448) (x := x4) kc_195_446 rfl rfl ?_
    refine xi_iconst (pc' := 449) (v := 2) kc_195_448 rfl rfl ?_
    refine xi_iadd (pc' := 450) (v := v3) kc_195_449 rfl ev3 ?_
    refine xi_ialoadO (pc' := 451) (v := a4) kc_195_450 rfl (by decide) hov0 (xi_in (by omega) (by omega)) ea4 ?_
    refine xi_aload_n (pc' := 452) (x := 1000000) kc_195_451 rfl rfl ?_
    refine xi_iload (pc' := 454) (x := x4) kc_195_452 rfl rfl ?_
    refine xi_iconst (pc' := 455) (v := 3) kc_195_454 rfl rfl ?_
    refine xi_iadd (pc' := 456) (v := v5) kc_195_455 rfl ev5 ?_
    refine xi_ialoadO (pc' := 457) (v := a6) kc_195_456 rfl (by decide) hov0 (xi_in (by omega) (by omega)) ea6 ?_
    refine xi_aload_n (pc' := 458) (x := 1000000) kc_195_457 rfl rfl ?_
    refine xi_iload (pc' := 460) (x := x4) kc_195_458 rfl rfl ?_
    refine xi_iconst (pc' := 461) (v := 4) kc_195_460 rfl rfl ?_
    refine xi_iadd (pc' := 462) (v := v7) kc_195_461 rfl ev7 ?_
    refine xi_ialoadO (pc' := 463) (v := a8) kc_195_462 rfl (by decide) hov0 (xi_in (by omega) (by omega)) ea8 ?_
    refine xi_ift (pc' := 470) kc_195_463 rfl (xc_eq_t (X := a8.toInt) (Y := 0) rfl (by decide) (by omega)) ?_
    refine xi_iconst (pc' := 471) (v := 0) kc_195_470 rfl rfl ?_
    obtain ⟨u21, u22, u23, u24, u25, u26, u27, u28, u29, u30, u31, u32, u33, bu21, bu22, bu23, bu24, bu25, bu26, bu27, bu28, bu29, bu30, bu31, bu32, bu33, A34⟩ := xq_115 K16.1
    refine xi_virtual (mj := 23) (as := [.int a2, .int a4, .int a6, .int 0]) (st1 := []) (lv0 := [(0, .ref 115), (1, .int a2), (2, .int a4), (3, .int a6), (4, .int 0)]) kc_195_471 rfl rfl rfl rfl rfl A34 (Nat.le_of_ble_eq_true rfl) (hJ _ _ _ _ (by decide)) (xm_le ml_23 rfl) rfl ?_
    have zc0 : (0 : Int32).toInt = 0 := by decide
    refine mt_23_0 hJ hov1 hov2 (d := 97) (x1 := a2) (x2 := a4) (x3 := a6) (x4 := 0) K16.1 (by first | omega | decide) (fun r35 hh36 br35 K37 => ?_)
    have K38 := xk_tr K16 K37 rfl
    obtain ⟨u39, u40, bu39, bu40, A41⟩ := xq_0 K38.1
    have e42 : u11 = u40 := xk_eqi (q := 9) K37 rfl A19 A41 rfl rfl
    subst e42
    obtain ⟨u43, u44, u45, u46, u47, u48, u49, u50, u51, u52, u53, u54, u55, bu43, bu44, bu45, bu46, bu47, bu48, bu49, bu50, bu51, bu52, bu53, bu54, bu55, A56⟩ := xq_115 K38.1
    have e57 : u22 = u44 := xk_eqi (q := 1) K37 rfl A34 A56 rfl rfl
    subst e57
    show xw J ov 100 195 (474, [(4, .int x4), (3, .ref 167), (2, .ref 115), (1, .ref 0), (0, .ref 1000000)], [.int r35], hh36) _
    refine xi_pop (pc' := 475) kc_195_474 rfl rfl ?_
    refine xi_goto (pc' := 1501) kc_195_475 rfl ?_
    obtain ⟨v58, ev58⟩ : ∃ q : Int32, x4 + 6 = q := ⟨_, rfl⟩
    have zv58 : v58.toInt = (x4.toInt + 6) := by rw [← ev58]; exact (xz_add (X := x4.toInt) (Y := 6) rfl (by decide) (by omega) (by omega)).trans (by omega)
    refine xi_iinc (pc' := 1504) (x := x4) (v := v58) (lv' := [(4, .int v58), (3, .ref 167), (2, .ref 115), (1, .ref 0), (0, .ref 1000000)]) kc_195_1501 rfl rfl ev58 rfl (xm_lt ml_195 rfl) ?_
    refine xi_goto (pc' := 23) kc_195_1504 rfl ?_
    exact kk v58 hh36 (by omega) K38
  · refine xi_iff (pc' := 429) kc_195_426 rfl (xc_eq_f (X := a8.toInt) (Y := 0) rfl (by decide) (by omega)) ?_
    refine xi_iconst (pc' := 430) (v := 1) kc_195_429 rfl rfl ?_
    refine xi_goto (pc' := 434) kc_195_430 rfl ?_
    obtain ⟨u59, u60, bu59, bu60, A61⟩ := xq_0 K.1
    refine xi_virtual (mj := 103) (as := [.int a2, .int a4, .int a6, .int 1]) (st1 := []) (lv0 := [(0, .ref 0), (1, .int a2), (2, .int a4), (3, .int a6), (4, .int 1)]) kc_195_434 rfl rfl rfl rfl rfl A61 (Nat.le_of_ble_eq_true rfl) (hJ _ _ _ _ (by decide)) (xm_le ml_103 rfl) rfl ?_
    have zc1 : (1 : Int32).toInt = 1 := by decide
    refine mt_103_0 hJ hov1 hov2 (d := 97) (x1 := a2) (x2 := a4) (x3 := a6) (x4 := 1) K.1 (by first | omega | decide) (fun r62 hh63 br62 K64 => ?_)
    have K65 := xk_tr K K64 rfl
    obtain ⟨u66, u67, bu66, bu67, A68⟩ := xq_0 K65.1
    have e69 : u60 = u67 := xk_eqi (q := 9) K64 rfl A61 A68 rfl rfl
    subst e69
    show xw J ov 100 195 (437, [(4, .int x4), (3, .ref 167), (2, .ref 115), (1, .ref 0), (0, .ref 1000000)], [.int r62], hh63) _
    refine xi_pop (pc' := 438) kc_195_437 rfl rfl ?_
    refine xi_aload_n (pc' := 439) (x := 115) kc_195_438 rfl rfl ?_
    refine xi_aload_n (pc' := 440) (x := 1000000) kc_195_439 rfl rfl ?_
    refine xi_iload (pc' := 442) (x := x4) kc_195_440 rfl rfl ?_
    refine xi_iconst (pc' := 443) (v := 1) kc_195_442 rfl rfl ?_
    refine xi_iadd (pc' := 444) (v := v1) kc_195_443 rfl ev1 ?_
    refine xi_ialoadO (pc' := 445) (v := a2) kc_195_444 rfl (by decide) hov0 (xi_in (by omega) (by omega)) ea2 ?_
    refine xi_aload_n (pc' := 446) (x := 1000000) kc_195_445 rfl rfl ?_
    refine xi_iload (pc' := 448) (x := x4) kc_195_446 rfl rfl ?_
    refine xi_iconst (pc' := 449) (v := 2) kc_195_448 rfl rfl ?_
    refine xi_iadd (pc' := 450) (v := v3) kc_195_449 rfl ev3 ?_
    refine xi_ialoadO (pc' := 451) (v := a4) kc_195_450 rfl (by decide) hov0 (xi_in (by omega) (by omega)) ea4 ?_
    refine xi_aload_n (pc' := 452) (x := 1000000) kc_195_451 rfl rfl ?_
    refine xi_iload (pc' := 454) (x := x4) kc_195_452 rfl rfl ?_
    refine xi_iconst (pc' := 455) (v := 3) kc_195_454 rfl rfl ?_
    refine xi_iadd (pc' := 456) (v := v5) kc_195_455 rfl ev5 ?_
    refine xi_ialoadO (pc' := 457) (v := a6) kc_195_456 rfl (by decide) hov0 (xi_in (by omega) (by omega)) ea6 ?_
    refine xi_aload_n (pc' := 458) (x := 1000000) kc_195_457 rfl rfl ?_
    refine xi_iload (pc' := 460) (x := x4) kc_195_458 rfl rfl ?_
    refine xi_iconst (pc' := 461) (v := 4) kc_195_460 rfl rfl ?_
    refine xi_iadd (pc' := 462) (v := v7) kc_195_461 rfl ev7 ?_
    refine xi_ialoadO (pc' := 463) (v := a8) kc_195_462 rfl (by decide) hov0 (xi_in (by omega) (by omega)) ea8 ?_
    refine xi_iff (pc' := 466) kc_195_463 rfl (xc_eq_f (X := a8.toInt) (Y := 0) rfl (by decide) (by omega)) ?_
    refine xi_iconst (pc' := 467) (v := 1) kc_195_466 rfl rfl ?_
    refine xi_goto (pc' := 471) kc_195_467 rfl ?_
    obtain ⟨u70, u71, u72, u73, u74, u75, u76, u77, u78, u79, u80, u81, u82, bu70, bu71, bu72, bu73, bu74, bu75, bu76, bu77, bu78, bu79, bu80, bu81, bu82, A83⟩ := xq_115 K65.1
    refine xi_virtual (mj := 23) (as := [.int a2, .int a4, .int a6, .int 1]) (st1 := []) (lv0 := [(0, .ref 115), (1, .int a2), (2, .int a4), (3, .int a6), (4, .int 1)]) kc_195_471 rfl rfl rfl rfl rfl A83 (Nat.le_of_ble_eq_true rfl) (hJ _ _ _ _ (by decide)) (xm_le ml_23 rfl) rfl ?_
    have zc1 : (1 : Int32).toInt = 1 := by decide
    refine mt_23_0 hJ hov1 hov2 (d := 97) (x1 := a2) (x2 := a4) (x3 := a6) (x4 := 1) K65.1 (by first | omega | decide) (fun r84 hh85 br84 K86 => ?_)
    have K87 := xk_tr K65 K86 rfl
    obtain ⟨u88, u89, bu88, bu89, A90⟩ := xq_0 K87.1
    have e91 : u60 = u89 := xk_eqi (q := 9) K86 rfl A68 A90 rfl rfl
    subst e91
    obtain ⟨u92, u93, u94, u95, u96, u97, u98, u99, u100, u101, u102, u103, u104, bu92, bu93, bu94, bu95, bu96, bu97, bu98, bu99, bu100, bu101, bu102, bu103, bu104, A105⟩ := xq_115 K87.1
    have e106 : u71 = u93 := xk_eqi (q := 1) K86 rfl A83 A105 rfl rfl
    subst e106
    show xw J ov 100 195 (474, [(4, .int x4), (3, .ref 167), (2, .ref 115), (1, .ref 0), (0, .ref 1000000)], [.int r84], hh85) _
    refine xi_pop (pc' := 475) kc_195_474 rfl rfl ?_
    refine xi_goto (pc' := 1501) kc_195_475 rfl ?_
    obtain ⟨v107, ev107⟩ : ∃ q : Int32, x4 + 6 = q := ⟨_, rfl⟩
    have zv107 : v107.toInt = (x4.toInt + 6) := by rw [← ev107]; exact (xz_add (X := x4.toInt) (Y := 6) rfl (by decide) (by omega) (by omega)).trans (by omega)
    refine xi_iinc (pc' := 1504) (x := x4) (v := v107) (lv' := [(4, .int v107), (3, .ref 167), (2, .ref 115), (1, .ref 0), (0, .ref 1000000)]) kc_195_1501 rfl rfl ev107 rfl (xm_lt ml_195 rfl) ?_
    refine xi_goto (pc' := 23) kc_195_1504 rfl ?_
    exact kk v107 hh85 (by omega) K87
set_option maxHeartbeats 8000000 in
theorem lc_6 {J : xe_J} {ov : List (List Int32)} (hJ : ∀ d mj as h, mj ≠ xe_loff → J d mj as h = none) (hov1 : ov[1]? = some [10, 0, 0, 0, 0, 0]) (hov2 : ov[2]? = some [99, 30, 50, 50, 1, 99999]) {xs : List Int32} (hov0 : ov[0]? = some xs) {Q : Option Value → xe_H → Prop} {h : xe_H} {x4 : Int32} (hi0 : 0 ≤ x4.toInt) (hi1 : x4.toInt + 6 ≤ xs.length) (hi2 : x4.toInt ≤ 3066) (T : xt h) (kk : ∀ (i : Int32) (h' : xe_H), i.toInt = x4.toInt + 6 → xk [(13, 0), (122, 0), (16, 0), (19, 0), (22, 0), (25, 0), (28, 0)] h h' → xw J ov 100 195 (23, [(4, .int i), (3, .ref 167), (2, .ref 115), (1, .ref 0), (0, .ref 1000000)], [], h') Q) : xw J ov 100 195 (478, [(4, .int x4), (3, .ref 167), (2, .ref 115), (1, .ref 0), (0, .ref 1000000)], [], h) Q := by
  have K : xk [(13, 0), (122, 0), (16, 0), (19, 0), (22, 0), (25, 0), (28, 0)] h h := xk_re T
  refine xi_aload_n (pc' := 479) (x := 0) kc_195_478 rfl rfl ?_
  refine xi_aload_n (pc' := 480) (x := 1000000) kc_195_479 rfl rfl ?_
  refine xi_iload (pc' := 482) (x := x4) kc_195_480 rfl rfl ?_
  refine xi_iconst (pc' := 483) (v := 1) kc_195_482 rfl rfl ?_
  obtain ⟨v1, ev1⟩ : ∃ q : Int32, x4 + 1 = q := ⟨_, rfl⟩
  have zv1 : v1.toInt = (x4.toInt + 1) := by rw [← ev1]; exact (xz_add (X := x4.toInt) (Y := 1) rfl (by decide) (by omega) (by omega)).trans (by omega)
  refine xi_iadd (pc' := 484) (v := v1) kc_195_483 rfl ev1 ?_
  obtain ⟨a2, ea2⟩ : ∃ q : Int32, xs.getD (Int32.toNatClampNeg v1) 0 = q := ⟨_, rfl⟩
  have ra2 := xc_rng a2
  refine xi_ialoadO (pc' := 485) (v := a2) kc_195_484 rfl (by decide) hov0 (xi_in (by omega) (by omega)) ea2 ?_
  refine xi_aload_n (pc' := 486) (x := 1000000) kc_195_485 rfl rfl ?_
  refine xi_iload (pc' := 488) (x := x4) kc_195_486 rfl rfl ?_
  refine xi_iconst (pc' := 489) (v := 2) kc_195_488 rfl rfl ?_
  obtain ⟨v3, ev3⟩ : ∃ q : Int32, x4 + 2 = q := ⟨_, rfl⟩
  have zv3 : v3.toInt = (x4.toInt + 2) := by rw [← ev3]; exact (xz_add (X := x4.toInt) (Y := 2) rfl (by decide) (by omega) (by omega)).trans (by omega)
  refine xi_iadd (pc' := 490) (v := v3) kc_195_489 rfl ev3 ?_
  obtain ⟨a4, ea4⟩ : ∃ q : Int32, xs.getD (Int32.toNatClampNeg v3) 0 = q := ⟨_, rfl⟩
  have ra4 := xc_rng a4
  refine xi_ialoadO (pc' := 491) (v := a4) kc_195_490 rfl (by decide) hov0 (xi_in (by omega) (by omega)) ea4 ?_
  obtain ⟨u5, u6, bu5, bu6, A7⟩ := xq_0 K.1
  refine xi_virtual (mj := 106) (as := [.int a2, .int a4]) (st1 := []) (lv0 := [(0, .ref 0), (1, .int a2), (2, .int a4)]) kc_195_491 rfl rfl rfl rfl rfl A7 (Nat.le_of_ble_eq_true rfl) (hJ _ _ _ _ (by decide)) (xm_le ml_106 rfl) rfl ?_
  refine mt_106_0 hJ hov1 hov2 (d := 95) (x1 := a2) (x2 := a4) K.1 (fun r8 hh9 K10 => ?_)
  have br8 := xc_rng r8
  have K11 := xk_tr K K10 rfl
  obtain ⟨u12, u13, bu12, bu13, A14⟩ := xq_0 K11.1
  have e15 : u6 = u13 := xk_eqi (q := 9) K10 rfl A7 A14 rfl rfl
  subst e15
  show xw J ov 100 195 (494, [(4, .int x4), (3, .ref 167), (2, .ref 115), (1, .ref 0), (0, .ref 1000000)], [.int r8], hh9) _
  refine xi_pop (pc' := 495) kc_195_494 rfl rfl ?_
  refine xi_aload_n (pc' := 496) (x := 115) kc_195_495 rfl rfl ?_
  refine xi_aload_n (pc' := 497) (x := 1000000) kc_195_496 rfl rfl ?_
  refine xi_iload (pc' := 499) (x := x4) kc_195_497 rfl rfl ?_
  refine xi_iconst (pc' := 500) (v := 1) kc_195_499 rfl rfl ?_
  refine xi_iadd (pc' := 501) (v := v1) kc_195_500 rfl ev1 ?_
  refine xi_ialoadO (pc' := 502) (v := a2) kc_195_501 rfl (by decide) hov0 (xi_in (by omega) (by omega)) ea2 ?_
  refine xi_aload_n (pc' := 503) (x := 1000000) kc_195_502 rfl rfl ?_
  refine xi_iload (pc' := 505) (x := x4) kc_195_503 rfl rfl ?_
  refine xi_iconst (pc' := 506) (v := 2) kc_195_505 rfl rfl ?_
  refine xi_iadd (pc' := 507) (v := v3) kc_195_506 rfl ev3 ?_
  refine xi_ialoadO (pc' := 508) (v := a4) kc_195_507 rfl (by decide) hov0 (xi_in (by omega) (by omega)) ea4 ?_
  obtain ⟨u16, u17, u18, u19, u20, u21, u22, u23, u24, u25, u26, u27, u28, bu16, bu17, bu18, bu19, bu20, bu21, bu22, bu23, bu24, bu25, bu26, bu27, bu28, A29⟩ := xq_115 K11.1
  refine xi_virtual (mj := 25) (as := [.int a2, .int a4]) (st1 := []) (lv0 := [(0, .ref 115), (1, .int a2), (2, .int a4)]) kc_195_508 rfl rfl rfl rfl rfl A29 (Nat.le_of_ble_eq_true rfl) (hJ _ _ _ _ (by decide)) (xm_le ml_25 rfl) rfl ?_
  refine mt_25_0 hJ hov1 hov2 (d := 96) (x1 := a2) (x2 := a4) K11.1 (fun r30 hh31 K32 => ?_)
  have br30 := xc_rng r30
  have K33 := xk_tr K11 K32 rfl
  obtain ⟨u34, u35, bu34, bu35, A36⟩ := xq_0 K33.1
  have e37 : u6 = u35 := xk_eqi (q := 9) K32 rfl A14 A36 rfl rfl
  subst e37
  obtain ⟨u38, u39, u40, u41, u42, u43, u44, u45, u46, u47, u48, u49, u50, bu38, bu39, bu40, bu41, bu42, bu43, bu44, bu45, bu46, bu47, bu48, bu49, bu50, A51⟩ := xq_115 K33.1
  have e52 : u17 = u39 := xk_eqi (q := 1) K32 rfl A29 A51 rfl rfl
  subst e52
  show xw J ov 100 195 (511, [(4, .int x4), (3, .ref 167), (2, .ref 115), (1, .ref 0), (0, .ref 1000000)], [.int r30], hh31) _
  refine xi_pop (pc' := 512) kc_195_511 rfl rfl ?_
  refine xi_goto (pc' := 1501) kc_195_512 rfl ?_
  obtain ⟨v53, ev53⟩ : ∃ q : Int32, x4 + 6 = q := ⟨_, rfl⟩
  have zv53 : v53.toInt = (x4.toInt + 6) := by rw [← ev53]; exact (xz_add (X := x4.toInt) (Y := 6) rfl (by decide) (by omega) (by omega)).trans (by omega)
  refine xi_iinc (pc' := 1504) (x := x4) (v := v53) (lv' := [(4, .int v53), (3, .ref 167), (2, .ref 115), (1, .ref 0), (0, .ref 1000000)]) kc_195_1501 rfl rfl ev53 rfl (xm_lt ml_195 rfl) ?_
  refine xi_goto (pc' := 23) kc_195_1504 rfl ?_
  exact kk v53 hh31 (by omega) K33
set_option maxHeartbeats 8000000 in
theorem lc_7 {J : xe_J} {ov : List (List Int32)} (hJ : ∀ d mj as h, mj ≠ xe_loff → J d mj as h = none) (hov1 : ov[1]? = some [10, 0, 0, 0, 0, 0]) (hov2 : ov[2]? = some [99, 30, 50, 50, 1, 99999]) {xs : List Int32} (hov0 : ov[0]? = some xs) {Q : Option Value → xe_H → Prop} {h : xe_H} {x4 : Int32} (hi0 : 0 ≤ x4.toInt) (hi1 : x4.toInt + 6 ≤ xs.length) (hi2 : x4.toInt ≤ 3066) (T : xt h) (kk : ∀ (i : Int32) (h' : xe_H), i.toInt = x4.toInt + 6 → xk [(13, 0), (122, 0), (16, 0), (19, 0), (22, 0), (25, 0), (28, 0)] h h' → xw J ov 100 195 (23, [(4, .int i), (3, .ref 167), (2, .ref 115), (1, .ref 0), (0, .ref 1000000)], [], h') Q) : xw J ov 100 195 (515, [(4, .int x4), (3, .ref 167), (2, .ref 115), (1, .ref 0), (0, .ref 1000000)], [], h) Q := by
  have K : xk [(13, 0), (122, 0), (16, 0), (19, 0), (22, 0), (25, 0), (28, 0)] h h := xk_re T
  refine xi_aload_n (pc' := 516) (x := 0) kc_195_515 rfl rfl ?_
  refine xi_aload_n (pc' := 517) (x := 1000000) kc_195_516 rfl rfl ?_
  refine xi_iload (pc' := 519) (x := x4) kc_195_517 rfl rfl ?_
  refine xi_iconst (pc' := 520) (v := 1) kc_195_519 rfl rfl ?_
  obtain ⟨v1, ev1⟩ : ∃ q : Int32, x4 + 1 = q := ⟨_, rfl⟩
  have zv1 : v1.toInt = (x4.toInt + 1) := by rw [← ev1]; exact (xz_add (X := x4.toInt) (Y := 1) rfl (by decide) (by omega) (by omega)).trans (by omega)
  refine xi_iadd (pc' := 521) (v := v1) kc_195_520 rfl ev1 ?_
  obtain ⟨a2, ea2⟩ : ∃ q : Int32, xs.getD (Int32.toNatClampNeg v1) 0 = q := ⟨_, rfl⟩
  have ra2 := xc_rng a2
  refine xi_ialoadO (pc' := 522) (v := a2) kc_195_521 rfl (by decide) hov0 (xi_in (by omega) (by omega)) ea2 ?_
  obtain ⟨u3, u4, bu3, bu4, A5⟩ := xq_0 K.1
  refine xi_virtual (mj := 110) (as := [.int a2]) (st1 := []) (lv0 := [(0, .ref 0), (1, .int a2)]) kc_195_522 rfl rfl rfl rfl rfl A5 (Nat.le_of_ble_eq_true rfl) (hJ _ _ _ _ (by decide)) (xm_le ml_110 rfl) rfl ?_
  refine mt_110_0 hJ hov1 hov2 (d := 98) (x1 := a2) K.1 (fun r6 hh7 K8 => ?_)
  have br6 := xc_rng r6
  have K9 := xk_tr K K8 rfl
  obtain ⟨u10, u11, bu10, bu11, A12⟩ := xq_0 K9.1
  have e13 : u4 = u11 := xk_eqi (q := 9) K8 rfl A5 A12 rfl rfl
  subst e13
  show xw J ov 100 195 (525, [(4, .int x4), (3, .ref 167), (2, .ref 115), (1, .ref 0), (0, .ref 1000000)], [.int r6], hh7) _
  refine xi_pop (pc' := 526) kc_195_525 rfl rfl ?_
  refine xi_aload_n (pc' := 527) (x := 115) kc_195_526 rfl rfl ?_
  refine xi_aload_n (pc' := 528) (x := 1000000) kc_195_527 rfl rfl ?_
  refine xi_iload (pc' := 530) (x := x4) kc_195_528 rfl rfl ?_
  refine xi_iconst (pc' := 531) (v := 1) kc_195_530 rfl rfl ?_
  refine xi_iadd (pc' := 532) (v := v1) kc_195_531 rfl ev1 ?_
  refine xi_ialoadO (pc' := 533) (v := a2) kc_195_532 rfl (by decide) hov0 (xi_in (by omega) (by omega)) ea2 ?_
  obtain ⟨u14, u15, u16, u17, u18, u19, u20, u21, u22, u23, u24, u25, u26, bu14, bu15, bu16, bu17, bu18, bu19, bu20, bu21, bu22, bu23, bu24, bu25, bu26, A27⟩ := xq_115 K9.1
  refine xi_virtual (mj := 27) (as := [.int a2]) (st1 := []) (lv0 := [(0, .ref 115), (1, .int a2)]) kc_195_533 rfl rfl rfl rfl rfl A27 (Nat.le_of_ble_eq_true rfl) (hJ _ _ _ _ (by decide)) (xm_le ml_27 rfl) rfl ?_
  refine mt_27_0 hJ hov1 hov2 (d := 98) (x1 := a2) K9.1 (fun r28 hh29 K30 => ?_)
  have br28 := xc_rng r28
  have K31 := xk_tr K9 K30 rfl
  obtain ⟨u32, u33, bu32, bu33, A34⟩ := xq_0 K31.1
  have e35 : u4 = u33 := xk_eqi (q := 9) K30 rfl A12 A34 rfl rfl
  subst e35
  obtain ⟨u36, u37, u38, u39, u40, u41, u42, u43, u44, u45, u46, u47, u48, bu36, bu37, bu38, bu39, bu40, bu41, bu42, bu43, bu44, bu45, bu46, bu47, bu48, A49⟩ := xq_115 K31.1
  have e50 : u15 = u37 := xk_eqi (q := 1) K30 rfl A27 A49 rfl rfl
  subst e50
  show xw J ov 100 195 (536, [(4, .int x4), (3, .ref 167), (2, .ref 115), (1, .ref 0), (0, .ref 1000000)], [.int r28], hh29) _
  refine xi_pop (pc' := 537) kc_195_536 rfl rfl ?_
  refine xi_goto (pc' := 1501) kc_195_537 rfl ?_
  obtain ⟨v51, ev51⟩ : ∃ q : Int32, x4 + 6 = q := ⟨_, rfl⟩
  have zv51 : v51.toInt = (x4.toInt + 6) := by rw [← ev51]; exact (xz_add (X := x4.toInt) (Y := 6) rfl (by decide) (by omega) (by omega)).trans (by omega)
  refine xi_iinc (pc' := 1504) (x := x4) (v := v51) (lv' := [(4, .int v51), (3, .ref 167), (2, .ref 115), (1, .ref 0), (0, .ref 1000000)]) kc_195_1501 rfl rfl ev51 rfl (xm_lt ml_195 rfl) ?_
  refine xi_goto (pc' := 23) kc_195_1504 rfl ?_
  exact kk v51 hh29 (by omega) K31
set_option maxHeartbeats 8000000 in
theorem lc_8 {J : xe_J} {ov : List (List Int32)} (hJ : ∀ d mj as h, mj ≠ xe_loff → J d mj as h = none) (hov1 : ov[1]? = some [10, 0, 0, 0, 0, 0]) (hov2 : ov[2]? = some [99, 30, 50, 50, 1, 99999]) {xs : List Int32} (hov0 : ov[0]? = some xs) {Q : Option Value → xe_H → Prop} {h : xe_H} {x4 : Int32} (hi0 : 0 ≤ x4.toInt) (hi1 : x4.toInt + 6 ≤ xs.length) (hi2 : x4.toInt ≤ 3066) (T : xt h) (kk : ∀ (i : Int32) (h' : xe_H), i.toInt = x4.toInt + 6 → xk [(13, 0), (122, 0), (16, 0), (19, 0), (22, 0), (25, 0), (28, 0)] h h' → xw J ov 100 195 (23, [(4, .int i), (3, .ref 167), (2, .ref 115), (1, .ref 0), (0, .ref 1000000)], [], h') Q) : xw J ov 100 195 (540, [(4, .int x4), (3, .ref 167), (2, .ref 115), (1, .ref 0), (0, .ref 1000000)], [], h) Q := by
  have K : xk [(13, 0), (122, 0), (16, 0), (19, 0), (22, 0), (25, 0), (28, 0)] h h := xk_re T
  refine xi_aload_n (pc' := 541) (x := 0) kc_195_540 rfl rfl ?_
  refine xi_aload_n (pc' := 542) (x := 1000000) kc_195_541 rfl rfl ?_
  refine xi_iload (pc' := 544) (x := x4) kc_195_542 rfl rfl ?_
  refine xi_iconst (pc' := 545) (v := 1) kc_195_544 rfl rfl ?_
  obtain ⟨v1, ev1⟩ : ∃ q : Int32, x4 + 1 = q := ⟨_, rfl⟩
  have zv1 : v1.toInt = (x4.toInt + 1) := by rw [← ev1]; exact (xz_add (X := x4.toInt) (Y := 1) rfl (by decide) (by omega) (by omega)).trans (by omega)
  refine xi_iadd (pc' := 546) (v := v1) kc_195_545 rfl ev1 ?_
  obtain ⟨a2, ea2⟩ : ∃ q : Int32, xs.getD (Int32.toNatClampNeg v1) 0 = q := ⟨_, rfl⟩
  have ra2 := xc_rng a2
  refine xi_ialoadO (pc' := 547) (v := a2) kc_195_546 rfl (by decide) hov0 (xi_in (by omega) (by omega)) ea2 ?_
  obtain ⟨u3, u4, bu3, bu4, A5⟩ := xq_0 K.1
  refine xi_virtual (mj := 111) (as := [.int a2]) (st1 := []) (lv0 := [(0, .ref 0), (1, .int a2)]) kc_195_547 rfl rfl rfl rfl rfl A5 (Nat.le_of_ble_eq_true rfl) (hJ _ _ _ _ (by decide)) (xm_le ml_111 rfl) rfl ?_
  refine mt_111_0 hJ hov1 hov2 (d := 98) (x1 := a2) K.1 (fun r6 hh7 K8 => ?_)
  have br6 := xc_rng r6
  have K9 := xk_tr K K8 rfl
  obtain ⟨u10, u11, bu10, bu11, A12⟩ := xq_0 K9.1
  have e13 : u4 = u11 := xk_eqi (q := 9) K8 rfl A5 A12 rfl rfl
  subst e13
  show xw J ov 100 195 (550, [(4, .int x4), (3, .ref 167), (2, .ref 115), (1, .ref 0), (0, .ref 1000000)], [.int r6], hh7) _
  refine xi_pop (pc' := 551) kc_195_550 rfl rfl ?_
  refine xi_aload_n (pc' := 552) (x := 115) kc_195_551 rfl rfl ?_
  refine xi_aload_n (pc' := 553) (x := 1000000) kc_195_552 rfl rfl ?_
  refine xi_iload (pc' := 555) (x := x4) kc_195_553 rfl rfl ?_
  refine xi_iconst (pc' := 556) (v := 1) kc_195_555 rfl rfl ?_
  refine xi_iadd (pc' := 557) (v := v1) kc_195_556 rfl ev1 ?_
  refine xi_ialoadO (pc' := 558) (v := a2) kc_195_557 rfl (by decide) hov0 (xi_in (by omega) (by omega)) ea2 ?_
  obtain ⟨u14, u15, u16, u17, u18, u19, u20, u21, u22, u23, u24, u25, u26, bu14, bu15, bu16, bu17, bu18, bu19, bu20, bu21, bu22, bu23, bu24, bu25, bu26, A27⟩ := xq_115 K9.1
  refine xi_virtual (mj := 28) (as := [.int a2]) (st1 := []) (lv0 := [(0, .ref 115), (1, .int a2)]) kc_195_558 rfl rfl rfl rfl rfl A27 (Nat.le_of_ble_eq_true rfl) (hJ _ _ _ _ (by decide)) (xm_le ml_28 rfl) rfl ?_
  refine mt_28_0 hJ hov1 hov2 (d := 97) (x1 := a2) K9.1 (fun r28 hh29 K30 => ?_)
  have br28 := xc_rng r28
  have K31 := xk_tr K9 K30 rfl
  obtain ⟨u32, u33, bu32, bu33, A34⟩ := xq_0 K31.1
  have e35 : u4 = u33 := xk_eqi (q := 9) K30 rfl A12 A34 rfl rfl
  subst e35
  obtain ⟨u36, u37, u38, u39, u40, u41, u42, u43, u44, u45, u46, u47, u48, bu36, bu37, bu38, bu39, bu40, bu41, bu42, bu43, bu44, bu45, bu46, bu47, bu48, A49⟩ := xq_115 K31.1
  have e50 : u15 = u37 := xk_eqi (q := 1) K30 rfl A27 A49 rfl rfl
  subst e50
  show xw J ov 100 195 (561, [(4, .int x4), (3, .ref 167), (2, .ref 115), (1, .ref 0), (0, .ref 1000000)], [.int r28], hh29) _
  refine xi_pop (pc' := 562) kc_195_561 rfl rfl ?_
  refine xi_goto (pc' := 1501) kc_195_562 rfl ?_
  obtain ⟨v51, ev51⟩ : ∃ q : Int32, x4 + 6 = q := ⟨_, rfl⟩
  have zv51 : v51.toInt = (x4.toInt + 6) := by rw [← ev51]; exact (xz_add (X := x4.toInt) (Y := 6) rfl (by decide) (by omega) (by omega)).trans (by omega)
  refine xi_iinc (pc' := 1504) (x := x4) (v := v51) (lv' := [(4, .int v51), (3, .ref 167), (2, .ref 115), (1, .ref 0), (0, .ref 1000000)]) kc_195_1501 rfl rfl ev51 rfl (xm_lt ml_195 rfl) ?_
  refine xi_goto (pc' := 23) kc_195_1504 rfl ?_
  exact kk v51 hh29 (by omega) K31
set_option maxHeartbeats 8000000 in
theorem lc_9 {J : xe_J} {ov : List (List Int32)} (hJ : ∀ d mj as h, mj ≠ xe_loff → J d mj as h = none) (hov1 : ov[1]? = some [10, 0, 0, 0, 0, 0]) (hov2 : ov[2]? = some [99, 30, 50, 50, 1, 99999]) {xs : List Int32} (hov0 : ov[0]? = some xs) {Q : Option Value → xe_H → Prop} {h : xe_H} {x4 : Int32} (hi0 : 0 ≤ x4.toInt) (hi1 : x4.toInt + 6 ≤ xs.length) (hi2 : x4.toInt ≤ 3066) (T : xt h) (kk : ∀ (i : Int32) (h' : xe_H), i.toInt = x4.toInt + 6 → xk [(13, 0), (122, 0), (16, 0), (19, 0), (22, 0), (25, 0), (28, 0)] h h' → xw J ov 100 195 (23, [(4, .int i), (3, .ref 167), (2, .ref 115), (1, .ref 0), (0, .ref 1000000)], [], h') Q) : xw J ov 100 195 (565, [(4, .int x4), (3, .ref 167), (2, .ref 115), (1, .ref 0), (0, .ref 1000000)], [], h) Q := by
  have K : xk [(13, 0), (122, 0), (16, 0), (19, 0), (22, 0), (25, 0), (28, 0)] h h := xk_re T
  refine xi_aload_n (pc' := 566) (x := 0) kc_195_565 rfl rfl ?_
  refine xi_aload_n (pc' := 567) (x := 1000000) kc_195_566 rfl rfl ?_
  refine xi_iload (pc' := 569) (x := x4) kc_195_567 rfl rfl ?_
  refine xi_iconst (pc' := 570) (v := 1) kc_195_569 rfl rfl ?_
  obtain ⟨v1, ev1⟩ : ∃ q : Int32, x4 + 1 = q := ⟨_, rfl⟩
  have zv1 : v1.toInt = (x4.toInt + 1) := by rw [← ev1]; exact (xz_add (X := x4.toInt) (Y := 1) rfl (by decide) (by omega) (by omega)).trans (by omega)
  refine xi_iadd (pc' := 571) (v := v1) kc_195_570 rfl ev1 ?_
  obtain ⟨a2, ea2⟩ : ∃ q : Int32, xs.getD (Int32.toNatClampNeg v1) 0 = q := ⟨_, rfl⟩
  have ra2 := xc_rng a2
  refine xi_ialoadO (pc' := 572) (v := a2) kc_195_571 rfl (by decide) hov0 (xi_in (by omega) (by omega)) ea2 ?_
  obtain ⟨u3, u4, bu3, bu4, A5⟩ := xq_0 K.1
  refine xi_virtual (mj := 112) (as := [.int a2]) (st1 := []) (lv0 := [(0, .ref 0), (1, .int a2)]) kc_195_572 rfl rfl rfl rfl rfl A5 (Nat.le_of_ble_eq_true rfl) (hJ _ _ _ _ (by decide)) (xm_le ml_112 rfl) rfl ?_
  refine mt_112_0 hJ hov1 hov2 (d := 98) (x1 := a2) K.1 (fun r6 hh7 K8 => ?_)
  have br6 := xc_rng r6
  have K9 := xk_tr K K8 rfl
  obtain ⟨u10, u11, bu10, bu11, A12⟩ := xq_0 K9.1
  have e13 : u4 = u11 := xk_eqi (q := 9) K8 rfl A5 A12 rfl rfl
  subst e13
  show xw J ov 100 195 (575, [(4, .int x4), (3, .ref 167), (2, .ref 115), (1, .ref 0), (0, .ref 1000000)], [.int r6], hh7) _
  refine xi_pop (pc' := 576) kc_195_575 rfl rfl ?_
  refine xi_aload_n (pc' := 577) (x := 115) kc_195_576 rfl rfl ?_
  refine xi_aload_n (pc' := 578) (x := 1000000) kc_195_577 rfl rfl ?_
  refine xi_iload (pc' := 580) (x := x4) kc_195_578 rfl rfl ?_
  refine xi_iconst (pc' := 581) (v := 1) kc_195_580 rfl rfl ?_
  refine xi_iadd (pc' := 582) (v := v1) kc_195_581 rfl ev1 ?_
  refine xi_ialoadO (pc' := 583) (v := a2) kc_195_582 rfl (by decide) hov0 (xi_in (by omega) (by omega)) ea2 ?_
  obtain ⟨u14, u15, u16, u17, u18, u19, u20, u21, u22, u23, u24, u25, u26, bu14, bu15, bu16, bu17, bu18, bu19, bu20, bu21, bu22, bu23, bu24, bu25, bu26, A27⟩ := xq_115 K9.1
  refine xi_virtual (mj := 29) (as := [.int a2]) (st1 := []) (lv0 := [(0, .ref 115), (1, .int a2)]) kc_195_583 rfl rfl rfl rfl rfl A27 (Nat.le_of_ble_eq_true rfl) (hJ _ _ _ _ (by decide)) (xm_le ml_29 rfl) rfl ?_
  refine mt_29_0 hJ hov1 hov2 (d := 97) (x1 := a2) K9.1 (fun r28 hh29 K30 => ?_)
  have br28 := xc_rng r28
  have K31 := xk_tr K9 K30 rfl
  obtain ⟨u32, u33, bu32, bu33, A34⟩ := xq_0 K31.1
  have e35 : u4 = u33 := xk_eqi (q := 9) K30 rfl A12 A34 rfl rfl
  subst e35
  obtain ⟨u36, u37, u38, u39, u40, u41, u42, u43, u44, u45, u46, u47, u48, bu36, bu37, bu38, bu39, bu40, bu41, bu42, bu43, bu44, bu45, bu46, bu47, bu48, A49⟩ := xq_115 K31.1
  have e50 : u15 = u37 := xk_eqi (q := 1) K30 rfl A27 A49 rfl rfl
  subst e50
  show xw J ov 100 195 (586, [(4, .int x4), (3, .ref 167), (2, .ref 115), (1, .ref 0), (0, .ref 1000000)], [.int r28], hh29) _
  refine xi_pop (pc' := 587) kc_195_586 rfl rfl ?_
  refine xi_goto (pc' := 1501) kc_195_587 rfl ?_
  obtain ⟨v51, ev51⟩ : ∃ q : Int32, x4 + 6 = q := ⟨_, rfl⟩
  have zv51 : v51.toInt = (x4.toInt + 6) := by rw [← ev51]; exact (xz_add (X := x4.toInt) (Y := 6) rfl (by decide) (by omega) (by omega)).trans (by omega)
  refine xi_iinc (pc' := 1504) (x := x4) (v := v51) (lv' := [(4, .int v51), (3, .ref 167), (2, .ref 115), (1, .ref 0), (0, .ref 1000000)]) kc_195_1501 rfl rfl ev51 rfl (xm_lt ml_195 rfl) ?_
  refine xi_goto (pc' := 23) kc_195_1504 rfl ?_
  exact kk v51 hh29 (by omega) K31
set_option maxHeartbeats 8000000 in
theorem lc_10 {J : xe_J} {ov : List (List Int32)} (hJ : ∀ d mj as h, mj ≠ xe_loff → J d mj as h = none) (hov1 : ov[1]? = some [10, 0, 0, 0, 0, 0]) (hov2 : ov[2]? = some [99, 30, 50, 50, 1, 99999]) {xs : List Int32} (hov0 : ov[0]? = some xs) {Q : Option Value → xe_H → Prop} {h : xe_H} {x4 : Int32} (hi0 : 0 ≤ x4.toInt) (hi1 : x4.toInt + 6 ≤ xs.length) (hi2 : x4.toInt ≤ 3066) (T : xt h) (kk : ∀ (i : Int32) (h' : xe_H), i.toInt = x4.toInt + 6 → xk [(13, 0), (122, 0), (16, 0), (19, 0), (22, 0), (25, 0), (28, 0)] h h' → xw J ov 100 195 (23, [(4, .int i), (3, .ref 167), (2, .ref 115), (1, .ref 0), (0, .ref 1000000)], [], h') Q) : xw J ov 100 195 (590, [(4, .int x4), (3, .ref 167), (2, .ref 115), (1, .ref 0), (0, .ref 1000000)], [], h) Q := by
  have K : xk [(13, 0), (122, 0), (16, 0), (19, 0), (22, 0), (25, 0), (28, 0)] h h := xk_re T
  refine xi_aload_n (pc' := 591) (x := 0) kc_195_590 rfl rfl ?_
  refine xi_aload_n (pc' := 592) (x := 1000000) kc_195_591 rfl rfl ?_
  refine xi_iload (pc' := 594) (x := x4) kc_195_592 rfl rfl ?_
  refine xi_iconst (pc' := 595) (v := 1) kc_195_594 rfl rfl ?_
  obtain ⟨v1, ev1⟩ : ∃ q : Int32, x4 + 1 = q := ⟨_, rfl⟩
  have zv1 : v1.toInt = (x4.toInt + 1) := by rw [← ev1]; exact (xz_add (X := x4.toInt) (Y := 1) rfl (by decide) (by omega) (by omega)).trans (by omega)
  refine xi_iadd (pc' := 596) (v := v1) kc_195_595 rfl ev1 ?_
  obtain ⟨a2, ea2⟩ : ∃ q : Int32, xs.getD (Int32.toNatClampNeg v1) 0 = q := ⟨_, rfl⟩
  have ra2 := xc_rng a2
  refine xi_ialoadO (pc' := 597) (v := a2) kc_195_596 rfl (by decide) hov0 (xi_in (by omega) (by omega)) ea2 ?_
  refine xi_aload_n (pc' := 598) (x := 1000000) kc_195_597 rfl rfl ?_
  refine xi_iload (pc' := 600) (x := x4) kc_195_598 rfl rfl ?_
  refine xi_iconst (pc' := 601) (v := 2) kc_195_600 rfl rfl ?_
  obtain ⟨v3, ev3⟩ : ∃ q : Int32, x4 + 2 = q := ⟨_, rfl⟩
  have zv3 : v3.toInt = (x4.toInt + 2) := by rw [← ev3]; exact (xz_add (X := x4.toInt) (Y := 2) rfl (by decide) (by omega) (by omega)).trans (by omega)
  refine xi_iadd (pc' := 602) (v := v3) kc_195_601 rfl ev3 ?_
  obtain ⟨a4, ea4⟩ : ∃ q : Int32, xs.getD (Int32.toNatClampNeg v3) 0 = q := ⟨_, rfl⟩
  have ra4 := xc_rng a4
  refine xi_ialoadO (pc' := 603) (v := a4) kc_195_602 rfl (by decide) hov0 (xi_in (by omega) (by omega)) ea4 ?_
  refine xi_aload_n (pc' := 604) (x := 1000000) kc_195_603 rfl rfl ?_
  refine xi_iload (pc' := 606) (x := x4) kc_195_604 rfl rfl ?_
  refine xi_iconst (pc' := 607) (v := 3) kc_195_606 rfl rfl ?_
  obtain ⟨v5, ev5⟩ : ∃ q : Int32, x4 + 3 = q := ⟨_, rfl⟩
  have zv5 : v5.toInt = (x4.toInt + 3) := by rw [← ev5]; exact (xz_add (X := x4.toInt) (Y := 3) rfl (by decide) (by omega) (by omega)).trans (by omega)
  refine xi_iadd (pc' := 608) (v := v5) kc_195_607 rfl ev5 ?_
  obtain ⟨a6, ea6⟩ : ∃ q : Int32, xs.getD (Int32.toNatClampNeg v5) 0 = q := ⟨_, rfl⟩
  have ra6 := xc_rng a6
  refine xi_ialoadO (pc' := 609) (v := a6) kc_195_608 rfl (by decide) hov0 (xi_in (by omega) (by omega)) ea6 ?_
  refine xi_aload_n (pc' := 610) (x := 1000000) kc_195_609 rfl rfl ?_
  refine xi_iload (pc' := 612) (x := x4) kc_195_610 rfl rfl ?_
  refine xi_iconst (pc' := 613) (v := 4) kc_195_612 rfl rfl ?_
  obtain ⟨v7, ev7⟩ : ∃ q : Int32, x4 + 4 = q := ⟨_, rfl⟩
  have zv7 : v7.toInt = (x4.toInt + 4) := by rw [← ev7]; exact (xz_add (X := x4.toInt) (Y := 4) rfl (by decide) (by omega) (by omega)).trans (by omega)
  refine xi_iadd (pc' := 614) (v := v7) kc_195_613 rfl ev7 ?_
  obtain ⟨a8, ea8⟩ : ∃ q : Int32, xs.getD (Int32.toNatClampNeg v7) 0 = q := ⟨_, rfl⟩
  have ra8 := xc_rng a8
  refine xi_ialoadO (pc' := 615) (v := a8) kc_195_614 rfl (by decide) hov0 (xi_in (by omega) (by omega)) ea8 ?_
  obtain ⟨u9, u10, bu9, bu10, A11⟩ := xq_0 K.1
  refine xi_virtual (mj := 113) (as := [.int a2, .int a4, .int a6, .int a8]) (st1 := []) (lv0 := [(0, .ref 0), (1, .int a2), (2, .int a4), (3, .int a6), (4, .int a8)]) kc_195_615 rfl rfl rfl rfl rfl A11 (Nat.le_of_ble_eq_true rfl) (hJ _ _ _ _ (by decide)) (xm_le ml_113 rfl) rfl ?_
  refine mt_113_0 hJ hov1 hov2 (d := 96) (x1 := a2) (x2 := a4) (x3 := a6) (x4 := a8) K.1 (fun r12 hh13 br12 K14 => ?_)
  have K15 := xk_tr K K14 rfl
  obtain ⟨u16, u17, bu16, bu17, A18⟩ := xq_0 K15.1
  have e19 : u10 = u17 := xk_eqi (q := 9) K14 rfl A11 A18 rfl rfl
  subst e19
  show xw J ov 100 195 (618, [(4, .int x4), (3, .ref 167), (2, .ref 115), (1, .ref 0), (0, .ref 1000000)], [.int r12], hh13) _
  refine xi_pop (pc' := 619) kc_195_618 rfl rfl ?_
  refine xi_aload_n (pc' := 620) (x := 115) kc_195_619 rfl rfl ?_
  refine xi_aload_n (pc' := 621) (x := 1000000) kc_195_620 rfl rfl ?_
  refine xi_iload (pc' := 623) (x := x4) kc_195_621 rfl rfl ?_
  refine xi_iconst (pc' := 624) (v := 1) kc_195_623 rfl rfl ?_
  refine xi_iadd (pc' := 625) (v := v1) kc_195_624 rfl ev1 ?_
  refine xi_ialoadO (pc' := 626) (v := a2) kc_195_625 rfl (by decide) hov0 (xi_in (by omega) (by omega)) ea2 ?_
  refine xi_aload_n (pc' := 627) (x := 1000000) kc_195_626 rfl rfl ?_
  refine xi_iload (pc' := 629) (x := x4) kc_195_627 rfl rfl ?_
  refine xi_iconst (pc' := 630) (v := 2) kc_195_629 rfl rfl ?_
  refine xi_iadd (pc' := 631) (v := v3) kc_195_630 rfl ev3 ?_
  refine xi_ialoadO (pc' := 632) (v := a4) kc_195_631 rfl (by decide) hov0 (xi_in (by omega) (by omega)) ea4 ?_
  refine xi_aload_n (pc' := 633) (x := 1000000) kc_195_632 rfl rfl ?_
  refine xi_iload (pc' := 635) (x := x4) kc_195_633 rfl rfl ?_
  refine xi_iconst (pc' := 636) (v := 3) kc_195_635 rfl rfl ?_
  refine xi_iadd (pc' := 637) (v := v5) kc_195_636 rfl ev5 ?_
  refine xi_ialoadO (pc' := 638) (v := a6) kc_195_637 rfl (by decide) hov0 (xi_in (by omega) (by omega)) ea6 ?_
  refine xi_aload_n (pc' := 639) (x := 1000000) kc_195_638 rfl rfl ?_
  refine xi_iload (pc' := 641) (x := x4) kc_195_639 rfl rfl ?_
  refine xi_iconst (pc' := 642) (v := 4) kc_195_641 rfl rfl ?_
  refine xi_iadd (pc' := 643) (v := v7) kc_195_642 rfl ev7 ?_
  refine xi_ialoadO (pc' := 644) (v := a8) kc_195_643 rfl (by decide) hov0 (xi_in (by omega) (by omega)) ea8 ?_
  obtain ⟨u20, u21, u22, u23, u24, u25, u26, u27, u28, u29, u30, u31, u32, bu20, bu21, bu22, bu23, bu24, bu25, bu26, bu27, bu28, bu29, bu30, bu31, bu32, A33⟩ := xq_115 K15.1
  refine xi_virtual (mj := 30) (as := [.int a2, .int a4, .int a6, .int a8]) (st1 := []) (lv0 := [(0, .ref 115), (1, .int a2), (2, .int a4), (3, .int a6), (4, .int a8)]) kc_195_644 rfl rfl rfl rfl rfl A33 (Nat.le_of_ble_eq_true rfl) (hJ _ _ _ _ (by decide)) (xm_le ml_30 rfl) rfl ?_
  refine mt_30_0 hJ hov1 hov2 (d := 96) (x1 := a2) (x2 := a4) (x3 := a6) (x4 := a8) K15.1 (fun r34 hh35 br34 K36 => ?_)
  have K37 := xk_tr K15 K36 rfl
  obtain ⟨u38, u39, bu38, bu39, A40⟩ := xq_0 K37.1
  have e41 : u10 = u39 := xk_eqi (q := 9) K36 rfl A18 A40 rfl rfl
  subst e41
  obtain ⟨u42, u43, u44, u45, u46, u47, u48, u49, u50, u51, u52, u53, u54, bu42, bu43, bu44, bu45, bu46, bu47, bu48, bu49, bu50, bu51, bu52, bu53, bu54, A55⟩ := xq_115 K37.1
  have e56 : u21 = u43 := xk_eqi (q := 1) K36 rfl A33 A55 rfl rfl
  subst e56
  show xw J ov 100 195 (647, [(4, .int x4), (3, .ref 167), (2, .ref 115), (1, .ref 0), (0, .ref 1000000)], [.int r34], hh35) _
  refine xi_pop (pc' := 648) kc_195_647 rfl rfl ?_
  refine xi_goto (pc' := 1501) kc_195_648 rfl ?_
  obtain ⟨v57, ev57⟩ : ∃ q : Int32, x4 + 6 = q := ⟨_, rfl⟩
  have zv57 : v57.toInt = (x4.toInt + 6) := by rw [← ev57]; exact (xz_add (X := x4.toInt) (Y := 6) rfl (by decide) (by omega) (by omega)).trans (by omega)
  refine xi_iinc (pc' := 1504) (x := x4) (v := v57) (lv' := [(4, .int v57), (3, .ref 167), (2, .ref 115), (1, .ref 0), (0, .ref 1000000)]) kc_195_1501 rfl rfl ev57 rfl (xm_lt ml_195 rfl) ?_
  refine xi_goto (pc' := 23) kc_195_1504 rfl ?_
  exact kk v57 hh35 (by omega) K37
set_option maxHeartbeats 8000000 in
theorem lc_11 {J : xe_J} {ov : List (List Int32)} (hJ : ∀ d mj as h, mj ≠ xe_loff → J d mj as h = none) (hov1 : ov[1]? = some [10, 0, 0, 0, 0, 0]) (hov2 : ov[2]? = some [99, 30, 50, 50, 1, 99999]) {xs : List Int32} (hov0 : ov[0]? = some xs) {Q : Option Value → xe_H → Prop} {h : xe_H} {x4 : Int32} (hi0 : 0 ≤ x4.toInt) (hi1 : x4.toInt + 6 ≤ xs.length) (hi2 : x4.toInt ≤ 3066) (T : xt h) (kk : ∀ (i : Int32) (h' : xe_H), i.toInt = x4.toInt + 6 → xk [(13, 0), (122, 0), (16, 0), (19, 0), (22, 0), (25, 0), (28, 0)] h h' → xw J ov 100 195 (23, [(4, .int i), (3, .ref 167), (2, .ref 115), (1, .ref 0), (0, .ref 1000000)], [], h') Q) : xw J ov 100 195 (651, [(4, .int x4), (3, .ref 167), (2, .ref 115), (1, .ref 0), (0, .ref 1000000)], [], h) Q := by
  have K : xk [(13, 0), (122, 0), (16, 0), (19, 0), (22, 0), (25, 0), (28, 0)] h h := xk_re T
  refine xi_aload_n (pc' := 652) (x := 0) kc_195_651 rfl rfl ?_
  refine xi_aload_n (pc' := 653) (x := 1000000) kc_195_652 rfl rfl ?_
  refine xi_iload (pc' := 655) (x := x4) kc_195_653 rfl rfl ?_
  refine xi_iconst (pc' := 656) (v := 1) kc_195_655 rfl rfl ?_
  obtain ⟨v1, ev1⟩ : ∃ q : Int32, x4 + 1 = q := ⟨_, rfl⟩
  have zv1 : v1.toInt = (x4.toInt + 1) := by rw [← ev1]; exact (xz_add (X := x4.toInt) (Y := 1) rfl (by decide) (by omega) (by omega)).trans (by omega)
  refine xi_iadd (pc' := 657) (v := v1) kc_195_656 rfl ev1 ?_
  obtain ⟨a2, ea2⟩ : ∃ q : Int32, xs.getD (Int32.toNatClampNeg v1) 0 = q := ⟨_, rfl⟩
  have ra2 := xc_rng a2
  refine xi_ialoadO (pc' := 658) (v := a2) kc_195_657 rfl (by decide) hov0 (xi_in (by omega) (by omega)) ea2 ?_
  refine xi_aload_n (pc' := 659) (x := 1000000) kc_195_658 rfl rfl ?_
  refine xi_iload (pc' := 661) (x := x4) kc_195_659 rfl rfl ?_
  refine xi_iconst (pc' := 662) (v := 2) kc_195_661 rfl rfl ?_
  obtain ⟨v3, ev3⟩ : ∃ q : Int32, x4 + 2 = q := ⟨_, rfl⟩
  have zv3 : v3.toInt = (x4.toInt + 2) := by rw [← ev3]; exact (xz_add (X := x4.toInt) (Y := 2) rfl (by decide) (by omega) (by omega)).trans (by omega)
  refine xi_iadd (pc' := 663) (v := v3) kc_195_662 rfl ev3 ?_
  obtain ⟨a4, ea4⟩ : ∃ q : Int32, xs.getD (Int32.toNatClampNeg v3) 0 = q := ⟨_, rfl⟩
  have ra4 := xc_rng a4
  refine xi_ialoadO (pc' := 664) (v := a4) kc_195_663 rfl (by decide) hov0 (xi_in (by omega) (by omega)) ea4 ?_
  refine xi_aload_n (pc' := 665) (x := 1000000) kc_195_664 rfl rfl ?_
  refine xi_iload (pc' := 667) (x := x4) kc_195_665 rfl rfl ?_
  refine xi_iconst (pc' := 668) (v := 3) kc_195_667 rfl rfl ?_
  obtain ⟨v5, ev5⟩ : ∃ q : Int32, x4 + 3 = q := ⟨_, rfl⟩
  have zv5 : v5.toInt = (x4.toInt + 3) := by rw [← ev5]; exact (xz_add (X := x4.toInt) (Y := 3) rfl (by decide) (by omega) (by omega)).trans (by omega)
  refine xi_iadd (pc' := 669) (v := v5) kc_195_668 rfl ev5 ?_
  obtain ⟨a6, ea6⟩ : ∃ q : Int32, xs.getD (Int32.toNatClampNeg v5) 0 = q := ⟨_, rfl⟩
  have ra6 := xc_rng a6
  refine xi_ialoadO (pc' := 670) (v := a6) kc_195_669 rfl (by decide) hov0 (xi_in (by omega) (by omega)) ea6 ?_
  refine xi_aload_n (pc' := 671) (x := 1000000) kc_195_670 rfl rfl ?_
  refine xi_iload (pc' := 673) (x := x4) kc_195_671 rfl rfl ?_
  refine xi_iconst (pc' := 674) (v := 4) kc_195_673 rfl rfl ?_
  obtain ⟨v7, ev7⟩ : ∃ q : Int32, x4 + 4 = q := ⟨_, rfl⟩
  have zv7 : v7.toInt = (x4.toInt + 4) := by rw [← ev7]; exact (xz_add (X := x4.toInt) (Y := 4) rfl (by decide) (by omega) (by omega)).trans (by omega)
  refine xi_iadd (pc' := 675) (v := v7) kc_195_674 rfl ev7 ?_
  obtain ⟨a8, ea8⟩ : ∃ q : Int32, xs.getD (Int32.toNatClampNeg v7) 0 = q := ⟨_, rfl⟩
  have ra8 := xc_rng a8
  refine xi_ialoadO (pc' := 676) (v := a8) kc_195_675 rfl (by decide) hov0 (xi_in (by omega) (by omega)) ea8 ?_
  obtain ⟨u9, u10, bu9, bu10, A11⟩ := xq_0 K.1
  refine xi_virtual (mj := 116) (as := [.int a2, .int a4, .int a6, .int a8]) (st1 := []) (lv0 := [(0, .ref 0), (1, .int a2), (2, .int a4), (3, .int a6), (4, .int a8)]) kc_195_676 rfl rfl rfl rfl rfl A11 (Nat.le_of_ble_eq_true rfl) (hJ _ _ _ _ (by decide)) (xm_le ml_116 rfl) rfl ?_
  refine mt_116_0 hJ hov1 hov2 (d := 95) (x1 := a2) (x2 := a4) (x3 := a6) (x4 := a8) K.1 (fun r12 hh13 br12 K14 => ?_)
  have K15 := xk_tr K K14 rfl
  obtain ⟨u16, u17, bu16, bu17, A18⟩ := xq_0 K15.1
  have e19 : u10 = u17 := xk_eqi (q := 9) K14 rfl A11 A18 rfl rfl
  subst e19
  show xw J ov 100 195 (679, [(4, .int x4), (3, .ref 167), (2, .ref 115), (1, .ref 0), (0, .ref 1000000)], [.int r12], hh13) _
  refine xi_pop (pc' := 680) kc_195_679 rfl rfl ?_
  refine xi_aload_n (pc' := 681) (x := 115) kc_195_680 rfl rfl ?_
  refine xi_aload_n (pc' := 682) (x := 1000000) kc_195_681 rfl rfl ?_
  refine xi_iload (pc' := 684) (x := x4) kc_195_682 rfl rfl ?_
  refine xi_iconst (pc' := 685) (v := 1) kc_195_684 rfl rfl ?_
  refine xi_iadd (pc' := 686) (v := v1) kc_195_685 rfl ev1 ?_
  refine xi_ialoadO (pc' := 687) (v := a2) kc_195_686 rfl (by decide) hov0 (xi_in (by omega) (by omega)) ea2 ?_
  refine xi_aload_n (pc' := 688) (x := 1000000) kc_195_687 rfl rfl ?_
  refine xi_iload (pc' := 690) (x := x4) kc_195_688 rfl rfl ?_
  refine xi_iconst (pc' := 691) (v := 2) kc_195_690 rfl rfl ?_
  refine xi_iadd (pc' := 692) (v := v3) kc_195_691 rfl ev3 ?_
  refine xi_ialoadO (pc' := 693) (v := a4) kc_195_692 rfl (by decide) hov0 (xi_in (by omega) (by omega)) ea4 ?_
  refine xi_aload_n (pc' := 694) (x := 1000000) kc_195_693 rfl rfl ?_
  refine xi_iload (pc' := 696) (x := x4) kc_195_694 rfl rfl ?_
  refine xi_iconst (pc' := 697) (v := 3) kc_195_696 rfl rfl ?_
  refine xi_iadd (pc' := 698) (v := v5) kc_195_697 rfl ev5 ?_
  refine xi_ialoadO (pc' := 699) (v := a6) kc_195_698 rfl (by decide) hov0 (xi_in (by omega) (by omega)) ea6 ?_
  refine xi_aload_n (pc' := 700) (x := 1000000) kc_195_699 rfl rfl ?_
  refine xi_iload (pc' := 702) (x := x4) kc_195_700 rfl rfl ?_
  refine xi_iconst (pc' := 703) (v := 4) kc_195_702 rfl rfl ?_
  refine xi_iadd (pc' := 704) (v := v7) kc_195_703 rfl ev7 ?_
  refine xi_ialoadO (pc' := 705) (v := a8) kc_195_704 rfl (by decide) hov0 (xi_in (by omega) (by omega)) ea8 ?_
  obtain ⟨u20, u21, u22, u23, u24, u25, u26, u27, u28, u29, u30, u31, u32, bu20, bu21, bu22, bu23, bu24, bu25, bu26, bu27, bu28, bu29, bu30, bu31, bu32, A33⟩ := xq_115 K15.1
  refine xi_virtual (mj := 32) (as := [.int a2, .int a4, .int a6, .int a8]) (st1 := []) (lv0 := [(0, .ref 115), (1, .int a2), (2, .int a4), (3, .int a6), (4, .int a8)]) kc_195_705 rfl rfl rfl rfl rfl A33 (Nat.le_of_ble_eq_true rfl) (hJ _ _ _ _ (by decide)) (xm_le ml_32 rfl) rfl ?_
  refine mt_32_0 hJ hov1 hov2 (d := 96) (x1 := a2) (x2 := a4) (x3 := a6) (x4 := a8) K15.1 (fun r34 hh35 br34 K36 => ?_)
  have K37 := xk_tr K15 K36 rfl
  obtain ⟨u38, u39, bu38, bu39, A40⟩ := xq_0 K37.1
  have e41 : u10 = u39 := xk_eqi (q := 9) K36 rfl A18 A40 rfl rfl
  subst e41
  obtain ⟨u42, u43, u44, u45, u46, u47, u48, u49, u50, u51, u52, u53, u54, bu42, bu43, bu44, bu45, bu46, bu47, bu48, bu49, bu50, bu51, bu52, bu53, bu54, A55⟩ := xq_115 K37.1
  have e56 : u21 = u43 := xk_eqi (q := 1) K36 rfl A33 A55 rfl rfl
  subst e56
  show xw J ov 100 195 (708, [(4, .int x4), (3, .ref 167), (2, .ref 115), (1, .ref 0), (0, .ref 1000000)], [.int r34], hh35) _
  refine xi_pop (pc' := 709) kc_195_708 rfl rfl ?_
  refine xi_goto (pc' := 1501) kc_195_709 rfl ?_
  obtain ⟨v57, ev57⟩ : ∃ q : Int32, x4 + 6 = q := ⟨_, rfl⟩
  have zv57 : v57.toInt = (x4.toInt + 6) := by rw [← ev57]; exact (xz_add (X := x4.toInt) (Y := 6) rfl (by decide) (by omega) (by omega)).trans (by omega)
  refine xi_iinc (pc' := 1504) (x := x4) (v := v57) (lv' := [(4, .int v57), (3, .ref 167), (2, .ref 115), (1, .ref 0), (0, .ref 1000000)]) kc_195_1501 rfl rfl ev57 rfl (xm_lt ml_195 rfl) ?_
  refine xi_goto (pc' := 23) kc_195_1504 rfl ?_
  exact kk v57 hh35 (by omega) K37
set_option maxHeartbeats 8000000 in
theorem lc_12 {J : xe_J} {ov : List (List Int32)} (hJ : ∀ d mj as h, mj ≠ xe_loff → J d mj as h = none) (hov1 : ov[1]? = some [10, 0, 0, 0, 0, 0]) (hov2 : ov[2]? = some [99, 30, 50, 50, 1, 99999]) {xs : List Int32} (hov0 : ov[0]? = some xs) {Q : Option Value → xe_H → Prop} {h : xe_H} {x4 : Int32} (hi0 : 0 ≤ x4.toInt) (hi1 : x4.toInt + 6 ≤ xs.length) (hi2 : x4.toInt ≤ 3066) (T : xt h) (kk : ∀ (i : Int32) (h' : xe_H), i.toInt = x4.toInt + 6 → xk [(13, 0), (122, 0), (16, 0), (19, 0), (22, 0), (25, 0), (28, 0)] h h' → xw J ov 100 195 (23, [(4, .int i), (3, .ref 167), (2, .ref 115), (1, .ref 0), (0, .ref 1000000)], [], h') Q) : xw J ov 100 195 (712, [(4, .int x4), (3, .ref 167), (2, .ref 115), (1, .ref 0), (0, .ref 1000000)], [], h) Q := by
  have K : xk [(13, 0), (122, 0), (16, 0), (19, 0), (22, 0), (25, 0), (28, 0)] h h := xk_re T
  refine xi_aload_n (pc' := 713) (x := 0) kc_195_712 rfl rfl ?_
  refine xi_aload_n (pc' := 714) (x := 1000000) kc_195_713 rfl rfl ?_
  refine xi_iload (pc' := 716) (x := x4) kc_195_714 rfl rfl ?_
  refine xi_iconst (pc' := 717) (v := 1) kc_195_716 rfl rfl ?_
  obtain ⟨v1, ev1⟩ : ∃ q : Int32, x4 + 1 = q := ⟨_, rfl⟩
  have zv1 : v1.toInt = (x4.toInt + 1) := by rw [← ev1]; exact (xz_add (X := x4.toInt) (Y := 1) rfl (by decide) (by omega) (by omega)).trans (by omega)
  refine xi_iadd (pc' := 718) (v := v1) kc_195_717 rfl ev1 ?_
  obtain ⟨a2, ea2⟩ : ∃ q : Int32, xs.getD (Int32.toNatClampNeg v1) 0 = q := ⟨_, rfl⟩
  have ra2 := xc_rng a2
  refine xi_ialoadO (pc' := 719) (v := a2) kc_195_718 rfl (by decide) hov0 (xi_in (by omega) (by omega)) ea2 ?_
  refine xi_aload_n (pc' := 720) (x := 1000000) kc_195_719 rfl rfl ?_
  refine xi_iload (pc' := 722) (x := x4) kc_195_720 rfl rfl ?_
  refine xi_iconst (pc' := 723) (v := 2) kc_195_722 rfl rfl ?_
  obtain ⟨v3, ev3⟩ : ∃ q : Int32, x4 + 2 = q := ⟨_, rfl⟩
  have zv3 : v3.toInt = (x4.toInt + 2) := by rw [← ev3]; exact (xz_add (X := x4.toInt) (Y := 2) rfl (by decide) (by omega) (by omega)).trans (by omega)
  refine xi_iadd (pc' := 724) (v := v3) kc_195_723 rfl ev3 ?_
  obtain ⟨a4, ea4⟩ : ∃ q : Int32, xs.getD (Int32.toNatClampNeg v3) 0 = q := ⟨_, rfl⟩
  have ra4 := xc_rng a4
  refine xi_ialoadO (pc' := 725) (v := a4) kc_195_724 rfl (by decide) hov0 (xi_in (by omega) (by omega)) ea4 ?_
  by_cases c5 : a4.toInt = 0
  · refine xi_ift (pc' := 732) kc_195_725 rfl (xc_eq_t (X := a4.toInt) (Y := 0) rfl (by decide) (by omega)) ?_
    refine xi_iconst (pc' := 733) (v := 0) kc_195_732 rfl rfl ?_
    obtain ⟨u6, u7, bu6, bu7, A8⟩ := xq_0 K.1
    refine xi_virtual (mj := 120) (as := [.int a2, .int 0]) (st1 := []) (lv0 := [(0, .ref 0), (1, .int a2), (2, .int 0)]) kc_195_733 rfl rfl rfl rfl rfl A8 (Nat.le_of_ble_eq_true rfl) (hJ _ _ _ _ (by decide)) (xm_le ml_120 rfl) rfl ?_
    have zc0 : (0 : Int32).toInt = 0 := by decide
    refine mt_120_0 hJ hov1 hov2 (d := 98) (x1 := a2) (x2 := 0) K.1 (by first | omega | decide) (fun r9 hh10 br9 K11 => ?_)
    have K12 := xk_tr K K11 rfl
    obtain ⟨u13, u14, bu13, bu14, A15⟩ := xq_0 K12.1
    have e16 : u7 = u14 := xk_eqi (q := 9) K11 rfl A8 A15 rfl rfl
    subst e16
    show xw J ov 100 195 (736, [(4, .int x4), (3, .ref 167), (2, .ref 115), (1, .ref 0), (0, .ref 1000000)], [.int r9], hh10) _
    refine xi_pop (pc' := 737) kc_195_736 rfl rfl ?_
    refine xi_aload_n (pc' := 738) (x := 115) kc_195_737 rfl rfl ?_
    refine xi_aload_n (pc' := 739) (x := 1000000) kc_195_738 rfl rfl ?_
    refine xi_iload (pc' := 741) (x := x4) kc_195_739 rfl rfl ?_
    refine xi_iconst (pc' := 742) (v := 1) kc_195_741 rfl rfl ?_
    refine xi_iadd (pc' := 743) (v := v1) kc_195_742 rfl ev1 ?_
    refine xi_ialoadO (pc' := 744) (v := a2) kc_195_743 rfl (by decide) hov0 (xi_in (by omega) (by omega)) ea2 ?_
    refine xi_aload_n (pc' := 745) (x := 1000000) kc_195_744 rfl rfl ?_
    refine xi_iload (pc' := 747) (x := x4) kc_195_745 rfl rfl ?_
    refine xi_iconst (pc' := 748) (v := 2) kc_195_747 rfl rfl ?_
    refine xi_iadd (pc' := 749) (v := v3) kc_195_748 rfl ev3 ?_
    refine xi_ialoadO (pc' := 750) (v := a4) kc_195_749 rfl (by decide) hov0 (xi_in (by omega) (by omega)) ea4 ?_
    refine xi_ift (pc' := 757) kc_195_750 rfl (xc_eq_t (X := a4.toInt) (Y := 0) rfl (by decide) (by omega)) ?_
    refine xi_iconst (pc' := 758) (v := 0) kc_195_757 rfl rfl ?_
    obtain ⟨u17, u18, u19, u20, u21, u22, u23, u24, u25, u26, u27, u28, u29, bu17, bu18, bu19, bu20, bu21, bu22, bu23, bu24, bu25, bu26, bu27, bu28, bu29, A30⟩ := xq_115 K12.1
    refine xi_virtual (mj := 33) (as := [.int a2, .int 0]) (st1 := []) (lv0 := [(0, .ref 115), (1, .int a2), (2, .int 0)]) kc_195_758 rfl rfl rfl rfl rfl A30 (Nat.le_of_ble_eq_true rfl) (hJ _ _ _ _ (by decide)) (xm_le ml_33 rfl) rfl ?_
    have zc0 : (0 : Int32).toInt = 0 := by decide
    refine mt_33_0 hJ hov1 hov2 (d := 98) (x1 := a2) (x2 := 0) K12.1 (by first | omega | decide) (fun r31 hh32 br31 K33 => ?_)
    have K34 := xk_tr K12 K33 rfl
    obtain ⟨u35, u36, bu35, bu36, A37⟩ := xq_0 K34.1
    have e38 : u7 = u36 := xk_eqi (q := 9) K33 rfl A15 A37 rfl rfl
    subst e38
    obtain ⟨u39, u40, u41, u42, u43, u44, u45, u46, u47, u48, u49, u50, u51, bu39, bu40, bu41, bu42, bu43, bu44, bu45, bu46, bu47, bu48, bu49, bu50, bu51, A52⟩ := xq_115 K34.1
    have e53 : u18 = u40 := xk_eqi (q := 1) K33 rfl A30 A52 rfl rfl
    subst e53
    show xw J ov 100 195 (761, [(4, .int x4), (3, .ref 167), (2, .ref 115), (1, .ref 0), (0, .ref 1000000)], [.int r31], hh32) _
    refine xi_pop (pc' := 762) kc_195_761 rfl rfl ?_
    refine xi_goto (pc' := 1501) kc_195_762 rfl ?_
    obtain ⟨v54, ev54⟩ : ∃ q : Int32, x4 + 6 = q := ⟨_, rfl⟩
    have zv54 : v54.toInt = (x4.toInt + 6) := by rw [← ev54]; exact (xz_add (X := x4.toInt) (Y := 6) rfl (by decide) (by omega) (by omega)).trans (by omega)
    refine xi_iinc (pc' := 1504) (x := x4) (v := v54) (lv' := [(4, .int v54), (3, .ref 167), (2, .ref 115), (1, .ref 0), (0, .ref 1000000)]) kc_195_1501 rfl rfl ev54 rfl (xm_lt ml_195 rfl) ?_
    refine xi_goto (pc' := 23) kc_195_1504 rfl ?_
    exact kk v54 hh32 (by omega) K34
  · refine xi_iff (pc' := 728) kc_195_725 rfl (xc_eq_f (X := a4.toInt) (Y := 0) rfl (by decide) (by omega)) ?_
    refine xi_iconst (pc' := 729) (v := 1) kc_195_728 rfl rfl ?_
    refine xi_goto (pc' := 733) kc_195_729 rfl ?_
    obtain ⟨u55, u56, bu55, bu56, A57⟩ := xq_0 K.1
    refine xi_virtual (mj := 120) (as := [.int a2, .int 1]) (st1 := []) (lv0 := [(0, .ref 0), (1, .int a2), (2, .int 1)]) kc_195_733 rfl rfl rfl rfl rfl A57 (Nat.le_of_ble_eq_true rfl) (hJ _ _ _ _ (by decide)) (xm_le ml_120 rfl) rfl ?_
    have zc1 : (1 : Int32).toInt = 1 := by decide
    refine mt_120_0 hJ hov1 hov2 (d := 98) (x1 := a2) (x2 := 1) K.1 (by first | omega | decide) (fun r58 hh59 br58 K60 => ?_)
    have K61 := xk_tr K K60 rfl
    obtain ⟨u62, u63, bu62, bu63, A64⟩ := xq_0 K61.1
    have e65 : u56 = u63 := xk_eqi (q := 9) K60 rfl A57 A64 rfl rfl
    subst e65
    show xw J ov 100 195 (736, [(4, .int x4), (3, .ref 167), (2, .ref 115), (1, .ref 0), (0, .ref 1000000)], [.int r58], hh59) _
    refine xi_pop (pc' := 737) kc_195_736 rfl rfl ?_
    refine xi_aload_n (pc' := 738) (x := 115) kc_195_737 rfl rfl ?_
    refine xi_aload_n (pc' := 739) (x := 1000000) kc_195_738 rfl rfl ?_
    refine xi_iload (pc' := 741) (x := x4) kc_195_739 rfl rfl ?_
    refine xi_iconst (pc' := 742) (v := 1) kc_195_741 rfl rfl ?_
    refine xi_iadd (pc' := 743) (v := v1) kc_195_742 rfl ev1 ?_
    refine xi_ialoadO (pc' := 744) (v := a2) kc_195_743 rfl (by decide) hov0 (xi_in (by omega) (by omega)) ea2 ?_
    refine xi_aload_n (pc' := 745) (x := 1000000) kc_195_744 rfl rfl ?_
    refine xi_iload (pc' := 747) (x := x4) kc_195_745 rfl rfl ?_
    refine xi_iconst (pc' := 748) (v := 2) kc_195_747 rfl rfl ?_
    refine xi_iadd (pc' := 749) (v := v3) kc_195_748 rfl ev3 ?_
    refine xi_ialoadO (pc' := 750) (v := a4) kc_195_749 rfl (by decide) hov0 (xi_in (by omega) (by omega)) ea4 ?_
    refine xi_iff (pc' := 753) kc_195_750 rfl (xc_eq_f (X := a4.toInt) (Y := 0) rfl (by decide) (by omega)) ?_
    refine xi_iconst (pc' := 754) (v := 1) kc_195_753 rfl rfl ?_
    refine xi_goto (pc' := 758) kc_195_754 rfl ?_
    obtain ⟨u66, u67, u68, u69, u70, u71, u72, u73, u74, u75, u76, u77, u78, bu66, bu67, bu68, bu69, bu70, bu71, bu72, bu73, bu74, bu75, bu76, bu77, bu78, A79⟩ := xq_115 K61.1
    refine xi_virtual (mj := 33) (as := [.int a2, .int 1]) (st1 := []) (lv0 := [(0, .ref 115), (1, .int a2), (2, .int 1)]) kc_195_758 rfl rfl rfl rfl rfl A79 (Nat.le_of_ble_eq_true rfl) (hJ _ _ _ _ (by decide)) (xm_le ml_33 rfl) rfl ?_
    have zc1 : (1 : Int32).toInt = 1 := by decide
    refine mt_33_0 hJ hov1 hov2 (d := 98) (x1 := a2) (x2 := 1) K61.1 (by first | omega | decide) (fun r80 hh81 br80 K82 => ?_)
    have K83 := xk_tr K61 K82 rfl
    obtain ⟨u84, u85, bu84, bu85, A86⟩ := xq_0 K83.1
    have e87 : u56 = u85 := xk_eqi (q := 9) K82 rfl A64 A86 rfl rfl
    subst e87
    obtain ⟨u88, u89, u90, u91, u92, u93, u94, u95, u96, u97, u98, u99, u100, bu88, bu89, bu90, bu91, bu92, bu93, bu94, bu95, bu96, bu97, bu98, bu99, bu100, A101⟩ := xq_115 K83.1
    have e102 : u67 = u89 := xk_eqi (q := 1) K82 rfl A79 A101 rfl rfl
    subst e102
    show xw J ov 100 195 (761, [(4, .int x4), (3, .ref 167), (2, .ref 115), (1, .ref 0), (0, .ref 1000000)], [.int r80], hh81) _
    refine xi_pop (pc' := 762) kc_195_761 rfl rfl ?_
    refine xi_goto (pc' := 1501) kc_195_762 rfl ?_
    obtain ⟨v103, ev103⟩ : ∃ q : Int32, x4 + 6 = q := ⟨_, rfl⟩
    have zv103 : v103.toInt = (x4.toInt + 6) := by rw [← ev103]; exact (xz_add (X := x4.toInt) (Y := 6) rfl (by decide) (by omega) (by omega)).trans (by omega)
    refine xi_iinc (pc' := 1504) (x := x4) (v := v103) (lv' := [(4, .int v103), (3, .ref 167), (2, .ref 115), (1, .ref 0), (0, .ref 1000000)]) kc_195_1501 rfl rfl ev103 rfl (xm_lt ml_195 rfl) ?_
    refine xi_goto (pc' := 23) kc_195_1504 rfl ?_
    exact kk v103 hh81 (by omega) K83
set_option maxHeartbeats 8000000 in
theorem lc_13 {J : xe_J} {ov : List (List Int32)} (hJ : ∀ d mj as h, mj ≠ xe_loff → J d mj as h = none) (hov1 : ov[1]? = some [10, 0, 0, 0, 0, 0]) (hov2 : ov[2]? = some [99, 30, 50, 50, 1, 99999]) {xs : List Int32} (hov0 : ov[0]? = some xs) {Q : Option Value → xe_H → Prop} {h : xe_H} {x4 : Int32} (hi0 : 0 ≤ x4.toInt) (hi1 : x4.toInt + 6 ≤ xs.length) (hi2 : x4.toInt ≤ 3066) (T : xt h) (kk : ∀ (i : Int32) (h' : xe_H), i.toInt = x4.toInt + 6 → xk [(13, 0), (122, 0), (16, 0), (19, 0), (22, 0), (25, 0), (28, 0)] h h' → xw J ov 100 195 (23, [(4, .int i), (3, .ref 167), (2, .ref 115), (1, .ref 0), (0, .ref 1000000)], [], h') Q) : xw J ov 100 195 (765, [(4, .int x4), (3, .ref 167), (2, .ref 115), (1, .ref 0), (0, .ref 1000000)], [], h) Q := by
  have K : xk [(13, 0), (122, 0), (16, 0), (19, 0), (22, 0), (25, 0), (28, 0)] h h := xk_re T
  refine xi_aload_n (pc' := 766) (x := 0) kc_195_765 rfl rfl ?_
  refine xi_aload_n (pc' := 767) (x := 1000000) kc_195_766 rfl rfl ?_
  refine xi_iload (pc' := 769) (x := x4) kc_195_767 rfl rfl ?_
  refine xi_iconst (pc' := 770) (v := 1) kc_195_769 rfl rfl ?_
  obtain ⟨v1, ev1⟩ : ∃ q : Int32, x4 + 1 = q := ⟨_, rfl⟩
  have zv1 : v1.toInt = (x4.toInt + 1) := by rw [← ev1]; exact (xz_add (X := x4.toInt) (Y := 1) rfl (by decide) (by omega) (by omega)).trans (by omega)
  refine xi_iadd (pc' := 771) (v := v1) kc_195_770 rfl ev1 ?_
  obtain ⟨a2, ea2⟩ : ∃ q : Int32, xs.getD (Int32.toNatClampNeg v1) 0 = q := ⟨_, rfl⟩
  have ra2 := xc_rng a2
  refine xi_ialoadO (pc' := 772) (v := a2) kc_195_771 rfl (by decide) hov0 (xi_in (by omega) (by omega)) ea2 ?_
  obtain ⟨u3, u4, bu3, bu4, A5⟩ := xq_0 K.1
  refine xi_virtual (mj := 121) (as := [.int a2]) (st1 := []) (lv0 := [(0, .ref 0), (1, .int a2)]) kc_195_772 rfl rfl rfl rfl rfl A5 (Nat.le_of_ble_eq_true rfl) (hJ _ _ _ _ (by decide)) (xm_le ml_121 rfl) rfl ?_
  refine mt_121_0 hJ hov1 hov2 (d := 93) (x1 := a2) (u0 := u4) K.1 (by omega) (fun v e => by have e2 := xl_val (u := u4) A5 rfl e; subst e2; omega) (fun r6 hh7 br6 K8 => ?_)
  have K9 := xk_tr K K8 rfl
  show xw J ov 100 195 (775, [(4, .int x4), (3, .ref 167), (2, .ref 115), (1, .ref 0), (0, .ref 1000000)], [.int r6], hh7) _
  refine xi_pop (pc' := 776) kc_195_775 rfl rfl ?_
  refine xi_aload_n (pc' := 777) (x := 115) kc_195_776 rfl rfl ?_
  refine xi_aload_n (pc' := 778) (x := 1000000) kc_195_777 rfl rfl ?_
  refine xi_iload (pc' := 780) (x := x4) kc_195_778 rfl rfl ?_
  refine xi_iconst (pc' := 781) (v := 1) kc_195_780 rfl rfl ?_
  refine xi_iadd (pc' := 782) (v := v1) kc_195_781 rfl ev1 ?_
  refine xi_ialoadO (pc' := 783) (v := a2) kc_195_782 rfl (by decide) hov0 (xi_in (by omega) (by omega)) ea2 ?_
  obtain ⟨u10, u11, u12, u13, u14, u15, u16, u17, u18, u19, u20, u21, u22, bu10, bu11, bu12, bu13, bu14, bu15, bu16, bu17, bu18, bu19, bu20, bu21, bu22, A23⟩ := xq_115 K9.1
  refine xi_virtual (mj := 34) (as := [.int a2]) (st1 := []) (lv0 := [(0, .ref 115), (1, .int a2)]) kc_195_783 rfl rfl rfl rfl rfl A23 (Nat.le_of_ble_eq_true rfl) (hJ _ _ _ _ (by decide)) (xm_le ml_34 rfl) rfl ?_
  refine mt_34_0 hJ hov1 hov2 (d := 93) (x1 := a2) (u0 := u11) K9.1 (by omega) (fun v e => by have e2 := xl_val (u := u11) A23 rfl e; subst e2; omega) (fun r24 hh25 br24 K26 => ?_)
  have K27 := xk_tr K9 K26 rfl
  show xw J ov 100 195 (786, [(4, .int x4), (3, .ref 167), (2, .ref 115), (1, .ref 0), (0, .ref 1000000)], [.int r24], hh25) _
  refine xi_pop (pc' := 787) kc_195_786 rfl rfl ?_
  refine xi_goto (pc' := 1501) kc_195_787 rfl ?_
  obtain ⟨v28, ev28⟩ : ∃ q : Int32, x4 + 6 = q := ⟨_, rfl⟩
  have zv28 : v28.toInt = (x4.toInt + 6) := by rw [← ev28]; exact (xz_add (X := x4.toInt) (Y := 6) rfl (by decide) (by omega) (by omega)).trans (by omega)
  refine xi_iinc (pc' := 1504) (x := x4) (v := v28) (lv' := [(4, .int v28), (3, .ref 167), (2, .ref 115), (1, .ref 0), (0, .ref 1000000)]) kc_195_1501 rfl rfl ev28 rfl (xm_lt ml_195 rfl) ?_
  refine xi_goto (pc' := 23) kc_195_1504 rfl ?_
  exact kk v28 hh25 (by omega) K27
set_option maxHeartbeats 8000000 in
theorem lc_14 {J : xe_J} {ov : List (List Int32)} (hJ : ∀ d mj as h, mj ≠ xe_loff → J d mj as h = none) (hov1 : ov[1]? = some [10, 0, 0, 0, 0, 0]) (hov2 : ov[2]? = some [99, 30, 50, 50, 1, 99999]) {xs : List Int32} (hov0 : ov[0]? = some xs) (hoff : ∀ (v : Int32) (h : xe_H), xt h → h.length < xe_o → ∃ (r : Int32) (h' : xe_H), J 99 194 [.ref 0, .int v, .ref 167] h = some (some (.int r), h') ∧ xt h' ∧ (∀ l : Nat × Nat, List.elem l [(13, 0), (122, 0), (16, 0), (19, 0), (22, 0), (25, 0), (28, 0)] = true → xl h' l = xl h l) ∧ h'.length ≤ h.length + 1 ∧ xe_sz h' ≤ xe_sz h + 6) {Q : Option Value → xe_H → Prop} {h : xe_H} {x4 : Int32} (hi0 : 0 ≤ x4.toInt) (hi1 : x4.toInt + 6 ≤ xs.length) (hi2 : x4.toInt ≤ 3066) (T : xt h) (hn : h.length < xe_o) (kk : ∀ (i : Int32) (h' : xe_H), i.toInt = x4.toInt + 6 → xt h' → (∀ l : Nat × Nat, List.elem l [(13, 0), (122, 0), (16, 0), (19, 0), (22, 0), (25, 0), (28, 0)] = true → xl h' l = xl h l) → h'.length ≤ h.length + 1 → xe_sz h' ≤ xe_sz h + 6 → xw J ov 100 195 (23, [(4, .int i), (3, .ref 167), (2, .ref 115), (1, .ref 0), (0, .ref 1000000)], [], h') Q) : xw J ov 100 195 (790, [(4, .int x4), (3, .ref 167), (2, .ref 115), (1, .ref 0), (0, .ref 1000000)], [], h) Q := by
  have K : xk [(13, 0), (122, 0), (16, 0), (19, 0), (22, 0), (25, 0), (28, 0)] h h := xk_re T
  refine xi_aload_n (pc' := 791) (x := 0) kc_195_790 rfl rfl ?_
  refine xi_aload_n (pc' := 792) (x := 1000000) kc_195_791 rfl rfl ?_
  refine xi_iload (pc' := 794) (x := x4) kc_195_792 rfl rfl ?_
  refine xi_iconst (pc' := 795) (v := 1) kc_195_794 rfl rfl ?_
  obtain ⟨v1, ev1⟩ : ∃ q : Int32, x4 + 1 = q := ⟨_, rfl⟩
  have zv1 : v1.toInt = (x4.toInt + 1) := by rw [← ev1]; exact (xz_add (X := x4.toInt) (Y := 1) rfl (by decide) (by omega) (by omega)).trans (by omega)
  refine xi_iadd (pc' := 796) (v := v1) kc_195_795 rfl ev1 ?_
  obtain ⟨a2, ea2⟩ : ∃ q : Int32, xs.getD (Int32.toNatClampNeg v1) 0 = q := ⟨_, rfl⟩
  have ra2 := xc_rng a2
  refine xi_ialoadO (pc' := 797) (v := a2) kc_195_796 rfl (by decide) hov0 (xi_in (by omega) (by omega)) ea2 ?_
  refine xi_aload_n (pc' := 798) (x := 167) kc_195_797 rfl rfl ?_
  obtain ⟨r9, h9, j9, T9, f9, l9, z9⟩ := hoff a2 h T hn
  refine xi_staticJ (mj := 194) (as := [.ref 0, .int a2, .ref 167]) (st1 := []) (r := some (.int r9)) (h' := h9) kc_195_798 rfl rfl (Nat.le_of_ble_eq_true rfl) rfl rfl (Nat.le_of_ble_eq_true rfl) j9 ?_
  have K9 : xk [(13, 0), (122, 0), (16, 0), (19, 0), (22, 0), (25, 0), (28, 0)] h9 h9 := xk_re T9
  have rr9 := xc_rng r9
  show xw J ov 100 195 (801, [(4, .int x4), (3, .ref 167), (2, .ref 115), (1, .ref 0), (0, .ref 1000000)], [.int r9], h9) _
  refine xi_istore (pc' := 803) (lv' := [(5, .int r9), (4, .int x4), (3, .ref 167), (2, .ref 115), (1, .ref 0), (0, .ref 1000000)]) kc_195_801 rfl rfl (xm_lt ml_195 rfl) ?_
  refine xi_aload_n (pc' := 804) (x := 115) kc_195_803 rfl rfl ?_
  refine xi_aload_n (pc' := 805) (x := 1000000) kc_195_804 rfl rfl ?_
  refine xi_iload (pc' := 807) (x := x4) kc_195_805 rfl rfl ?_
  refine xi_iconst (pc' := 808) (v := 1) kc_195_807 rfl rfl ?_
  refine xi_iadd (pc' := 809) (v := v1) kc_195_808 rfl ev1 ?_
  refine xi_ialoadO (pc' := 810) (v := a2) kc_195_809 rfl (by decide) hov0 (xi_in (by omega) (by omega)) ea2 ?_
  obtain ⟨u101, u102, u103, u104, u105, u106, u107, u108, u109, u110, u111, u112, u113, bu101, bu102, bu103, bu104, bu105, bu106, bu107, bu108, bu109, bu110, bu111, bu112, bu113, A114⟩ := xq_115 K9.1
  refine xi_virtual (mj := 41) (as := [.int a2]) (st1 := []) (lv0 := [(0, .ref 115), (1, .int a2)]) kc_195_810 rfl rfl rfl rfl rfl A114 (Nat.le_of_ble_eq_true rfl) (hJ _ _ _ _ (by decide)) (xm_le ml_41 rfl) rfl ?_
  refine mt_41_0 hJ hov1 hov2 (d := 92) (x1 := a2) K9.1 (fun r115 hh116 K117 => ?_)
  have K118 := xk_tr K9 K117 rfl
  obtain ⟨u119, u120, u121, u122, u123, u124, u125, u126, u127, u128, u129, u130, u131, bu119, bu120, bu121, bu122, bu123, bu124, bu125, bu126, bu127, bu128, bu129, bu130, bu131, A132⟩ := xq_115 K118.1
  have e133 : u102 = u120 := xk_eqi (q := 1) K117 rfl A114 A132 rfl rfl
  subst e133
  show xw J ov 100 195 (813, [(5, .int r9), (4, .int x4), (3, .ref 167), (2, .ref 115), (1, .ref 0), (0, .ref 1000000)], [.long r115], hh116) _
  refine xi_lstore (pc' := 815) (lv' := [(6, .long r115), (5, .int r9), (4, .int x4), (3, .ref 167), (2, .ref 115), (1, .ref 0), (0, .ref 1000000)]) kc_195_813 rfl rfl (xm_lt ml_195 rfl) ?_
  refine xi_goto (pc' := 1501) kc_195_815 rfl ?_
  obtain ⟨v134, ev134⟩ : ∃ q : Int32, x4 + 6 = q := ⟨_, rfl⟩
  have zv134 : v134.toInt = (x4.toInt + 6) := by rw [← ev134]; exact (xz_add (X := x4.toInt) (Y := 6) rfl (by decide) (by omega) (by omega)).trans (by omega)
  refine xi_iinc (pc' := 1504) (x := x4) (v := v134) (lv' := [(4, .int v134), (6, .long r115), (5, .int r9), (3, .ref 167), (2, .ref 115), (1, .ref 0), (0, .ref 1000000)]) kc_195_1501 rfl rfl ev134 rfl (xm_lt ml_195 rfl) ?_
  refine xi_goto (pc' := 23) kc_195_1504 rfl ?_
  refine xw_lv (b := [(4, .int v134), (3, .ref 167), (2, .ref 115), (1, .ref 0), (0, .ref 1000000)]) (lvS_cons (lvS_cons (lvS_cons (lvS_cons (lvS_cons (lvS_nil (show ([4, 6, 5, 3, 2, 1, 0] : List Nat).Nodup by decide)) rfl) rfl) rfl) rfl) rfl) ?_
  exact kk v134 hh116 (by omega) K118.1 (fun l hl => (K118.2.1 l hl).trans (f9 l hl)) (by rw [K118.2.2.1]; exact l9) (by rw [K118.2.2.2]; exact z9)
set_option maxHeartbeats 8000000 in
theorem lc_15 {J : xe_J} {ov : List (List Int32)} (hJ : ∀ d mj as h, mj ≠ xe_loff → J d mj as h = none) (hov1 : ov[1]? = some [10, 0, 0, 0, 0, 0]) (hov2 : ov[2]? = some [99, 30, 50, 50, 1, 99999]) {xs : List Int32} (hov0 : ov[0]? = some xs) {Q : Option Value → xe_H → Prop} {h : xe_H} {x4 : Int32} (hi0 : 0 ≤ x4.toInt) (hi1 : x4.toInt + 6 ≤ xs.length) (hi2 : x4.toInt ≤ 3066) (T : xt h) (kk : ∀ (i : Int32) (h' : xe_H), i.toInt = x4.toInt + 6 → xk [(13, 0), (122, 0), (16, 0), (19, 0), (22, 0), (25, 0), (28, 0)] h h' → xw J ov 100 195 (23, [(4, .int i), (3, .ref 167), (2, .ref 115), (1, .ref 0), (0, .ref 1000000)], [], h') Q) : xw J ov 100 195 (818, [(4, .int x4), (3, .ref 167), (2, .ref 115), (1, .ref 0), (0, .ref 1000000)], [], h) Q := by
  have K : xk [(13, 0), (122, 0), (16, 0), (19, 0), (22, 0), (25, 0), (28, 0)] h h := xk_re T
  refine xi_aload_n (pc' := 819) (x := 0) kc_195_818 rfl rfl ?_
  refine xi_aload_n (pc' := 820) (x := 1000000) kc_195_819 rfl rfl ?_
  refine xi_iload (pc' := 822) (x := x4) kc_195_820 rfl rfl ?_
  refine xi_iconst (pc' := 823) (v := 1) kc_195_822 rfl rfl ?_
  obtain ⟨v1, ev1⟩ : ∃ q : Int32, x4 + 1 = q := ⟨_, rfl⟩
  have zv1 : v1.toInt = (x4.toInt + 1) := by rw [← ev1]; exact (xz_add (X := x4.toInt) (Y := 1) rfl (by decide) (by omega) (by omega)).trans (by omega)
  refine xi_iadd (pc' := 824) (v := v1) kc_195_823 rfl ev1 ?_
  obtain ⟨a2, ea2⟩ : ∃ q : Int32, xs.getD (Int32.toNatClampNeg v1) 0 = q := ⟨_, rfl⟩
  have ra2 := xc_rng a2
  refine xi_ialoadO (pc' := 825) (v := a2) kc_195_824 rfl (by decide) hov0 (xi_in (by omega) (by omega)) ea2 ?_
  refine xi_aload_n (pc' := 826) (x := 1000000) kc_195_825 rfl rfl ?_
  refine xi_iload (pc' := 828) (x := x4) kc_195_826 rfl rfl ?_
  refine xi_iconst (pc' := 829) (v := 2) kc_195_828 rfl rfl ?_
  obtain ⟨v3, ev3⟩ : ∃ q : Int32, x4 + 2 = q := ⟨_, rfl⟩
  have zv3 : v3.toInt = (x4.toInt + 2) := by rw [← ev3]; exact (xz_add (X := x4.toInt) (Y := 2) rfl (by decide) (by omega) (by omega)).trans (by omega)
  refine xi_iadd (pc' := 830) (v := v3) kc_195_829 rfl ev3 ?_
  obtain ⟨a4, ea4⟩ : ∃ q : Int32, xs.getD (Int32.toNatClampNeg v3) 0 = q := ⟨_, rfl⟩
  have ra4 := xc_rng a4
  refine xi_ialoadO (pc' := 831) (v := a4) kc_195_830 rfl (by decide) hov0 (xi_in (by omega) (by omega)) ea4 ?_
  obtain ⟨u5, u6, bu5, bu6, A7⟩ := xq_0 K.1
  refine xi_virtual (mj := 137) (as := [.int a2, .int a4]) (st1 := []) (lv0 := [(0, .ref 0), (1, .int a2), (2, .int a4)]) kc_195_831 rfl rfl rfl rfl rfl A7 (Nat.le_of_ble_eq_true rfl) (hJ _ _ _ _ (by decide)) (xm_le ml_137 rfl) rfl ?_
  refine mt_137_0 hJ hov1 hov2 (d := 93) (x1 := a2) (x2 := a4) K.1 (fun r8 hh9 K10 => ?_)
  have br8 := xc_rng r8
  have K11 := xk_tr K K10 rfl
  obtain ⟨u12, u13, bu12, bu13, A14⟩ := xq_0 K11.1
  have e15 : u6 = u13 := xk_eqi (q := 9) K10 rfl A7 A14 rfl rfl
  subst e15
  show xw J ov 100 195 (834, [(4, .int x4), (3, .ref 167), (2, .ref 115), (1, .ref 0), (0, .ref 1000000)], [.int r8], hh9) _
  refine xi_pop (pc' := 835) kc_195_834 rfl rfl ?_
  refine xi_aload_n (pc' := 836) (x := 115) kc_195_835 rfl rfl ?_
  refine xi_aload_n (pc' := 837) (x := 1000000) kc_195_836 rfl rfl ?_
  refine xi_iload (pc' := 839) (x := x4) kc_195_837 rfl rfl ?_
  refine xi_iconst (pc' := 840) (v := 1) kc_195_839 rfl rfl ?_
  refine xi_iadd (pc' := 841) (v := v1) kc_195_840 rfl ev1 ?_
  refine xi_ialoadO (pc' := 842) (v := a2) kc_195_841 rfl (by decide) hov0 (xi_in (by omega) (by omega)) ea2 ?_
  refine xi_aload_n (pc' := 843) (x := 1000000) kc_195_842 rfl rfl ?_
  refine xi_iload (pc' := 845) (x := x4) kc_195_843 rfl rfl ?_
  refine xi_iconst (pc' := 846) (v := 2) kc_195_845 rfl rfl ?_
  refine xi_iadd (pc' := 847) (v := v3) kc_195_846 rfl ev3 ?_
  refine xi_ialoadO (pc' := 848) (v := a4) kc_195_847 rfl (by decide) hov0 (xi_in (by omega) (by omega)) ea4 ?_
  obtain ⟨u16, u17, u18, u19, u20, u21, u22, u23, u24, u25, u26, u27, u28, bu16, bu17, bu18, bu19, bu20, bu21, bu22, bu23, bu24, bu25, bu26, bu27, bu28, A29⟩ := xq_115 K11.1
  refine xi_virtual (mj := 46) (as := [.int a2, .int a4]) (st1 := []) (lv0 := [(0, .ref 115), (1, .int a2), (2, .int a4)]) kc_195_848 rfl rfl rfl rfl rfl A29 (Nat.le_of_ble_eq_true rfl) (hJ _ _ _ _ (by decide)) (xm_le ml_46 rfl) rfl ?_
  refine mt_46_0 hJ hov1 hov2 (d := 93) (x1 := a2) (x2 := a4) K11.1 (fun r30 hh31 K32 => ?_)
  have br30 := xc_rng r30
  have K33 := xk_tr K11 K32 rfl
  obtain ⟨u34, u35, bu34, bu35, A36⟩ := xq_0 K33.1
  have e37 : u6 = u35 := xk_eqi (q := 9) K32 rfl A14 A36 rfl rfl
  subst e37
  obtain ⟨u38, u39, u40, u41, u42, u43, u44, u45, u46, u47, u48, u49, u50, bu38, bu39, bu40, bu41, bu42, bu43, bu44, bu45, bu46, bu47, bu48, bu49, bu50, A51⟩ := xq_115 K33.1
  have e52 : u17 = u39 := xk_eqi (q := 1) K32 rfl A29 A51 rfl rfl
  subst e52
  show xw J ov 100 195 (851, [(4, .int x4), (3, .ref 167), (2, .ref 115), (1, .ref 0), (0, .ref 1000000)], [.int r30], hh31) _
  refine xi_pop (pc' := 852) kc_195_851 rfl rfl ?_
  refine xi_goto (pc' := 1501) kc_195_852 rfl ?_
  obtain ⟨v53, ev53⟩ : ∃ q : Int32, x4 + 6 = q := ⟨_, rfl⟩
  have zv53 : v53.toInt = (x4.toInt + 6) := by rw [← ev53]; exact (xz_add (X := x4.toInt) (Y := 6) rfl (by decide) (by omega) (by omega)).trans (by omega)
  refine xi_iinc (pc' := 1504) (x := x4) (v := v53) (lv' := [(4, .int v53), (3, .ref 167), (2, .ref 115), (1, .ref 0), (0, .ref 1000000)]) kc_195_1501 rfl rfl ev53 rfl (xm_lt ml_195 rfl) ?_
  refine xi_goto (pc' := 23) kc_195_1504 rfl ?_
  exact kk v53 hh31 (by omega) K33
set_option maxHeartbeats 8000000 in
theorem lc_16 {J : xe_J} {ov : List (List Int32)} (hJ : ∀ d mj as h, mj ≠ xe_loff → J d mj as h = none) (hov1 : ov[1]? = some [10, 0, 0, 0, 0, 0]) (hov2 : ov[2]? = some [99, 30, 50, 50, 1, 99999]) {xs : List Int32} (hov0 : ov[0]? = some xs) {Q : Option Value → xe_H → Prop} {h : xe_H} {x4 : Int32} (hi0 : 0 ≤ x4.toInt) (hi1 : x4.toInt + 6 ≤ xs.length) (hi2 : x4.toInt ≤ 3066) (T : xt h) (kk : ∀ (i : Int32) (h' : xe_H), i.toInt = x4.toInt + 6 → xk [(13, 0), (122, 0), (16, 0), (19, 0), (22, 0), (25, 0), (28, 0)] h h' → xw J ov 100 195 (23, [(4, .int i), (3, .ref 167), (2, .ref 115), (1, .ref 0), (0, .ref 1000000)], [], h') Q) : xw J ov 100 195 (855, [(4, .int x4), (3, .ref 167), (2, .ref 115), (1, .ref 0), (0, .ref 1000000)], [], h) Q := by
  have K : xk [(13, 0), (122, 0), (16, 0), (19, 0), (22, 0), (25, 0), (28, 0)] h h := xk_re T
  refine xi_aload_n (pc' := 856) (x := 0) kc_195_855 rfl rfl ?_
  obtain ⟨u1, u2, bu1, bu2, A3⟩ := xq_0 K.1
  refine xi_virtual (mj := 144) (as := []) (st1 := []) (lv0 := [(0, .ref 0)]) kc_195_856 rfl rfl rfl rfl rfl A3 (Nat.le_of_ble_eq_true rfl) (hJ _ _ _ _ (by decide)) (xm_le ml_144 rfl) rfl ?_
  refine mt_144_0 hJ hov1 hov2 (d := 92)  K.1 (fun r4 hh5 br4 K6 => ?_)
  have K7 := xk_tr K K6 rfl
  obtain ⟨u8, u9, bu8, bu9, A10⟩ := xq_0 K7.1
  have e11 : u2 = u9 := xk_eqi (q := 9) K6 rfl A3 A10 rfl rfl
  subst e11
  show xw J ov 100 195 (859, [(4, .int x4), (3, .ref 167), (2, .ref 115), (1, .ref 0), (0, .ref 1000000)], [.int r4], hh5) _
  refine xi_pop (pc' := 860) kc_195_859 rfl rfl ?_
  refine xi_aload_n (pc' := 861) (x := 115) kc_195_860 rfl rfl ?_
  obtain ⟨u12, u13, u14, u15, u16, u17, u18, u19, u20, u21, u22, u23, u24, bu12, bu13, bu14, bu15, bu16, bu17, bu18, bu19, bu20, bu21, bu22, bu23, bu24, A25⟩ := xq_115 K7.1
  refine xi_virtual (mj := 47) (as := []) (st1 := []) (lv0 := [(0, .ref 115)]) kc_195_861 rfl rfl rfl rfl rfl A25 (Nat.le_of_ble_eq_true rfl) (hJ _ _ _ _ (by decide)) (xm_le ml_47 rfl) rfl ?_
  refine mt_47_0 hJ hov1 hov2 (d := 91)  K7.1 (fun r26 hh27 br26 K28 => ?_)
  have K29 := xk_tr K7 K28 rfl
  obtain ⟨u30, u31, bu30, bu31, A32⟩ := xq_0 K29.1
  have e33 : u2 = u31 := xk_eqi (q := 9) K28 rfl A10 A32 rfl rfl
  subst e33
  obtain ⟨u34, u35, u36, u37, u38, u39, u40, u41, u42, u43, u44, u45, u46, bu34, bu35, bu36, bu37, bu38, bu39, bu40, bu41, bu42, bu43, bu44, bu45, bu46, A47⟩ := xq_115 K29.1
  have e48 : u13 = u35 := xk_eqi (q := 1) K28 rfl A25 A47 rfl rfl
  subst e48
  show xw J ov 100 195 (864, [(4, .int x4), (3, .ref 167), (2, .ref 115), (1, .ref 0), (0, .ref 1000000)], [.int r26], hh27) _
  refine xi_pop (pc' := 865) kc_195_864 rfl rfl ?_
  refine xi_goto (pc' := 1501) kc_195_865 rfl ?_
  obtain ⟨v49, ev49⟩ : ∃ q : Int32, x4 + 6 = q := ⟨_, rfl⟩
  have zv49 : v49.toInt = (x4.toInt + 6) := by rw [← ev49]; exact (xz_add (X := x4.toInt) (Y := 6) rfl (by decide) (by omega) (by omega)).trans (by omega)
  refine xi_iinc (pc' := 1504) (x := x4) (v := v49) (lv' := [(4, .int v49), (3, .ref 167), (2, .ref 115), (1, .ref 0), (0, .ref 1000000)]) kc_195_1501 rfl rfl ev49 rfl (xm_lt ml_195 rfl) ?_
  refine xi_goto (pc' := 23) kc_195_1504 rfl ?_
  exact kk v49 hh27 (by omega) K29
set_option maxHeartbeats 8000000 in
theorem lc_17 {J : xe_J} {ov : List (List Int32)} (hJ : ∀ d mj as h, mj ≠ xe_loff → J d mj as h = none) (hov1 : ov[1]? = some [10, 0, 0, 0, 0, 0]) (hov2 : ov[2]? = some [99, 30, 50, 50, 1, 99999]) {xs : List Int32} (hov0 : ov[0]? = some xs) {Q : Option Value → xe_H → Prop} {h : xe_H} {x4 : Int32} (hi0 : 0 ≤ x4.toInt) (hi1 : x4.toInt + 6 ≤ xs.length) (hi2 : x4.toInt ≤ 3066) (T : xt h) (kk : ∀ (i : Int32) (h' : xe_H), i.toInt = x4.toInt + 6 → xk [(13, 0), (122, 0), (16, 0), (19, 0), (22, 0), (25, 0), (28, 0)] h h' → xw J ov 100 195 (23, [(4, .int i), (3, .ref 167), (2, .ref 115), (1, .ref 0), (0, .ref 1000000)], [], h') Q) : xw J ov 100 195 (868, [(4, .int x4), (3, .ref 167), (2, .ref 115), (1, .ref 0), (0, .ref 1000000)], [], h) Q := by
  have K : xk [(13, 0), (122, 0), (16, 0), (19, 0), (22, 0), (25, 0), (28, 0)] h h := xk_re T
  refine xi_aload_n (pc' := 869) (x := 0) kc_195_868 rfl rfl ?_
  refine xi_aload_n (pc' := 870) (x := 1000000) kc_195_869 rfl rfl ?_
  refine xi_iload (pc' := 872) (x := x4) kc_195_870 rfl rfl ?_
  refine xi_iconst (pc' := 873) (v := 1) kc_195_872 rfl rfl ?_
  obtain ⟨v1, ev1⟩ : ∃ q : Int32, x4 + 1 = q := ⟨_, rfl⟩
  have zv1 : v1.toInt = (x4.toInt + 1) := by rw [← ev1]; exact (xz_add (X := x4.toInt) (Y := 1) rfl (by decide) (by omega) (by omega)).trans (by omega)
  refine xi_iadd (pc' := 874) (v := v1) kc_195_873 rfl ev1 ?_
  obtain ⟨a2, ea2⟩ : ∃ q : Int32, xs.getD (Int32.toNatClampNeg v1) 0 = q := ⟨_, rfl⟩
  have ra2 := xc_rng a2
  refine xi_ialoadO (pc' := 875) (v := a2) kc_195_874 rfl (by decide) hov0 (xi_in (by omega) (by omega)) ea2 ?_
  obtain ⟨u3, u4, bu3, bu4, A5⟩ := xq_0 K.1
  refine xi_virtual (mj := 148) (as := [.int a2]) (st1 := []) (lv0 := [(0, .ref 0), (1, .int a2)]) kc_195_875 rfl rfl rfl rfl rfl A5 (Nat.le_of_ble_eq_true rfl) (hJ _ _ _ _ (by decide)) (xm_le ml_148 rfl) rfl ?_
  refine mt_148_0 hJ hov1 hov2 (d := 92) (x1 := a2) K.1 (fun r6 hh7 K8 => ?_)
  have br6 := xc_rng r6
  have K9 := xk_tr K K8 rfl
  obtain ⟨u10, u11, bu10, bu11, A12⟩ := xq_0 K9.1
  have e13 : u4 = u11 := xk_eqi (q := 9) K8 rfl A5 A12 rfl rfl
  subst e13
  show xw J ov 100 195 (878, [(4, .int x4), (3, .ref 167), (2, .ref 115), (1, .ref 0), (0, .ref 1000000)], [.int r6], hh7) _
  refine xi_pop (pc' := 879) kc_195_878 rfl rfl ?_
  refine xi_aload_n (pc' := 880) (x := 115) kc_195_879 rfl rfl ?_
  refine xi_aload_n (pc' := 881) (x := 1000000) kc_195_880 rfl rfl ?_
  refine xi_iload (pc' := 883) (x := x4) kc_195_881 rfl rfl ?_
  refine xi_iconst (pc' := 884) (v := 1) kc_195_883 rfl rfl ?_
  refine xi_iadd (pc' := 885) (v := v1) kc_195_884 rfl ev1 ?_
  refine xi_ialoadO (pc' := 886) (v := a2) kc_195_885 rfl (by decide) hov0 (xi_in (by omega) (by omega)) ea2 ?_
  obtain ⟨u14, u15, u16, u17, u18, u19, u20, u21, u22, u23, u24, u25, u26, bu14, bu15, bu16, bu17, bu18, bu19, bu20, bu21, bu22, bu23, bu24, bu25, bu26, A27⟩ := xq_115 K9.1
  refine xi_virtual (mj := 50) (as := [.int a2]) (st1 := []) (lv0 := [(0, .ref 115), (1, .int a2)]) kc_195_886 rfl rfl rfl rfl rfl A27 (Nat.le_of_ble_eq_true rfl) (hJ _ _ _ _ (by decide)) (xm_le ml_50 rfl) rfl ?_
  refine mt_50_0 hJ hov1 hov2 (d := 92) (x1 := a2) K9.1 (fun r28 hh29 K30 => ?_)
  have br28 := xc_rng r28
  have K31 := xk_tr K9 K30 rfl
  obtain ⟨u32, u33, bu32, bu33, A34⟩ := xq_0 K31.1
  have e35 : u4 = u33 := xk_eqi (q := 9) K30 rfl A12 A34 rfl rfl
  subst e35
  obtain ⟨u36, u37, u38, u39, u40, u41, u42, u43, u44, u45, u46, u47, u48, bu36, bu37, bu38, bu39, bu40, bu41, bu42, bu43, bu44, bu45, bu46, bu47, bu48, A49⟩ := xq_115 K31.1
  have e50 : u15 = u37 := xk_eqi (q := 1) K30 rfl A27 A49 rfl rfl
  subst e50
  show xw J ov 100 195 (889, [(4, .int x4), (3, .ref 167), (2, .ref 115), (1, .ref 0), (0, .ref 1000000)], [.int r28], hh29) _
  refine xi_pop (pc' := 890) kc_195_889 rfl rfl ?_
  refine xi_goto (pc' := 1501) kc_195_890 rfl ?_
  obtain ⟨v51, ev51⟩ : ∃ q : Int32, x4 + 6 = q := ⟨_, rfl⟩
  have zv51 : v51.toInt = (x4.toInt + 6) := by rw [← ev51]; exact (xz_add (X := x4.toInt) (Y := 6) rfl (by decide) (by omega) (by omega)).trans (by omega)
  refine xi_iinc (pc' := 1504) (x := x4) (v := v51) (lv' := [(4, .int v51), (3, .ref 167), (2, .ref 115), (1, .ref 0), (0, .ref 1000000)]) kc_195_1501 rfl rfl ev51 rfl (xm_lt ml_195 rfl) ?_
  refine xi_goto (pc' := 23) kc_195_1504 rfl ?_
  exact kk v51 hh29 (by omega) K31
set_option maxHeartbeats 8000000 in
theorem lc_18 {J : xe_J} {ov : List (List Int32)} (hJ : ∀ d mj as h, mj ≠ xe_loff → J d mj as h = none) (hov1 : ov[1]? = some [10, 0, 0, 0, 0, 0]) (hov2 : ov[2]? = some [99, 30, 50, 50, 1, 99999]) {xs : List Int32} (hov0 : ov[0]? = some xs) {Q : Option Value → xe_H → Prop} {h : xe_H} {x4 : Int32} (hi0 : 0 ≤ x4.toInt) (hi1 : x4.toInt + 6 ≤ xs.length) (hi2 : x4.toInt ≤ 3066) (T : xt h) (kk : ∀ (i : Int32) (h' : xe_H), i.toInt = x4.toInt + 6 → xk [(13, 0), (122, 0), (16, 0), (19, 0), (22, 0), (25, 0), (28, 0)] h h' → xw J ov 100 195 (23, [(4, .int i), (3, .ref 167), (2, .ref 115), (1, .ref 0), (0, .ref 1000000)], [], h') Q) : xw J ov 100 195 (893, [(4, .int x4), (3, .ref 167), (2, .ref 115), (1, .ref 0), (0, .ref 1000000)], [], h) Q := by
  have K : xk [(13, 0), (122, 0), (16, 0), (19, 0), (22, 0), (25, 0), (28, 0)] h h := xk_re T
  refine xi_aload_n (pc' := 894) (x := 0) kc_195_893 rfl rfl ?_
  obtain ⟨u1, u2, bu1, bu2, A3⟩ := xq_0 K.1
  refine xi_virtual (mj := 151) (as := []) (st1 := []) (lv0 := [(0, .ref 0)]) kc_195_894 rfl rfl rfl rfl rfl A3 (Nat.le_of_ble_eq_true rfl) (hJ _ _ _ _ (by decide)) (xm_le ml_151 rfl) rfl ?_
  refine mt_151_0 hJ hov1 hov2 (d := 91)  K.1 (fun r4 hh5 K6 => ?_)
  have br4 := xc_rng r4
  have K7 := xk_tr K K6 rfl
  obtain ⟨u8, u9, bu8, bu9, A10⟩ := xq_0 K7.1
  have e11 : u2 = u9 := xk_eqi (q := 9) K6 rfl A3 A10 rfl rfl
  subst e11
  show xw J ov 100 195 (897, [(4, .int x4), (3, .ref 167), (2, .ref 115), (1, .ref 0), (0, .ref 1000000)], [.int r4], hh5) _
  refine xi_pop (pc' := 898) kc_195_897 rfl rfl ?_
  refine xi_aload_n (pc' := 899) (x := 115) kc_195_898 rfl rfl ?_
  obtain ⟨u12, u13, u14, u15, u16, u17, u18, u19, u20, u21, u22, u23, u24, bu12, bu13, bu14, bu15, bu16, bu17, bu18, bu19, bu20, bu21, bu22, bu23, bu24, A25⟩ := xq_115 K7.1
  refine xi_virtual (mj := 51) (as := []) (st1 := []) (lv0 := [(0, .ref 115)]) kc_195_899 rfl rfl rfl rfl rfl A25 (Nat.le_of_ble_eq_true rfl) (hJ _ _ _ _ (by decide)) (xm_le ml_51 rfl) rfl ?_
  refine mt_51_0 hJ hov1 hov2 (d := 91)  K7.1 (fun r26 hh27 K28 => ?_)
  have br26 := xc_rng r26
  have K29 := xk_tr K7 K28 rfl
  obtain ⟨u30, u31, bu30, bu31, A32⟩ := xq_0 K29.1
  have e33 : u2 = u31 := xk_eqi (q := 9) K28 rfl A10 A32 rfl rfl
  subst e33
  obtain ⟨u34, u35, u36, u37, u38, u39, u40, u41, u42, u43, u44, u45, u46, bu34, bu35, bu36, bu37, bu38, bu39, bu40, bu41, bu42, bu43, bu44, bu45, bu46, A47⟩ := xq_115 K29.1
  have e48 : u13 = u35 := xk_eqi (q := 1) K28 rfl A25 A47 rfl rfl
  subst e48
  show xw J ov 100 195 (902, [(4, .int x4), (3, .ref 167), (2, .ref 115), (1, .ref 0), (0, .ref 1000000)], [.int r26], hh27) _
  refine xi_pop (pc' := 903) kc_195_902 rfl rfl ?_
  refine xi_goto (pc' := 1501) kc_195_903 rfl ?_
  obtain ⟨v49, ev49⟩ : ∃ q : Int32, x4 + 6 = q := ⟨_, rfl⟩
  have zv49 : v49.toInt = (x4.toInt + 6) := by rw [← ev49]; exact (xz_add (X := x4.toInt) (Y := 6) rfl (by decide) (by omega) (by omega)).trans (by omega)
  refine xi_iinc (pc' := 1504) (x := x4) (v := v49) (lv' := [(4, .int v49), (3, .ref 167), (2, .ref 115), (1, .ref 0), (0, .ref 1000000)]) kc_195_1501 rfl rfl ev49 rfl (xm_lt ml_195 rfl) ?_
  refine xi_goto (pc' := 23) kc_195_1504 rfl ?_
  exact kk v49 hh27 (by omega) K29
set_option maxHeartbeats 8000000 in
theorem lc_19 {J : xe_J} {ov : List (List Int32)} (hJ : ∀ d mj as h, mj ≠ xe_loff → J d mj as h = none) (hov1 : ov[1]? = some [10, 0, 0, 0, 0, 0]) (hov2 : ov[2]? = some [99, 30, 50, 50, 1, 99999]) {xs : List Int32} (hov0 : ov[0]? = some xs) {Q : Option Value → xe_H → Prop} {h : xe_H} {x4 : Int32} (hi0 : 0 ≤ x4.toInt) (hi1 : x4.toInt + 6 ≤ xs.length) (hi2 : x4.toInt ≤ 3066) (T : xt h) (kk : ∀ (i : Int32) (h' : xe_H), i.toInt = x4.toInt + 6 → xk [(13, 0), (122, 0), (16, 0), (19, 0), (22, 0), (25, 0), (28, 0)] h h' → xw J ov 100 195 (23, [(4, .int i), (3, .ref 167), (2, .ref 115), (1, .ref 0), (0, .ref 1000000)], [], h') Q) : xw J ov 100 195 (906, [(4, .int x4), (3, .ref 167), (2, .ref 115), (1, .ref 0), (0, .ref 1000000)], [], h) Q := by
  have K : xk [(13, 0), (122, 0), (16, 0), (19, 0), (22, 0), (25, 0), (28, 0)] h h := xk_re T
  refine xi_aload_n (pc' := 907) (x := 0) kc_195_906 rfl rfl ?_
  refine xi_aload_n (pc' := 908) (x := 1000000) kc_195_907 rfl rfl ?_
  refine xi_iload (pc' := 910) (x := x4) kc_195_908 rfl rfl ?_
  refine xi_iconst (pc' := 911) (v := 1) kc_195_910 rfl rfl ?_
  obtain ⟨v1, ev1⟩ : ∃ q : Int32, x4 + 1 = q := ⟨_, rfl⟩
  have zv1 : v1.toInt = (x4.toInt + 1) := by rw [← ev1]; exact (xz_add (X := x4.toInt) (Y := 1) rfl (by decide) (by omega) (by omega)).trans (by omega)
  refine xi_iadd (pc' := 912) (v := v1) kc_195_911 rfl ev1 ?_
  obtain ⟨a2, ea2⟩ : ∃ q : Int32, xs.getD (Int32.toNatClampNeg v1) 0 = q := ⟨_, rfl⟩
  have ra2 := xc_rng a2
  refine xi_ialoadO (pc' := 913) (v := a2) kc_195_912 rfl (by decide) hov0 (xi_in (by omega) (by omega)) ea2 ?_
  refine xi_aload_n (pc' := 914) (x := 1000000) kc_195_913 rfl rfl ?_
  refine xi_iload (pc' := 916) (x := x4) kc_195_914 rfl rfl ?_
  refine xi_iconst (pc' := 917) (v := 2) kc_195_916 rfl rfl ?_
  obtain ⟨v3, ev3⟩ : ∃ q : Int32, x4 + 2 = q := ⟨_, rfl⟩
  have zv3 : v3.toInt = (x4.toInt + 2) := by rw [← ev3]; exact (xz_add (X := x4.toInt) (Y := 2) rfl (by decide) (by omega) (by omega)).trans (by omega)
  refine xi_iadd (pc' := 918) (v := v3) kc_195_917 rfl ev3 ?_
  obtain ⟨a4, ea4⟩ : ∃ q : Int32, xs.getD (Int32.toNatClampNeg v3) 0 = q := ⟨_, rfl⟩
  have ra4 := xc_rng a4
  refine xi_ialoadO (pc' := 919) (v := a4) kc_195_918 rfl (by decide) hov0 (xi_in (by omega) (by omega)) ea4 ?_
  obtain ⟨u5, u6, bu5, bu6, A7⟩ := xq_0 K.1
  refine xi_virtual (mj := 155) (as := [.int a2, .int a4]) (st1 := []) (lv0 := [(0, .ref 0), (1, .int a2), (2, .int a4)]) kc_195_919 rfl rfl rfl rfl rfl A7 (Nat.le_of_ble_eq_true rfl) (hJ _ _ _ _ (by decide)) (xm_le ml_155 rfl) rfl ?_
  refine mt_155_0 hJ hov1 hov2 (d := 97) (x1 := a2) (x2 := a4) K.1 (fun r8 hh9 br8 K10 => ?_)
  have K11 := xk_tr K K10 rfl
  obtain ⟨u12, u13, bu12, bu13, A14⟩ := xq_0 K11.1
  have e15 : u6 = u13 := xk_eqi (q := 9) K10 rfl A7 A14 rfl rfl
  subst e15
  show xw J ov 100 195 (922, [(4, .int x4), (3, .ref 167), (2, .ref 115), (1, .ref 0), (0, .ref 1000000)], [.int r8], hh9) _
  refine xi_pop (pc' := 923) kc_195_922 rfl rfl ?_
  refine xi_aload_n (pc' := 924) (x := 115) kc_195_923 rfl rfl ?_
  refine xi_aload_n (pc' := 925) (x := 1000000) kc_195_924 rfl rfl ?_
  refine xi_iload (pc' := 927) (x := x4) kc_195_925 rfl rfl ?_
  refine xi_iconst (pc' := 928) (v := 1) kc_195_927 rfl rfl ?_
  refine xi_iadd (pc' := 929) (v := v1) kc_195_928 rfl ev1 ?_
  refine xi_ialoadO (pc' := 930) (v := a2) kc_195_929 rfl (by decide) hov0 (xi_in (by omega) (by omega)) ea2 ?_
  refine xi_aload_n (pc' := 931) (x := 1000000) kc_195_930 rfl rfl ?_
  refine xi_iload (pc' := 933) (x := x4) kc_195_931 rfl rfl ?_
  refine xi_iconst (pc' := 934) (v := 2) kc_195_933 rfl rfl ?_
  refine xi_iadd (pc' := 935) (v := v3) kc_195_934 rfl ev3 ?_
  refine xi_ialoadO (pc' := 936) (v := a4) kc_195_935 rfl (by decide) hov0 (xi_in (by omega) (by omega)) ea4 ?_
  obtain ⟨u16, u17, u18, u19, u20, u21, u22, u23, u24, u25, u26, u27, u28, bu16, bu17, bu18, bu19, bu20, bu21, bu22, bu23, bu24, bu25, bu26, bu27, bu28, A29⟩ := xq_115 K11.1
  refine xi_virtual (mj := 55) (as := [.int a2, .int a4]) (st1 := []) (lv0 := [(0, .ref 115), (1, .int a2), (2, .int a4)]) kc_195_936 rfl rfl rfl rfl rfl A29 (Nat.le_of_ble_eq_true rfl) (hJ _ _ _ _ (by decide)) (xm_le ml_55 rfl) rfl ?_
  refine mt_55_0 hJ hov1 hov2 (d := 98) (x1 := a2) (x2 := a4) K11.1 (fun r30 hh31 br30 K32 => ?_)
  have K33 := xk_tr K11 K32 rfl
  obtain ⟨u34, u35, bu34, bu35, A36⟩ := xq_0 K33.1
  have e37 : u6 = u35 := xk_eqi (q := 9) K32 rfl A14 A36 rfl rfl
  subst e37
  obtain ⟨u38, u39, u40, u41, u42, u43, u44, u45, u46, u47, u48, u49, u50, bu38, bu39, bu40, bu41, bu42, bu43, bu44, bu45, bu46, bu47, bu48, bu49, bu50, A51⟩ := xq_115 K33.1
  have e52 : u17 = u39 := xk_eqi (q := 1) K32 rfl A29 A51 rfl rfl
  subst e52
  show xw J ov 100 195 (939, [(4, .int x4), (3, .ref 167), (2, .ref 115), (1, .ref 0), (0, .ref 1000000)], [.int r30], hh31) _
  refine xi_pop (pc' := 940) kc_195_939 rfl rfl ?_
  refine xi_goto (pc' := 1501) kc_195_940 rfl ?_
  obtain ⟨v53, ev53⟩ : ∃ q : Int32, x4 + 6 = q := ⟨_, rfl⟩
  have zv53 : v53.toInt = (x4.toInt + 6) := by rw [← ev53]; exact (xz_add (X := x4.toInt) (Y := 6) rfl (by decide) (by omega) (by omega)).trans (by omega)
  refine xi_iinc (pc' := 1504) (x := x4) (v := v53) (lv' := [(4, .int v53), (3, .ref 167), (2, .ref 115), (1, .ref 0), (0, .ref 1000000)]) kc_195_1501 rfl rfl ev53 rfl (xm_lt ml_195 rfl) ?_
  refine xi_goto (pc' := 23) kc_195_1504 rfl ?_
  exact kk v53 hh31 (by omega) K33
set_option maxHeartbeats 8000000 in
theorem lc_20 {J : xe_J} {ov : List (List Int32)} (hJ : ∀ d mj as h, mj ≠ xe_loff → J d mj as h = none) (hov1 : ov[1]? = some [10, 0, 0, 0, 0, 0]) (hov2 : ov[2]? = some [99, 30, 50, 50, 1, 99999]) {xs : List Int32} (hov0 : ov[0]? = some xs) {Q : Option Value → xe_H → Prop} {h : xe_H} {x4 : Int32} (hi0 : 0 ≤ x4.toInt) (hi1 : x4.toInt + 6 ≤ xs.length) (hi2 : x4.toInt ≤ 3066) (T : xt h) (kk : ∀ (i : Int32) (h' : xe_H), i.toInt = x4.toInt + 6 → xk [(13, 0), (122, 0), (16, 0), (19, 0), (22, 0), (25, 0), (28, 0)] h h' → xw J ov 100 195 (23, [(4, .int i), (3, .ref 167), (2, .ref 115), (1, .ref 0), (0, .ref 1000000)], [], h') Q) : xw J ov 100 195 (943, [(4, .int x4), (3, .ref 167), (2, .ref 115), (1, .ref 0), (0, .ref 1000000)], [], h) Q := by
  have K : xk [(13, 0), (122, 0), (16, 0), (19, 0), (22, 0), (25, 0), (28, 0)] h h := xk_re T
  refine xi_aload_n (pc' := 944) (x := 0) kc_195_943 rfl rfl ?_
  refine xi_aload_n (pc' := 945) (x := 1000000) kc_195_944 rfl rfl ?_
  refine xi_iload (pc' := 947) (x := x4) kc_195_945 rfl rfl ?_
  refine xi_iconst (pc' := 948) (v := 1) kc_195_947 rfl rfl ?_
  obtain ⟨v1, ev1⟩ : ∃ q : Int32, x4 + 1 = q := ⟨_, rfl⟩
  have zv1 : v1.toInt = (x4.toInt + 1) := by rw [← ev1]; exact (xz_add (X := x4.toInt) (Y := 1) rfl (by decide) (by omega) (by omega)).trans (by omega)
  refine xi_iadd (pc' := 949) (v := v1) kc_195_948 rfl ev1 ?_
  obtain ⟨a2, ea2⟩ : ∃ q : Int32, xs.getD (Int32.toNatClampNeg v1) 0 = q := ⟨_, rfl⟩
  have ra2 := xc_rng a2
  refine xi_ialoadO (pc' := 950) (v := a2) kc_195_949 rfl (by decide) hov0 (xi_in (by omega) (by omega)) ea2 ?_
  refine xi_aload_n (pc' := 951) (x := 1000000) kc_195_950 rfl rfl ?_
  refine xi_iload (pc' := 953) (x := x4) kc_195_951 rfl rfl ?_
  refine xi_iconst (pc' := 954) (v := 2) kc_195_953 rfl rfl ?_
  obtain ⟨v3, ev3⟩ : ∃ q : Int32, x4 + 2 = q := ⟨_, rfl⟩
  have zv3 : v3.toInt = (x4.toInt + 2) := by rw [← ev3]; exact (xz_add (X := x4.toInt) (Y := 2) rfl (by decide) (by omega) (by omega)).trans (by omega)
  refine xi_iadd (pc' := 955) (v := v3) kc_195_954 rfl ev3 ?_
  obtain ⟨a4, ea4⟩ : ∃ q : Int32, xs.getD (Int32.toNatClampNeg v3) 0 = q := ⟨_, rfl⟩
  have ra4 := xc_rng a4
  refine xi_ialoadO (pc' := 956) (v := a4) kc_195_955 rfl (by decide) hov0 (xi_in (by omega) (by omega)) ea4 ?_
  by_cases c5 : a4.toInt = 0
  · refine xi_ift (pc' := 963) kc_195_956 rfl (xc_eq_t (X := a4.toInt) (Y := 0) rfl (by decide) (by omega)) ?_
    refine xi_iconst (pc' := 964) (v := 0) kc_195_963 rfl rfl ?_
    obtain ⟨u6, u7, bu6, bu7, A8⟩ := xq_0 K.1
    refine xi_virtual (mj := 157) (as := [.int a2, .int 0]) (st1 := []) (lv0 := [(0, .ref 0), (1, .int a2), (2, .int 0)]) kc_195_964 rfl rfl rfl rfl rfl A8 (Nat.le_of_ble_eq_true rfl) (hJ _ _ _ _ (by decide)) (xm_le ml_157 rfl) rfl ?_
    have zc0 : (0 : Int32).toInt = 0 := by decide
    refine mt_157_0 hJ hov1 hov2 (d := 91) (x1 := a2) (x2 := 0) K.1 (by first | omega | decide) (fun r9 hh10 K11 => ?_)
    have br9 := xc_rng r9
    have K12 := xk_tr K K11 rfl
    obtain ⟨u13, u14, bu13, bu14, A15⟩ := xq_0 K12.1
    have e16 : u7 = u14 := xk_eqi (q := 9) K11 rfl A8 A15 rfl rfl
    subst e16
    show xw J ov 100 195 (967, [(4, .int x4), (3, .ref 167), (2, .ref 115), (1, .ref 0), (0, .ref 1000000)], [.int r9], hh10) _
    refine xi_pop (pc' := 968) kc_195_967 rfl rfl ?_
    refine xi_aload_n (pc' := 969) (x := 115) kc_195_968 rfl rfl ?_
    refine xi_aload_n (pc' := 970) (x := 1000000) kc_195_969 rfl rfl ?_
    refine xi_iload (pc' := 972) (x := x4) kc_195_970 rfl rfl ?_
    refine xi_iconst (pc' := 973) (v := 1) kc_195_972 rfl rfl ?_
    refine xi_iadd (pc' := 974) (v := v1) kc_195_973 rfl ev1 ?_
    refine xi_ialoadO (pc' := 975) (v := a2) kc_195_974 rfl (by decide) hov0 (xi_in (by omega) (by omega)) ea2 ?_
    refine xi_aload_n (pc' := 976) (x := 1000000) kc_195_975 rfl rfl ?_
    refine xi_iload (pc' := 978) (x := x4) kc_195_976 rfl rfl ?_
    refine xi_iconst (pc' := 979) (v := 2) kc_195_978 rfl rfl ?_
    refine xi_iadd (pc' := 980) (v := v3) kc_195_979 rfl ev3 ?_
    refine xi_ialoadO (pc' := 981) (v := a4) kc_195_980 rfl (by decide) hov0 (xi_in (by omega) (by omega)) ea4 ?_
    refine xi_ift (pc' := 988) kc_195_981 rfl (xc_eq_t (X := a4.toInt) (Y := 0) rfl (by decide) (by omega)) ?_
    refine xi_iconst (pc' := 989) (v := 0) kc_195_988 rfl rfl ?_
    obtain ⟨u17, u18, u19, u20, u21, u22, u23, u24, u25, u26, u27, u28, u29, bu17, bu18, bu19, bu20, bu21, bu22, bu23, bu24, bu25, bu26, bu27, bu28, bu29, A30⟩ := xq_115 K12.1
    refine xi_virtual (mj := 56) (as := [.int a2, .int 0]) (st1 := []) (lv0 := [(0, .ref 115), (1, .int a2), (2, .int 0)]) kc_195_989 rfl rfl rfl rfl rfl A30 (Nat.le_of_ble_eq_true rfl) (hJ _ _ _ _ (by decide)) (xm_le ml_56 rfl) rfl ?_
    have zc0 : (0 : Int32).toInt = 0 := by decide
    refine mt_56_0 hJ hov1 hov2 (d := 91) (x1 := a2) (x2 := 0) K12.1 (by first | omega | decide) (fun r31 hh32 K33 => ?_)
    have br31 := xc_rng r31
    have K34 := xk_tr K12 K33 rfl
    obtain ⟨u35, u36, bu35, bu36, A37⟩ := xq_0 K34.1
    have e38 : u7 = u36 := xk_eqi (q := 9) K33 rfl A15 A37 rfl rfl
    subst e38
    obtain ⟨u39, u40, u41, u42, u43, u44, u45, u46, u47, u48, u49, u50, u51, bu39, bu40, bu41, bu42, bu43, bu44, bu45, bu46, bu47, bu48, bu49, bu50, bu51, A52⟩ := xq_115 K34.1
    have e53 : u18 = u40 := xk_eqi (q := 1) K33 rfl A30 A52 rfl rfl
    subst e53
    show xw J ov 100 195 (992, [(4, .int x4), (3, .ref 167), (2, .ref 115), (1, .ref 0), (0, .ref 1000000)], [.int r31], hh32) _
    refine xi_pop (pc' := 993) kc_195_992 rfl rfl ?_
    refine xi_goto (pc' := 1501) kc_195_993 rfl ?_
    obtain ⟨v54, ev54⟩ : ∃ q : Int32, x4 + 6 = q := ⟨_, rfl⟩
    have zv54 : v54.toInt = (x4.toInt + 6) := by rw [← ev54]; exact (xz_add (X := x4.toInt) (Y := 6) rfl (by decide) (by omega) (by omega)).trans (by omega)
    refine xi_iinc (pc' := 1504) (x := x4) (v := v54) (lv' := [(4, .int v54), (3, .ref 167), (2, .ref 115), (1, .ref 0), (0, .ref 1000000)]) kc_195_1501 rfl rfl ev54 rfl (xm_lt ml_195 rfl) ?_
    refine xi_goto (pc' := 23) kc_195_1504 rfl ?_
    exact kk v54 hh32 (by omega) K34
  · refine xi_iff (pc' := 959) kc_195_956 rfl (xc_eq_f (X := a4.toInt) (Y := 0) rfl (by decide) (by omega)) ?_
    refine xi_iconst (pc' := 960) (v := 1) kc_195_959 rfl rfl ?_
    refine xi_goto (pc' := 964) kc_195_960 rfl ?_
    obtain ⟨u55, u56, bu55, bu56, A57⟩ := xq_0 K.1
    refine xi_virtual (mj := 157) (as := [.int a2, .int 1]) (st1 := []) (lv0 := [(0, .ref 0), (1, .int a2), (2, .int 1)]) kc_195_964 rfl rfl rfl rfl rfl A57 (Nat.le_of_ble_eq_true rfl) (hJ _ _ _ _ (by decide)) (xm_le ml_157 rfl) rfl ?_
    have zc1 : (1 : Int32).toInt = 1 := by decide
    refine mt_157_0 hJ hov1 hov2 (d := 91) (x1 := a2) (x2 := 1) K.1 (by first | omega | decide) (fun r58 hh59 K60 => ?_)
    have br58 := xc_rng r58
    have K61 := xk_tr K K60 rfl
    obtain ⟨u62, u63, bu62, bu63, A64⟩ := xq_0 K61.1
    have e65 : u56 = u63 := xk_eqi (q := 9) K60 rfl A57 A64 rfl rfl
    subst e65
    show xw J ov 100 195 (967, [(4, .int x4), (3, .ref 167), (2, .ref 115), (1, .ref 0), (0, .ref 1000000)], [.int r58], hh59) _
    refine xi_pop (pc' := 968) kc_195_967 rfl rfl ?_
    refine xi_aload_n (pc' := 969) (x := 115) kc_195_968 rfl rfl ?_
    refine xi_aload_n (pc' := 970) (x := 1000000) kc_195_969 rfl rfl ?_
    refine xi_iload (pc' := 972) (x := x4) kc_195_970 rfl rfl ?_
    refine xi_iconst (pc' := 973) (v := 1) kc_195_972 rfl rfl ?_
    refine xi_iadd (pc' := 974) (v := v1) kc_195_973 rfl ev1 ?_
    refine xi_ialoadO (pc' := 975) (v := a2) kc_195_974 rfl (by decide) hov0 (xi_in (by omega) (by omega)) ea2 ?_
    refine xi_aload_n (pc' := 976) (x := 1000000) kc_195_975 rfl rfl ?_
    refine xi_iload (pc' := 978) (x := x4) kc_195_976 rfl rfl ?_
    refine xi_iconst (pc' := 979) (v := 2) kc_195_978 rfl rfl ?_
    refine xi_iadd (pc' := 980) (v := v3) kc_195_979 rfl ev3 ?_
    refine xi_ialoadO (pc' := 981) (v := a4) kc_195_980 rfl (by decide) hov0 (xi_in (by omega) (by omega)) ea4 ?_
    refine xi_iff (pc' := 984) kc_195_981 rfl (xc_eq_f (X := a4.toInt) (Y := 0) rfl (by decide) (by omega)) ?_
    refine xi_iconst (pc' := 985) (v := 1) kc_195_984 rfl rfl ?_
    refine xi_goto (pc' := 989) kc_195_985 rfl ?_
    obtain ⟨u66, u67, u68, u69, u70, u71, u72, u73, u74, u75, u76, u77, u78, bu66, bu67, bu68, bu69, bu70, bu71, bu72, bu73, bu74, bu75, bu76, bu77, bu78, A79⟩ := xq_115 K61.1
    refine xi_virtual (mj := 56) (as := [.int a2, .int 1]) (st1 := []) (lv0 := [(0, .ref 115), (1, .int a2), (2, .int 1)]) kc_195_989 rfl rfl rfl rfl rfl A79 (Nat.le_of_ble_eq_true rfl) (hJ _ _ _ _ (by decide)) (xm_le ml_56 rfl) rfl ?_
    have zc1 : (1 : Int32).toInt = 1 := by decide
    refine mt_56_0 hJ hov1 hov2 (d := 91) (x1 := a2) (x2 := 1) K61.1 (by first | omega | decide) (fun r80 hh81 K82 => ?_)
    have br80 := xc_rng r80
    have K83 := xk_tr K61 K82 rfl
    obtain ⟨u84, u85, bu84, bu85, A86⟩ := xq_0 K83.1
    have e87 : u56 = u85 := xk_eqi (q := 9) K82 rfl A64 A86 rfl rfl
    subst e87
    obtain ⟨u88, u89, u90, u91, u92, u93, u94, u95, u96, u97, u98, u99, u100, bu88, bu89, bu90, bu91, bu92, bu93, bu94, bu95, bu96, bu97, bu98, bu99, bu100, A101⟩ := xq_115 K83.1
    have e102 : u67 = u89 := xk_eqi (q := 1) K82 rfl A79 A101 rfl rfl
    subst e102
    show xw J ov 100 195 (992, [(4, .int x4), (3, .ref 167), (2, .ref 115), (1, .ref 0), (0, .ref 1000000)], [.int r80], hh81) _
    refine xi_pop (pc' := 993) kc_195_992 rfl rfl ?_
    refine xi_goto (pc' := 1501) kc_195_993 rfl ?_
    obtain ⟨v103, ev103⟩ : ∃ q : Int32, x4 + 6 = q := ⟨_, rfl⟩
    have zv103 : v103.toInt = (x4.toInt + 6) := by rw [← ev103]; exact (xz_add (X := x4.toInt) (Y := 6) rfl (by decide) (by omega) (by omega)).trans (by omega)
    refine xi_iinc (pc' := 1504) (x := x4) (v := v103) (lv' := [(4, .int v103), (3, .ref 167), (2, .ref 115), (1, .ref 0), (0, .ref 1000000)]) kc_195_1501 rfl rfl ev103 rfl (xm_lt ml_195 rfl) ?_
    refine xi_goto (pc' := 23) kc_195_1504 rfl ?_
    exact kk v103 hh81 (by omega) K83
set_option maxHeartbeats 8000000 in
theorem lc_21 {J : xe_J} {ov : List (List Int32)} (hJ : ∀ d mj as h, mj ≠ xe_loff → J d mj as h = none) (hov1 : ov[1]? = some [10, 0, 0, 0, 0, 0]) (hov2 : ov[2]? = some [99, 30, 50, 50, 1, 99999]) {xs : List Int32} (hov0 : ov[0]? = some xs) {Q : Option Value → xe_H → Prop} {h : xe_H} {x4 : Int32} (hi0 : 0 ≤ x4.toInt) (hi1 : x4.toInt + 6 ≤ xs.length) (hi2 : x4.toInt ≤ 3066) (T : xt h) (kk : ∀ (i : Int32) (h' : xe_H), i.toInt = x4.toInt + 6 → xk [(13, 0), (122, 0), (16, 0), (19, 0), (22, 0), (25, 0), (28, 0)] h h' → xw J ov 100 195 (23, [(4, .int i), (3, .ref 167), (2, .ref 115), (1, .ref 0), (0, .ref 1000000)], [], h') Q) : xw J ov 100 195 (996, [(4, .int x4), (3, .ref 167), (2, .ref 115), (1, .ref 0), (0, .ref 1000000)], [], h) Q := by
  have K : xk [(13, 0), (122, 0), (16, 0), (19, 0), (22, 0), (25, 0), (28, 0)] h h := xk_re T
  refine xi_aload_n (pc' := 997) (x := 0) kc_195_996 rfl rfl ?_
  obtain ⟨u1, u2, bu1, bu2, A3⟩ := xq_0 K.1
  refine xi_virtual (mj := 158) (as := []) (st1 := []) (lv0 := [(0, .ref 0)]) kc_195_997 rfl rfl rfl rfl rfl A3 (Nat.le_of_ble_eq_true rfl) (hJ _ _ _ _ (by decide)) (xm_le ml_158 rfl) rfl ?_
  refine mt_158_0 hJ hov1 hov2 (d := 91)  K.1 (fun r4 hh5 br4 K6 => ?_)
  have K7 := xk_tr K K6 rfl
  obtain ⟨u8, u9, bu8, bu9, A10⟩ := xq_0 K7.1
  have e11 : u2 = u9 := xk_eqi (q := 9) K6 rfl A3 A10 rfl rfl
  subst e11
  show xw J ov 100 195 (1000, [(4, .int x4), (3, .ref 167), (2, .ref 115), (1, .ref 0), (0, .ref 1000000)], [.int r4], hh5) _
  refine xi_pop (pc' := 1001) kc_195_1000 rfl rfl ?_
  refine xi_aload_n (pc' := 1002) (x := 115) kc_195_1001 rfl rfl ?_
  obtain ⟨u12, u13, u14, u15, u16, u17, u18, u19, u20, u21, u22, u23, u24, bu12, bu13, bu14, bu15, bu16, bu17, bu18, bu19, bu20, bu21, bu22, bu23, bu24, A25⟩ := xq_115 K7.1
  refine xi_virtual (mj := 57) (as := []) (st1 := []) (lv0 := [(0, .ref 115)]) kc_195_1002 rfl rfl rfl rfl rfl A25 (Nat.le_of_ble_eq_true rfl) (hJ _ _ _ _ (by decide)) (xm_le ml_57 rfl) rfl ?_
  refine mt_57_0 hJ hov1 hov2 (d := 91)  K7.1 (fun r26 hh27 br26 K28 => ?_)
  have K29 := xk_tr K7 K28 rfl
  obtain ⟨u30, u31, bu30, bu31, A32⟩ := xq_0 K29.1
  have e33 : u2 = u31 := xk_eqi (q := 9) K28 rfl A10 A32 rfl rfl
  subst e33
  obtain ⟨u34, u35, u36, u37, u38, u39, u40, u41, u42, u43, u44, u45, u46, bu34, bu35, bu36, bu37, bu38, bu39, bu40, bu41, bu42, bu43, bu44, bu45, bu46, A47⟩ := xq_115 K29.1
  have e48 : u13 = u35 := xk_eqi (q := 1) K28 rfl A25 A47 rfl rfl
  subst e48
  show xw J ov 100 195 (1005, [(4, .int x4), (3, .ref 167), (2, .ref 115), (1, .ref 0), (0, .ref 1000000)], [.int r26], hh27) _
  refine xi_pop (pc' := 1006) kc_195_1005 rfl rfl ?_
  refine xi_goto (pc' := 1501) kc_195_1006 rfl ?_
  obtain ⟨v49, ev49⟩ : ∃ q : Int32, x4 + 6 = q := ⟨_, rfl⟩
  have zv49 : v49.toInt = (x4.toInt + 6) := by rw [← ev49]; exact (xz_add (X := x4.toInt) (Y := 6) rfl (by decide) (by omega) (by omega)).trans (by omega)
  refine xi_iinc (pc' := 1504) (x := x4) (v := v49) (lv' := [(4, .int v49), (3, .ref 167), (2, .ref 115), (1, .ref 0), (0, .ref 1000000)]) kc_195_1501 rfl rfl ev49 rfl (xm_lt ml_195 rfl) ?_
  refine xi_goto (pc' := 23) kc_195_1504 rfl ?_
  exact kk v49 hh27 (by omega) K29
set_option maxHeartbeats 8000000 in
theorem lc_22 {J : xe_J} {ov : List (List Int32)} (hJ : ∀ d mj as h, mj ≠ xe_loff → J d mj as h = none) (hov1 : ov[1]? = some [10, 0, 0, 0, 0, 0]) (hov2 : ov[2]? = some [99, 30, 50, 50, 1, 99999]) {xs : List Int32} (hov0 : ov[0]? = some xs) {Q : Option Value → xe_H → Prop} {h : xe_H} {x4 : Int32} (hi0 : 0 ≤ x4.toInt) (hi1 : x4.toInt + 6 ≤ xs.length) (hi2 : x4.toInt ≤ 3066) (T : xt h) (kk : ∀ (i : Int32) (h' : xe_H), i.toInt = x4.toInt + 6 → xk [(13, 0), (122, 0), (16, 0), (19, 0), (22, 0), (25, 0), (28, 0)] h h' → xw J ov 100 195 (23, [(4, .int i), (3, .ref 167), (2, .ref 115), (1, .ref 0), (0, .ref 1000000)], [], h') Q) : xw J ov 100 195 (1009, [(4, .int x4), (3, .ref 167), (2, .ref 115), (1, .ref 0), (0, .ref 1000000)], [], h) Q := by
  have K : xk [(13, 0), (122, 0), (16, 0), (19, 0), (22, 0), (25, 0), (28, 0)] h h := xk_re T
  refine xi_aload_n (pc' := 1010) (x := 0) kc_195_1009 rfl rfl ?_
  obtain ⟨u1, u2, bu1, bu2, A3⟩ := xq_0 K.1
  refine xi_virtual (mj := 160) (as := []) (st1 := []) (lv0 := [(0, .ref 0)]) kc_195_1010 rfl rfl rfl rfl rfl A3 (Nat.le_of_ble_eq_true rfl) (hJ _ _ _ _ (by decide)) (xm_le ml_160 rfl) rfl ?_
  refine mt_160_0 hJ hov1 hov2 (d := 86)  K.1 (fun r4 hh5 K6 => ?_)
  have br4 := xc_rng r4
  have K7 := xk_tr K K6 rfl
  obtain ⟨u8, u9, bu8, bu9, A10⟩ := xq_0 K7.1
  have e11 : u2 = u9 := xk_eqi (q := 9) K6 rfl A3 A10 rfl rfl
  subst e11
  show xw J ov 100 195 (1013, [(4, .int x4), (3, .ref 167), (2, .ref 115), (1, .ref 0), (0, .ref 1000000)], [.int r4], hh5) _
  refine xi_pop (pc' := 1014) kc_195_1013 rfl rfl ?_
  refine xi_aload_n (pc' := 1015) (x := 115) kc_195_1014 rfl rfl ?_
  obtain ⟨u12, u13, u14, u15, u16, u17, u18, u19, u20, u21, u22, u23, u24, bu12, bu13, bu14, bu15, bu16, bu17, bu18, bu19, bu20, bu21, bu22, bu23, bu24, A25⟩ := xq_115 K7.1
  refine xi_virtual (mj := 58) (as := []) (st1 := []) (lv0 := [(0, .ref 115)]) kc_195_1015 rfl rfl rfl rfl rfl A25 (Nat.le_of_ble_eq_true rfl) (hJ _ _ _ _ (by decide)) (xm_le ml_58 rfl) rfl ?_
  refine mt_58_0 hJ hov1 hov2 (d := 92)  K7.1 (fun r26 hh27 K28 => ?_)
  have br26 := xc_rng r26
  have K29 := xk_tr K7 K28 rfl
  obtain ⟨u30, u31, bu30, bu31, A32⟩ := xq_0 K29.1
  have e33 : u2 = u31 := xk_eqi (q := 9) K28 rfl A10 A32 rfl rfl
  subst e33
  obtain ⟨u34, u35, u36, u37, u38, u39, u40, u41, u42, u43, u44, u45, u46, bu34, bu35, bu36, bu37, bu38, bu39, bu40, bu41, bu42, bu43, bu44, bu45, bu46, A47⟩ := xq_115 K29.1
  have e48 : u13 = u35 := xk_eqi (q := 1) K28 rfl A25 A47 rfl rfl
  subst e48
  show xw J ov 100 195 (1018, [(4, .int x4), (3, .ref 167), (2, .ref 115), (1, .ref 0), (0, .ref 1000000)], [.int r26], hh27) _
  refine xi_pop (pc' := 1019) kc_195_1018 rfl rfl ?_
  refine xi_goto (pc' := 1501) kc_195_1019 rfl ?_
  obtain ⟨v49, ev49⟩ : ∃ q : Int32, x4 + 6 = q := ⟨_, rfl⟩
  have zv49 : v49.toInt = (x4.toInt + 6) := by rw [← ev49]; exact (xz_add (X := x4.toInt) (Y := 6) rfl (by decide) (by omega) (by omega)).trans (by omega)
  refine xi_iinc (pc' := 1504) (x := x4) (v := v49) (lv' := [(4, .int v49), (3, .ref 167), (2, .ref 115), (1, .ref 0), (0, .ref 1000000)]) kc_195_1501 rfl rfl ev49 rfl (xm_lt ml_195 rfl) ?_
  refine xi_goto (pc' := 23) kc_195_1504 rfl ?_
  exact kk v49 hh27 (by omega) K29
set_option maxHeartbeats 8000000 in
theorem lc_23 {J : xe_J} {ov : List (List Int32)} (hJ : ∀ d mj as h, mj ≠ xe_loff → J d mj as h = none) (hov1 : ov[1]? = some [10, 0, 0, 0, 0, 0]) (hov2 : ov[2]? = some [99, 30, 50, 50, 1, 99999]) {xs : List Int32} (hov0 : ov[0]? = some xs) {Q : Option Value → xe_H → Prop} {h : xe_H} {x4 : Int32} (hi0 : 0 ≤ x4.toInt) (hi1 : x4.toInt + 6 ≤ xs.length) (hi2 : x4.toInt ≤ 3066) (T : xt h) (kk : ∀ (i : Int32) (h' : xe_H), i.toInt = x4.toInt + 6 → xk [(13, 0), (122, 0), (16, 0), (19, 0), (22, 0), (25, 0), (28, 0)] h h' → xw J ov 100 195 (23, [(4, .int i), (3, .ref 167), (2, .ref 115), (1, .ref 0), (0, .ref 1000000)], [], h') Q) : xw J ov 100 195 (1022, [(4, .int x4), (3, .ref 167), (2, .ref 115), (1, .ref 0), (0, .ref 1000000)], [], h) Q := by
  have K : xk [(13, 0), (122, 0), (16, 0), (19, 0), (22, 0), (25, 0), (28, 0)] h h := xk_re T
  refine xi_aload_n (pc' := 1023) (x := 0) kc_195_1022 rfl rfl ?_
  refine xi_aload_n (pc' := 1024) (x := 1000000) kc_195_1023 rfl rfl ?_
  refine xi_iload (pc' := 1026) (x := x4) kc_195_1024 rfl rfl ?_
  refine xi_iconst (pc' := 1027) (v := 1) kc_195_1026 rfl rfl ?_
  obtain ⟨v1, ev1⟩ : ∃ q : Int32, x4 + 1 = q := ⟨_, rfl⟩
  have zv1 : v1.toInt = (x4.toInt + 1) := by rw [← ev1]; exact (xz_add (X := x4.toInt) (Y := 1) rfl (by decide) (by omega) (by omega)).trans (by omega)
  refine xi_iadd (pc' := 1028) (v := v1) kc_195_1027 rfl ev1 ?_
  obtain ⟨a2, ea2⟩ : ∃ q : Int32, xs.getD (Int32.toNatClampNeg v1) 0 = q := ⟨_, rfl⟩
  have ra2 := xc_rng a2
  refine xi_ialoadO (pc' := 1029) (v := a2) kc_195_1028 rfl (by decide) hov0 (xi_in (by omega) (by omega)) ea2 ?_
  refine xi_aload_n (pc' := 1030) (x := 1000000) kc_195_1029 rfl rfl ?_
  refine xi_iload (pc' := 1032) (x := x4) kc_195_1030 rfl rfl ?_
  refine xi_iconst (pc' := 1033) (v := 2) kc_195_1032 rfl rfl ?_
  obtain ⟨v3, ev3⟩ : ∃ q : Int32, x4 + 2 = q := ⟨_, rfl⟩
  have zv3 : v3.toInt = (x4.toInt + 2) := by rw [← ev3]; exact (xz_add (X := x4.toInt) (Y := 2) rfl (by decide) (by omega) (by omega)).trans (by omega)
  refine xi_iadd (pc' := 1034) (v := v3) kc_195_1033 rfl ev3 ?_
  obtain ⟨a4, ea4⟩ : ∃ q : Int32, xs.getD (Int32.toNatClampNeg v3) 0 = q := ⟨_, rfl⟩
  have ra4 := xc_rng a4
  refine xi_ialoadO (pc' := 1035) (v := a4) kc_195_1034 rfl (by decide) hov0 (xi_in (by omega) (by omega)) ea4 ?_
  refine xi_aload_n (pc' := 1036) (x := 1000000) kc_195_1035 rfl rfl ?_
  refine xi_iload (pc' := 1038) (x := x4) kc_195_1036 rfl rfl ?_
  refine xi_iconst (pc' := 1039) (v := 3) kc_195_1038 rfl rfl ?_
  obtain ⟨v5, ev5⟩ : ∃ q : Int32, x4 + 3 = q := ⟨_, rfl⟩
  have zv5 : v5.toInt = (x4.toInt + 3) := by rw [← ev5]; exact (xz_add (X := x4.toInt) (Y := 3) rfl (by decide) (by omega) (by omega)).trans (by omega)
  refine xi_iadd (pc' := 1040) (v := v5) kc_195_1039 rfl ev5 ?_
  obtain ⟨a6, ea6⟩ : ∃ q : Int32, xs.getD (Int32.toNatClampNeg v5) 0 = q := ⟨_, rfl⟩
  have ra6 := xc_rng a6
  refine xi_ialoadO (pc' := 1041) (v := a6) kc_195_1040 rfl (by decide) hov0 (xi_in (by omega) (by omega)) ea6 ?_
  refine xi_aload_n (pc' := 1042) (x := 1000000) kc_195_1041 rfl rfl ?_
  refine xi_iload (pc' := 1044) (x := x4) kc_195_1042 rfl rfl ?_
  refine xi_iconst (pc' := 1045) (v := 4) kc_195_1044 rfl rfl ?_
  obtain ⟨v7, ev7⟩ : ∃ q : Int32, x4 + 4 = q := ⟨_, rfl⟩
  have zv7 : v7.toInt = (x4.toInt + 4) := by rw [← ev7]; exact (xz_add (X := x4.toInt) (Y := 4) rfl (by decide) (by omega) (by omega)).trans (by omega)
  refine xi_iadd (pc' := 1046) (v := v7) kc_195_1045 rfl ev7 ?_
  obtain ⟨a8, ea8⟩ : ∃ q : Int32, xs.getD (Int32.toNatClampNeg v7) 0 = q := ⟨_, rfl⟩
  have ra8 := xc_rng a8
  refine xi_ialoadO (pc' := 1047) (v := a8) kc_195_1046 rfl (by decide) hov0 (xi_in (by omega) (by omega)) ea8 ?_
  refine xi_aload_n (pc' := 1048) (x := 1000000) kc_195_1047 rfl rfl ?_
  refine xi_iload (pc' := 1050) (x := x4) kc_195_1048 rfl rfl ?_
  refine xi_iconst (pc' := 1051) (v := 5) kc_195_1050 rfl rfl ?_
  obtain ⟨v9, ev9⟩ : ∃ q : Int32, x4 + 5 = q := ⟨_, rfl⟩
  have zv9 : v9.toInt = (x4.toInt + 5) := by rw [← ev9]; exact (xz_add (X := x4.toInt) (Y := 5) rfl (by decide) (by omega) (by omega)).trans (by omega)
  refine xi_iadd (pc' := 1052) (v := v9) kc_195_1051 rfl ev9 ?_
  obtain ⟨a10, ea10⟩ : ∃ q : Int32, xs.getD (Int32.toNatClampNeg v9) 0 = q := ⟨_, rfl⟩
  have ra10 := xc_rng a10
  refine xi_ialoadO (pc' := 1053) (v := a10) kc_195_1052 rfl (by decide) hov0 (xi_in (by omega) (by omega)) ea10 ?_
  obtain ⟨u11, u12, bu11, bu12, A13⟩ := xq_0 K.1
  refine xi_virtual (mj := 163) (as := [.int a2, .int a4, .int a6, .int a8, .int a10]) (st1 := []) (lv0 := [(0, .ref 0), (1, .int a2), (2, .int a4), (3, .int a6), (4, .int a8), (5, .int a10)]) kc_195_1053 rfl rfl rfl rfl rfl A13 (Nat.le_of_ble_eq_true rfl) (hJ _ _ _ _ (by decide)) (xm_le ml_163 rfl) rfl ?_
  refine mt_163_0 hJ hov1 hov2 (d := 97) (x1 := a2) (x2 := a4) (x3 := a6) (x4 := a8) (x5 := a10) K.1 (fun r14 hh15 br14 K16 => ?_)
  have K17 := xk_tr K K16 rfl
  obtain ⟨u18, u19, bu18, bu19, A20⟩ := xq_0 K17.1
  have e21 : u12 = u19 := xk_eqi (q := 9) K16 rfl A13 A20 rfl rfl
  subst e21
  show xw J ov 100 195 (1056, [(4, .int x4), (3, .ref 167), (2, .ref 115), (1, .ref 0), (0, .ref 1000000)], [.int r14], hh15) _
  refine xi_pop (pc' := 1057) kc_195_1056 rfl rfl ?_
  refine xi_aload_n (pc' := 1058) (x := 115) kc_195_1057 rfl rfl ?_
  refine xi_aload_n (pc' := 1059) (x := 1000000) kc_195_1058 rfl rfl ?_
  refine xi_iload (pc' := 1061) (x := x4) kc_195_1059 rfl rfl ?_
  refine xi_iconst (pc' := 1062) (v := 1) kc_195_1061 rfl rfl ?_
  refine xi_iadd (pc' := 1063) (v := v1) kc_195_1062 rfl ev1 ?_
  refine xi_ialoadO (pc' := 1064) (v := a2) kc_195_1063 rfl (by decide) hov0 (xi_in (by omega) (by omega)) ea2 ?_
  refine xi_aload_n (pc' := 1065) (x := 1000000) kc_195_1064 rfl rfl ?_
  refine xi_iload (pc' := 1067) (x := x4) kc_195_1065 rfl rfl ?_
  refine xi_iconst (pc' := 1068) (v := 2) kc_195_1067 rfl rfl ?_
  refine xi_iadd (pc' := 1069) (v := v3) kc_195_1068 rfl ev3 ?_
  refine xi_ialoadO (pc' := 1070) (v := a4) kc_195_1069 rfl (by decide) hov0 (xi_in (by omega) (by omega)) ea4 ?_
  refine xi_aload_n (pc' := 1071) (x := 1000000) kc_195_1070 rfl rfl ?_
  refine xi_iload (pc' := 1073) (x := x4) kc_195_1071 rfl rfl ?_
  refine xi_iconst (pc' := 1074) (v := 3) kc_195_1073 rfl rfl ?_
  refine xi_iadd (pc' := 1075) (v := v5) kc_195_1074 rfl ev5 ?_
  refine xi_ialoadO (pc' := 1076) (v := a6) kc_195_1075 rfl (by decide) hov0 (xi_in (by omega) (by omega)) ea6 ?_
  refine xi_aload_n (pc' := 1077) (x := 1000000) kc_195_1076 rfl rfl ?_
  refine xi_iload (pc' := 1079) (x := x4) kc_195_1077 rfl rfl ?_
  refine xi_iconst (pc' := 1080) (v := 4) kc_195_1079 rfl rfl ?_
  refine xi_iadd (pc' := 1081) (v := v7) kc_195_1080 rfl ev7 ?_
  refine xi_ialoadO (pc' := 1082) (v := a8) kc_195_1081 rfl (by decide) hov0 (xi_in (by omega) (by omega)) ea8 ?_
  refine xi_aload_n (pc' := 1083) (x := 1000000) kc_195_1082 rfl rfl ?_
  refine xi_iload (pc' := 1085) (x := x4) kc_195_1083 rfl rfl ?_
  refine xi_iconst (pc' := 1086) (v := 5) kc_195_1085 rfl rfl ?_
  refine xi_iadd (pc' := 1087) (v := v9) kc_195_1086 rfl ev9 ?_
  refine xi_ialoadO (pc' := 1088) (v := a10) kc_195_1087 rfl (by decide) hov0 (xi_in (by omega) (by omega)) ea10 ?_
  obtain ⟨u22, u23, u24, u25, u26, u27, u28, u29, u30, u31, u32, u33, u34, bu22, bu23, bu24, bu25, bu26, bu27, bu28, bu29, bu30, bu31, bu32, bu33, bu34, A35⟩ := xq_115 K17.1
  refine xi_virtual (mj := 61) (as := [.int a2, .int a4, .int a6, .int a8, .int a10]) (st1 := []) (lv0 := [(0, .ref 115), (1, .int a2), (2, .int a4), (3, .int a6), (4, .int a8), (5, .int a10)]) kc_195_1088 rfl rfl rfl rfl rfl A35 (Nat.le_of_ble_eq_true rfl) (hJ _ _ _ _ (by decide)) (xm_le ml_61 rfl) rfl ?_
  refine mt_61_0 hJ hov1 hov2 (d := 97) (x1 := a2) (x2 := a4) (x3 := a6) (x4 := a8) (x5 := a10) K17.1 (fun r36 hh37 br36 K38 => ?_)
  have K39 := xk_tr K17 K38 rfl
  obtain ⟨u40, u41, bu40, bu41, A42⟩ := xq_0 K39.1
  have e43 : u12 = u41 := xk_eqi (q := 9) K38 rfl A20 A42 rfl rfl
  subst e43
  obtain ⟨u44, u45, u46, u47, u48, u49, u50, u51, u52, u53, u54, u55, u56, bu44, bu45, bu46, bu47, bu48, bu49, bu50, bu51, bu52, bu53, bu54, bu55, bu56, A57⟩ := xq_115 K39.1
  have e58 : u23 = u45 := xk_eqi (q := 1) K38 rfl A35 A57 rfl rfl
  subst e58
  show xw J ov 100 195 (1091, [(4, .int x4), (3, .ref 167), (2, .ref 115), (1, .ref 0), (0, .ref 1000000)], [.int r36], hh37) _
  refine xi_pop (pc' := 1092) kc_195_1091 rfl rfl ?_
  refine xi_goto (pc' := 1501) kc_195_1092 rfl ?_
  obtain ⟨v59, ev59⟩ : ∃ q : Int32, x4 + 6 = q := ⟨_, rfl⟩
  have zv59 : v59.toInt = (x4.toInt + 6) := by rw [← ev59]; exact (xz_add (X := x4.toInt) (Y := 6) rfl (by decide) (by omega) (by omega)).trans (by omega)
  refine xi_iinc (pc' := 1504) (x := x4) (v := v59) (lv' := [(4, .int v59), (3, .ref 167), (2, .ref 115), (1, .ref 0), (0, .ref 1000000)]) kc_195_1501 rfl rfl ev59 rfl (xm_lt ml_195 rfl) ?_
  refine xi_goto (pc' := 23) kc_195_1504 rfl ?_
  exact kk v59 hh37 (by omega) K39
set_option maxHeartbeats 8000000 in
theorem lc_24 {J : xe_J} {ov : List (List Int32)} (hJ : ∀ d mj as h, mj ≠ xe_loff → J d mj as h = none) (hov1 : ov[1]? = some [10, 0, 0, 0, 0, 0]) (hov2 : ov[2]? = some [99, 30, 50, 50, 1, 99999]) {xs : List Int32} (hov0 : ov[0]? = some xs) {Q : Option Value → xe_H → Prop} {h : xe_H} {x4 : Int32} (hi0 : 0 ≤ x4.toInt) (hi1 : x4.toInt + 6 ≤ xs.length) (hi2 : x4.toInt ≤ 3066) (T : xt h) (kk : ∀ (i : Int32) (h' : xe_H), i.toInt = x4.toInt + 6 → xk [(13, 0), (122, 0), (16, 0), (19, 0), (22, 0), (25, 0), (28, 0)] h h' → xw J ov 100 195 (23, [(4, .int i), (3, .ref 167), (2, .ref 115), (1, .ref 0), (0, .ref 1000000)], [], h') Q) : xw J ov 100 195 (1095, [(4, .int x4), (3, .ref 167), (2, .ref 115), (1, .ref 0), (0, .ref 1000000)], [], h) Q := by
  have K : xk [(13, 0), (122, 0), (16, 0), (19, 0), (22, 0), (25, 0), (28, 0)] h h := xk_re T
  refine xi_aload_n (pc' := 1096) (x := 0) kc_195_1095 rfl rfl ?_
  refine xi_aload_n (pc' := 1097) (x := 1000000) kc_195_1096 rfl rfl ?_
  refine xi_iload (pc' := 1099) (x := x4) kc_195_1097 rfl rfl ?_
  refine xi_iconst (pc' := 1100) (v := 1) kc_195_1099 rfl rfl ?_
  obtain ⟨v1, ev1⟩ : ∃ q : Int32, x4 + 1 = q := ⟨_, rfl⟩
  have zv1 : v1.toInt = (x4.toInt + 1) := by rw [← ev1]; exact (xz_add (X := x4.toInt) (Y := 1) rfl (by decide) (by omega) (by omega)).trans (by omega)
  refine xi_iadd (pc' := 1101) (v := v1) kc_195_1100 rfl ev1 ?_
  obtain ⟨a2, ea2⟩ : ∃ q : Int32, xs.getD (Int32.toNatClampNeg v1) 0 = q := ⟨_, rfl⟩
  have ra2 := xc_rng a2
  refine xi_ialoadO (pc' := 1102) (v := a2) kc_195_1101 rfl (by decide) hov0 (xi_in (by omega) (by omega)) ea2 ?_
  refine xi_aload_n (pc' := 1103) (x := 1000000) kc_195_1102 rfl rfl ?_
  refine xi_iload (pc' := 1105) (x := x4) kc_195_1103 rfl rfl ?_
  refine xi_iconst (pc' := 1106) (v := 2) kc_195_1105 rfl rfl ?_
  obtain ⟨v3, ev3⟩ : ∃ q : Int32, x4 + 2 = q := ⟨_, rfl⟩
  have zv3 : v3.toInt = (x4.toInt + 2) := by rw [← ev3]; exact (xz_add (X := x4.toInt) (Y := 2) rfl (by decide) (by omega) (by omega)).trans (by omega)
  refine xi_iadd (pc' := 1107) (v := v3) kc_195_1106 rfl ev3 ?_
  obtain ⟨a4, ea4⟩ : ∃ q : Int32, xs.getD (Int32.toNatClampNeg v3) 0 = q := ⟨_, rfl⟩
  have ra4 := xc_rng a4
  refine xi_ialoadO (pc' := 1108) (v := a4) kc_195_1107 rfl (by decide) hov0 (xi_in (by omega) (by omega)) ea4 ?_
  obtain ⟨u5, u6, bu5, bu6, A7⟩ := xq_0 K.1
  refine xi_virtual (mj := 165) (as := [.int a2, .int a4]) (st1 := []) (lv0 := [(0, .ref 0), (1, .int a2), (2, .int a4)]) kc_195_1108 rfl rfl rfl rfl rfl A7 (Nat.le_of_ble_eq_true rfl) (hJ _ _ _ _ (by decide)) (xm_le ml_165 rfl) rfl ?_
  refine mt_165_0 hJ hov1 hov2 (d := 97) (x1 := a2) (x2 := a4) K.1 (fun r8 hh9 K10 => ?_)
  have br8 := xc_rng r8
  have K11 := xk_tr K K10 rfl
  obtain ⟨u12, u13, bu12, bu13, A14⟩ := xq_0 K11.1
  have e15 : u6 = u13 := xk_eqi (q := 9) K10 rfl A7 A14 rfl rfl
  subst e15
  show xw J ov 100 195 (1111, [(4, .int x4), (3, .ref 167), (2, .ref 115), (1, .ref 0), (0, .ref 1000000)], [.int r8], hh9) _
  refine xi_pop (pc' := 1112) kc_195_1111 rfl rfl ?_
  refine xi_aload_n (pc' := 1113) (x := 115) kc_195_1112 rfl rfl ?_
  refine xi_aload_n (pc' := 1114) (x := 1000000) kc_195_1113 rfl rfl ?_
  refine xi_iload (pc' := 1116) (x := x4) kc_195_1114 rfl rfl ?_
  refine xi_iconst (pc' := 1117) (v := 1) kc_195_1116 rfl rfl ?_
  refine xi_iadd (pc' := 1118) (v := v1) kc_195_1117 rfl ev1 ?_
  refine xi_ialoadO (pc' := 1119) (v := a2) kc_195_1118 rfl (by decide) hov0 (xi_in (by omega) (by omega)) ea2 ?_
  refine xi_aload_n (pc' := 1120) (x := 1000000) kc_195_1119 rfl rfl ?_
  refine xi_iload (pc' := 1122) (x := x4) kc_195_1120 rfl rfl ?_
  refine xi_iconst (pc' := 1123) (v := 2) kc_195_1122 rfl rfl ?_
  refine xi_iadd (pc' := 1124) (v := v3) kc_195_1123 rfl ev3 ?_
  refine xi_ialoadO (pc' := 1125) (v := a4) kc_195_1124 rfl (by decide) hov0 (xi_in (by omega) (by omega)) ea4 ?_
  obtain ⟨u16, u17, u18, u19, u20, u21, u22, u23, u24, u25, u26, u27, u28, bu16, bu17, bu18, bu19, bu20, bu21, bu22, bu23, bu24, bu25, bu26, bu27, bu28, A29⟩ := xq_115 K11.1
  refine xi_virtual (mj := 62) (as := [.int a2, .int a4]) (st1 := []) (lv0 := [(0, .ref 115), (1, .int a2), (2, .int a4)]) kc_195_1125 rfl rfl rfl rfl rfl A29 (Nat.le_of_ble_eq_true rfl) (hJ _ _ _ _ (by decide)) (xm_le ml_62 rfl) rfl ?_
  refine mt_62_0 hJ hov1 hov2 (d := 97) (x1 := a2) (x2 := a4) K11.1 (fun r30 hh31 K32 => ?_)
  have br30 := xc_rng r30
  have K33 := xk_tr K11 K32 rfl
  obtain ⟨u34, u35, bu34, bu35, A36⟩ := xq_0 K33.1
  have e37 : u6 = u35 := xk_eqi (q := 9) K32 rfl A14 A36 rfl rfl
  subst e37
  obtain ⟨u38, u39, u40, u41, u42, u43, u44, u45, u46, u47, u48, u49, u50, bu38, bu39, bu40, bu41, bu42, bu43, bu44, bu45, bu46, bu47, bu48, bu49, bu50, A51⟩ := xq_115 K33.1
  have e52 : u17 = u39 := xk_eqi (q := 1) K32 rfl A29 A51 rfl rfl
  subst e52
  show xw J ov 100 195 (1128, [(4, .int x4), (3, .ref 167), (2, .ref 115), (1, .ref 0), (0, .ref 1000000)], [.int r30], hh31) _
  refine xi_pop (pc' := 1129) kc_195_1128 rfl rfl ?_
  refine xi_goto (pc' := 1501) kc_195_1129 rfl ?_
  obtain ⟨v53, ev53⟩ : ∃ q : Int32, x4 + 6 = q := ⟨_, rfl⟩
  have zv53 : v53.toInt = (x4.toInt + 6) := by rw [← ev53]; exact (xz_add (X := x4.toInt) (Y := 6) rfl (by decide) (by omega) (by omega)).trans (by omega)
  refine xi_iinc (pc' := 1504) (x := x4) (v := v53) (lv' := [(4, .int v53), (3, .ref 167), (2, .ref 115), (1, .ref 0), (0, .ref 1000000)]) kc_195_1501 rfl rfl ev53 rfl (xm_lt ml_195 rfl) ?_
  refine xi_goto (pc' := 23) kc_195_1504 rfl ?_
  exact kk v53 hh31 (by omega) K33
set_option maxHeartbeats 8000000 in
theorem lc_25 {J : xe_J} {ov : List (List Int32)} (hJ : ∀ d mj as h, mj ≠ xe_loff → J d mj as h = none) (hov1 : ov[1]? = some [10, 0, 0, 0, 0, 0]) (hov2 : ov[2]? = some [99, 30, 50, 50, 1, 99999]) {xs : List Int32} (hov0 : ov[0]? = some xs) {Q : Option Value → xe_H → Prop} {h : xe_H} {x4 : Int32} (hi0 : 0 ≤ x4.toInt) (hi1 : x4.toInt + 6 ≤ xs.length) (hi2 : x4.toInt ≤ 3066) (T : xt h) (kk : ∀ (i : Int32) (h' : xe_H), i.toInt = x4.toInt + 6 → xk [(13, 0), (122, 0), (16, 0), (19, 0), (22, 0), (25, 0), (28, 0)] h h' → xw J ov 100 195 (23, [(4, .int i), (3, .ref 167), (2, .ref 115), (1, .ref 0), (0, .ref 1000000)], [], h') Q) : xw J ov 100 195 (1132, [(4, .int x4), (3, .ref 167), (2, .ref 115), (1, .ref 0), (0, .ref 1000000)], [], h) Q := by
  have K : xk [(13, 0), (122, 0), (16, 0), (19, 0), (22, 0), (25, 0), (28, 0)] h h := xk_re T
  refine xi_aload_n (pc' := 1133) (x := 0) kc_195_1132 rfl rfl ?_
  refine xi_aload_n (pc' := 1134) (x := 1000000) kc_195_1133 rfl rfl ?_
  refine xi_iload (pc' := 1136) (x := x4) kc_195_1134 rfl rfl ?_
  refine xi_iconst (pc' := 1137) (v := 1) kc_195_1136 rfl rfl ?_
  obtain ⟨v1, ev1⟩ : ∃ q : Int32, x4 + 1 = q := ⟨_, rfl⟩
  have zv1 : v1.toInt = (x4.toInt + 1) := by rw [← ev1]; exact (xz_add (X := x4.toInt) (Y := 1) rfl (by decide) (by omega) (by omega)).trans (by omega)
  refine xi_iadd (pc' := 1138) (v := v1) kc_195_1137 rfl ev1 ?_
  obtain ⟨a2, ea2⟩ : ∃ q : Int32, xs.getD (Int32.toNatClampNeg v1) 0 = q := ⟨_, rfl⟩
  have ra2 := xc_rng a2
  refine xi_ialoadO (pc' := 1139) (v := a2) kc_195_1138 rfl (by decide) hov0 (xi_in (by omega) (by omega)) ea2 ?_
  refine xi_aload_n (pc' := 1140) (x := 1000000) kc_195_1139 rfl rfl ?_
  refine xi_iload (pc' := 1142) (x := x4) kc_195_1140 rfl rfl ?_
  refine xi_iconst (pc' := 1143) (v := 2) kc_195_1142 rfl rfl ?_
  obtain ⟨v3, ev3⟩ : ∃ q : Int32, x4 + 2 = q := ⟨_, rfl⟩
  have zv3 : v3.toInt = (x4.toInt + 2) := by rw [← ev3]; exact (xz_add (X := x4.toInt) (Y := 2) rfl (by decide) (by omega) (by omega)).trans (by omega)
  refine xi_iadd (pc' := 1144) (v := v3) kc_195_1143 rfl ev3 ?_
  obtain ⟨a4, ea4⟩ : ∃ q : Int32, xs.getD (Int32.toNatClampNeg v3) 0 = q := ⟨_, rfl⟩
  have ra4 := xc_rng a4
  refine xi_ialoadO (pc' := 1145) (v := a4) kc_195_1144 rfl (by decide) hov0 (xi_in (by omega) (by omega)) ea4 ?_
  refine xi_aload_n (pc' := 1146) (x := 1000000) kc_195_1145 rfl rfl ?_
  refine xi_iload (pc' := 1148) (x := x4) kc_195_1146 rfl rfl ?_
  refine xi_iconst (pc' := 1149) (v := 3) kc_195_1148 rfl rfl ?_
  obtain ⟨v5, ev5⟩ : ∃ q : Int32, x4 + 3 = q := ⟨_, rfl⟩
  have zv5 : v5.toInt = (x4.toInt + 3) := by rw [← ev5]; exact (xz_add (X := x4.toInt) (Y := 3) rfl (by decide) (by omega) (by omega)).trans (by omega)
  refine xi_iadd (pc' := 1150) (v := v5) kc_195_1149 rfl ev5 ?_
  obtain ⟨a6, ea6⟩ : ∃ q : Int32, xs.getD (Int32.toNatClampNeg v5) 0 = q := ⟨_, rfl⟩
  have ra6 := xc_rng a6
  refine xi_ialoadO (pc' := 1151) (v := a6) kc_195_1150 rfl (by decide) hov0 (xi_in (by omega) (by omega)) ea6 ?_
  refine xi_aload_n (pc' := 1152) (x := 1000000) kc_195_1151 rfl rfl ?_
  refine xi_iload (pc' := 1154) (x := x4) kc_195_1152 rfl rfl ?_
  refine xi_iconst (pc' := 1155) (v := 4) kc_195_1154 rfl rfl ?_
  obtain ⟨v7, ev7⟩ : ∃ q : Int32, x4 + 4 = q := ⟨_, rfl⟩
  have zv7 : v7.toInt = (x4.toInt + 4) := by rw [← ev7]; exact (xz_add (X := x4.toInt) (Y := 4) rfl (by decide) (by omega) (by omega)).trans (by omega)
  refine xi_iadd (pc' := 1156) (v := v7) kc_195_1155 rfl ev7 ?_
  obtain ⟨a8, ea8⟩ : ∃ q : Int32, xs.getD (Int32.toNatClampNeg v7) 0 = q := ⟨_, rfl⟩
  have ra8 := xc_rng a8
  refine xi_ialoadO (pc' := 1157) (v := a8) kc_195_1156 rfl (by decide) hov0 (xi_in (by omega) (by omega)) ea8 ?_
  obtain ⟨u9, u10, bu9, bu10, A11⟩ := xq_0 K.1
  refine xi_virtual (mj := 167) (as := [.int a2, .int a4, .int a6, .int a8]) (st1 := []) (lv0 := [(0, .ref 0), (1, .int a2), (2, .int a4), (3, .int a6), (4, .int a8)]) kc_195_1157 rfl rfl rfl rfl rfl A11 (Nat.le_of_ble_eq_true rfl) (hJ _ _ _ _ (by decide)) (xm_le ml_167 rfl) rfl ?_
  refine mt_167_0 hJ hov1 hov2 (d := 98) (x1 := a2) (x2 := a4) (x3 := a6) (x4 := a8) K.1 (fun r12 hh13 br12 K14 => ?_)
  have K15 := xk_tr K K14 rfl
  obtain ⟨u16, u17, bu16, bu17, A18⟩ := xq_0 K15.1
  have e19 : u10 = u17 := xk_eqi (q := 9) K14 rfl A11 A18 rfl rfl
  subst e19
  show xw J ov 100 195 (1160, [(4, .int x4), (3, .ref 167), (2, .ref 115), (1, .ref 0), (0, .ref 1000000)], [.int r12], hh13) _
  refine xi_pop (pc' := 1161) kc_195_1160 rfl rfl ?_
  refine xi_aload_n (pc' := 1162) (x := 115) kc_195_1161 rfl rfl ?_
  refine xi_aload_n (pc' := 1163) (x := 1000000) kc_195_1162 rfl rfl ?_
  refine xi_iload (pc' := 1165) (x := x4) kc_195_1163 rfl rfl ?_
  refine xi_iconst (pc' := 1166) (v := 1) kc_195_1165 rfl rfl ?_
  refine xi_iadd (pc' := 1167) (v := v1) kc_195_1166 rfl ev1 ?_
  refine xi_ialoadO (pc' := 1168) (v := a2) kc_195_1167 rfl (by decide) hov0 (xi_in (by omega) (by omega)) ea2 ?_
  refine xi_aload_n (pc' := 1169) (x := 1000000) kc_195_1168 rfl rfl ?_
  refine xi_iload (pc' := 1171) (x := x4) kc_195_1169 rfl rfl ?_
  refine xi_iconst (pc' := 1172) (v := 2) kc_195_1171 rfl rfl ?_
  refine xi_iadd (pc' := 1173) (v := v3) kc_195_1172 rfl ev3 ?_
  refine xi_ialoadO (pc' := 1174) (v := a4) kc_195_1173 rfl (by decide) hov0 (xi_in (by omega) (by omega)) ea4 ?_
  refine xi_aload_n (pc' := 1175) (x := 1000000) kc_195_1174 rfl rfl ?_
  refine xi_iload (pc' := 1177) (x := x4) kc_195_1175 rfl rfl ?_
  refine xi_iconst (pc' := 1178) (v := 3) kc_195_1177 rfl rfl ?_
  refine xi_iadd (pc' := 1179) (v := v5) kc_195_1178 rfl ev5 ?_
  refine xi_ialoadO (pc' := 1180) (v := a6) kc_195_1179 rfl (by decide) hov0 (xi_in (by omega) (by omega)) ea6 ?_
  refine xi_aload_n (pc' := 1181) (x := 1000000) kc_195_1180 rfl rfl ?_
  refine xi_iload (pc' := 1183) (x := x4) kc_195_1181 rfl rfl ?_
  refine xi_iconst (pc' := 1184) (v := 4) kc_195_1183 rfl rfl ?_
  refine xi_iadd (pc' := 1185) (v := v7) kc_195_1184 rfl ev7 ?_
  refine xi_ialoadO (pc' := 1186) (v := a8) kc_195_1185 rfl (by decide) hov0 (xi_in (by omega) (by omega)) ea8 ?_
  obtain ⟨u20, u21, u22, u23, u24, u25, u26, u27, u28, u29, u30, u31, u32, bu20, bu21, bu22, bu23, bu24, bu25, bu26, bu27, bu28, bu29, bu30, bu31, bu32, A33⟩ := xq_115 K15.1
  refine xi_virtual (mj := 64) (as := [.int a2, .int a4, .int a6, .int a8]) (st1 := []) (lv0 := [(0, .ref 115), (1, .int a2), (2, .int a4), (3, .int a6), (4, .int a8)]) kc_195_1186 rfl rfl rfl rfl rfl A33 (Nat.le_of_ble_eq_true rfl) (hJ _ _ _ _ (by decide)) (xm_le ml_64 rfl) rfl ?_
  refine mt_64_0 hJ hov1 hov2 (d := 98) (x1 := a2) (x2 := a4) (x3 := a6) (x4 := a8) K15.1 (fun r34 hh35 br34 K36 => ?_)
  have K37 := xk_tr K15 K36 rfl
  obtain ⟨u38, u39, bu38, bu39, A40⟩ := xq_0 K37.1
  have e41 : u10 = u39 := xk_eqi (q := 9) K36 rfl A18 A40 rfl rfl
  subst e41
  obtain ⟨u42, u43, u44, u45, u46, u47, u48, u49, u50, u51, u52, u53, u54, bu42, bu43, bu44, bu45, bu46, bu47, bu48, bu49, bu50, bu51, bu52, bu53, bu54, A55⟩ := xq_115 K37.1
  have e56 : u21 = u43 := xk_eqi (q := 1) K36 rfl A33 A55 rfl rfl
  subst e56
  show xw J ov 100 195 (1189, [(4, .int x4), (3, .ref 167), (2, .ref 115), (1, .ref 0), (0, .ref 1000000)], [.int r34], hh35) _
  refine xi_pop (pc' := 1190) kc_195_1189 rfl rfl ?_
  refine xi_goto (pc' := 1501) kc_195_1190 rfl ?_
  obtain ⟨v57, ev57⟩ : ∃ q : Int32, x4 + 6 = q := ⟨_, rfl⟩
  have zv57 : v57.toInt = (x4.toInt + 6) := by rw [← ev57]; exact (xz_add (X := x4.toInt) (Y := 6) rfl (by decide) (by omega) (by omega)).trans (by omega)
  refine xi_iinc (pc' := 1504) (x := x4) (v := v57) (lv' := [(4, .int v57), (3, .ref 167), (2, .ref 115), (1, .ref 0), (0, .ref 1000000)]) kc_195_1501 rfl rfl ev57 rfl (xm_lt ml_195 rfl) ?_
  refine xi_goto (pc' := 23) kc_195_1504 rfl ?_
  exact kk v57 hh35 (by omega) K37
set_option maxHeartbeats 8000000 in
theorem lc_26 {J : xe_J} {ov : List (List Int32)} (hJ : ∀ d mj as h, mj ≠ xe_loff → J d mj as h = none) (hov1 : ov[1]? = some [10, 0, 0, 0, 0, 0]) (hov2 : ov[2]? = some [99, 30, 50, 50, 1, 99999]) {xs : List Int32} (hov0 : ov[0]? = some xs) {Q : Option Value → xe_H → Prop} {h : xe_H} {x4 : Int32} (hi0 : 0 ≤ x4.toInt) (hi1 : x4.toInt + 6 ≤ xs.length) (hi2 : x4.toInt ≤ 3066) (T : xt h) (kk : ∀ (i : Int32) (h' : xe_H), i.toInt = x4.toInt + 6 → xk [(13, 0), (122, 0), (16, 0), (19, 0), (22, 0), (25, 0), (28, 0)] h h' → xw J ov 100 195 (23, [(4, .int i), (3, .ref 167), (2, .ref 115), (1, .ref 0), (0, .ref 1000000)], [], h') Q) : xw J ov 100 195 (1193, [(4, .int x4), (3, .ref 167), (2, .ref 115), (1, .ref 0), (0, .ref 1000000)], [], h) Q := by
  have K : xk [(13, 0), (122, 0), (16, 0), (19, 0), (22, 0), (25, 0), (28, 0)] h h := xk_re T
  refine xi_aload_n (pc' := 1194) (x := 0) kc_195_1193 rfl rfl ?_
  obtain ⟨u1, u2, bu1, bu2, A3⟩ := xq_0 K.1
  refine xi_virtual (mj := 169) (as := []) (st1 := []) (lv0 := [(0, .ref 0)]) kc_195_1194 rfl rfl rfl rfl rfl A3 (Nat.le_of_ble_eq_true rfl) (hJ _ _ _ _ (by decide)) (xm_le ml_169 rfl) rfl ?_
  refine mt_169_0 hJ hov1 hov2 (d := 95)  K.1 (fun r4 hh5 K6 => ?_)
  have br4 := xc_rng r4
  have K7 := xk_tr K K6 rfl
  obtain ⟨u8, u9, bu8, bu9, A10⟩ := xq_0 K7.1
  have e11 : u2 = u9 := xk_eqi (q := 9) K6 rfl A3 A10 rfl rfl
  subst e11
  show xw J ov 100 195 (1197, [(4, .int x4), (3, .ref 167), (2, .ref 115), (1, .ref 0), (0, .ref 1000000)], [.int r4], hh5) _
  refine xi_pop (pc' := 1198) kc_195_1197 rfl rfl ?_
  refine xi_aload_n (pc' := 1199) (x := 115) kc_195_1198 rfl rfl ?_
  obtain ⟨u12, u13, u14, u15, u16, u17, u18, u19, u20, u21, u22, u23, u24, bu12, bu13, bu14, bu15, bu16, bu17, bu18, bu19, bu20, bu21, bu22, bu23, bu24, A25⟩ := xq_115 K7.1
  refine xi_virtual (mj := 65) (as := []) (st1 := []) (lv0 := [(0, .ref 115)]) kc_195_1199 rfl rfl rfl rfl rfl A25 (Nat.le_of_ble_eq_true rfl) (hJ _ _ _ _ (by decide)) (xm_le ml_65 rfl) rfl ?_
  refine mt_65_0 hJ hov1 hov2 (d := 97)  K7.1 (fun r26 hh27 K28 => ?_)
  have br26 := xc_rng r26
  have K29 := xk_tr K7 K28 rfl
  obtain ⟨u30, u31, bu30, bu31, A32⟩ := xq_0 K29.1
  have e33 : u2 = u31 := xk_eqi (q := 9) K28 rfl A10 A32 rfl rfl
  subst e33
  obtain ⟨u34, u35, u36, u37, u38, u39, u40, u41, u42, u43, u44, u45, u46, bu34, bu35, bu36, bu37, bu38, bu39, bu40, bu41, bu42, bu43, bu44, bu45, bu46, A47⟩ := xq_115 K29.1
  have e48 : u13 = u35 := xk_eqi (q := 1) K28 rfl A25 A47 rfl rfl
  subst e48
  show xw J ov 100 195 (1202, [(4, .int x4), (3, .ref 167), (2, .ref 115), (1, .ref 0), (0, .ref 1000000)], [.int r26], hh27) _
  refine xi_pop (pc' := 1203) kc_195_1202 rfl rfl ?_
  refine xi_goto (pc' := 1501) kc_195_1203 rfl ?_
  obtain ⟨v49, ev49⟩ : ∃ q : Int32, x4 + 6 = q := ⟨_, rfl⟩
  have zv49 : v49.toInt = (x4.toInt + 6) := by rw [← ev49]; exact (xz_add (X := x4.toInt) (Y := 6) rfl (by decide) (by omega) (by omega)).trans (by omega)
  refine xi_iinc (pc' := 1504) (x := x4) (v := v49) (lv' := [(4, .int v49), (3, .ref 167), (2, .ref 115), (1, .ref 0), (0, .ref 1000000)]) kc_195_1501 rfl rfl ev49 rfl (xm_lt ml_195 rfl) ?_
  refine xi_goto (pc' := 23) kc_195_1504 rfl ?_
  exact kk v49 hh27 (by omega) K29
set_option maxHeartbeats 8000000 in
theorem lc_27 {J : xe_J} {ov : List (List Int32)} (hJ : ∀ d mj as h, mj ≠ xe_loff → J d mj as h = none) (hov1 : ov[1]? = some [10, 0, 0, 0, 0, 0]) (hov2 : ov[2]? = some [99, 30, 50, 50, 1, 99999]) {xs : List Int32} (hov0 : ov[0]? = some xs) {Q : Option Value → xe_H → Prop} {h : xe_H} {x4 : Int32} (hi0 : 0 ≤ x4.toInt) (hi1 : x4.toInt + 6 ≤ xs.length) (hi2 : x4.toInt ≤ 3066) (T : xt h) (kk : ∀ (i : Int32) (h' : xe_H), i.toInt = x4.toInt + 6 → xk [(13, 0), (122, 0), (16, 0), (19, 0), (22, 0), (25, 0), (28, 0)] h h' → xw J ov 100 195 (23, [(4, .int i), (3, .ref 167), (2, .ref 115), (1, .ref 0), (0, .ref 1000000)], [], h') Q) : xw J ov 100 195 (1206, [(4, .int x4), (3, .ref 167), (2, .ref 115), (1, .ref 0), (0, .ref 1000000)], [], h) Q := by
  have K : xk [(13, 0), (122, 0), (16, 0), (19, 0), (22, 0), (25, 0), (28, 0)] h h := xk_re T
  refine xi_aload_n (pc' := 1207) (x := 0) kc_195_1206 rfl rfl ?_
  refine xi_aload_n (pc' := 1208) (x := 1000000) kc_195_1207 rfl rfl ?_
  refine xi_iload (pc' := 1210) (x := x4) kc_195_1208 rfl rfl ?_
  refine xi_iconst (pc' := 1211) (v := 1) kc_195_1210 rfl rfl ?_
  obtain ⟨v1, ev1⟩ : ∃ q : Int32, x4 + 1 = q := ⟨_, rfl⟩
  have zv1 : v1.toInt = (x4.toInt + 1) := by rw [← ev1]; exact (xz_add (X := x4.toInt) (Y := 1) rfl (by decide) (by omega) (by omega)).trans (by omega)
  refine xi_iadd (pc' := 1212) (v := v1) kc_195_1211 rfl ev1 ?_
  obtain ⟨a2, ea2⟩ : ∃ q : Int32, xs.getD (Int32.toNatClampNeg v1) 0 = q := ⟨_, rfl⟩
  have ra2 := xc_rng a2
  refine xi_ialoadO (pc' := 1213) (v := a2) kc_195_1212 rfl (by decide) hov0 (xi_in (by omega) (by omega)) ea2 ?_
  obtain ⟨u3, u4, bu3, bu4, A5⟩ := xq_0 K.1
  refine xi_virtual (mj := 172) (as := [.int a2]) (st1 := []) (lv0 := [(0, .ref 0), (1, .int a2)]) kc_195_1213 rfl rfl rfl rfl rfl A5 (Nat.le_of_ble_eq_true rfl) (hJ _ _ _ _ (by decide)) (xm_le ml_172 rfl) rfl ?_
  refine mt_172_0 hJ hov1 hov2 (d := 79) (x1 := a2) K.1 (fun r6 hh7 K8 => ?_)
  have br6 := xc_rng r6
  have K9 := xk_tr K K8 rfl
  obtain ⟨u10, u11, bu10, bu11, A12⟩ := xq_0 K9.1
  have e13 : u4 = u11 := xk_eqi (q := 9) K8 rfl A5 A12 rfl rfl
  subst e13
  show xw J ov 100 195 (1216, [(4, .int x4), (3, .ref 167), (2, .ref 115), (1, .ref 0), (0, .ref 1000000)], [.int r6], hh7) _
  refine xi_pop (pc' := 1217) kc_195_1216 rfl rfl ?_
  refine xi_aload_n (pc' := 1218) (x := 115) kc_195_1217 rfl rfl ?_
  refine xi_aload_n (pc' := 1219) (x := 1000000) kc_195_1218 rfl rfl ?_
  refine xi_iload (pc' := 1221) (x := x4) kc_195_1219 rfl rfl ?_
  refine xi_iconst (pc' := 1222) (v := 1) kc_195_1221 rfl rfl ?_
  refine xi_iadd (pc' := 1223) (v := v1) kc_195_1222 rfl ev1 ?_
  refine xi_ialoadO (pc' := 1224) (v := a2) kc_195_1223 rfl (by decide) hov0 (xi_in (by omega) (by omega)) ea2 ?_
  obtain ⟨u14, u15, u16, u17, u18, u19, u20, u21, u22, u23, u24, u25, u26, bu14, bu15, bu16, bu17, bu18, bu19, bu20, bu21, bu22, bu23, bu24, bu25, bu26, A27⟩ := xq_115 K9.1
  refine xi_virtual (mj := 68) (as := [.int a2]) (st1 := []) (lv0 := [(0, .ref 115), (1, .int a2)]) kc_195_1224 rfl rfl rfl rfl rfl A27 (Nat.le_of_ble_eq_true rfl) (hJ _ _ _ _ (by decide)) (xm_le ml_68 rfl) rfl ?_
  refine mt_68_0 hJ hov1 hov2 (d := 97) (x1 := a2) K9.1 (fun r28 hh29 K30 => ?_)
  have br28 := xc_rng r28
  have K31 := xk_tr K9 K30 rfl
  obtain ⟨u32, u33, bu32, bu33, A34⟩ := xq_0 K31.1
  have e35 : u4 = u33 := xk_eqi (q := 9) K30 rfl A12 A34 rfl rfl
  subst e35
  obtain ⟨u36, u37, u38, u39, u40, u41, u42, u43, u44, u45, u46, u47, u48, bu36, bu37, bu38, bu39, bu40, bu41, bu42, bu43, bu44, bu45, bu46, bu47, bu48, A49⟩ := xq_115 K31.1
  have e50 : u15 = u37 := xk_eqi (q := 1) K30 rfl A27 A49 rfl rfl
  subst e50
  show xw J ov 100 195 (1227, [(4, .int x4), (3, .ref 167), (2, .ref 115), (1, .ref 0), (0, .ref 1000000)], [.int r28], hh29) _
  refine xi_pop (pc' := 1228) kc_195_1227 rfl rfl ?_
  refine xi_goto (pc' := 1501) kc_195_1228 rfl ?_
  obtain ⟨v51, ev51⟩ : ∃ q : Int32, x4 + 6 = q := ⟨_, rfl⟩
  have zv51 : v51.toInt = (x4.toInt + 6) := by rw [← ev51]; exact (xz_add (X := x4.toInt) (Y := 6) rfl (by decide) (by omega) (by omega)).trans (by omega)
  refine xi_iinc (pc' := 1504) (x := x4) (v := v51) (lv' := [(4, .int v51), (3, .ref 167), (2, .ref 115), (1, .ref 0), (0, .ref 1000000)]) kc_195_1501 rfl rfl ev51 rfl (xm_lt ml_195 rfl) ?_
  refine xi_goto (pc' := 23) kc_195_1504 rfl ?_
  exact kk v51 hh29 (by omega) K31
set_option maxHeartbeats 8000000 in
theorem lc_28 {J : xe_J} {ov : List (List Int32)} (hJ : ∀ d mj as h, mj ≠ xe_loff → J d mj as h = none) (hov1 : ov[1]? = some [10, 0, 0, 0, 0, 0]) (hov2 : ov[2]? = some [99, 30, 50, 50, 1, 99999]) {xs : List Int32} (hov0 : ov[0]? = some xs) {Q : Option Value → xe_H → Prop} {h : xe_H} {x4 : Int32} (hi0 : 0 ≤ x4.toInt) (hi1 : x4.toInt + 6 ≤ xs.length) (hi2 : x4.toInt ≤ 3066) (T : xt h) (kk : ∀ (i : Int32) (h' : xe_H), i.toInt = x4.toInt + 6 → xk [(13, 0), (122, 0), (16, 0), (19, 0), (22, 0), (25, 0), (28, 0)] h h' → xw J ov 100 195 (23, [(4, .int i), (3, .ref 167), (2, .ref 115), (1, .ref 0), (0, .ref 1000000)], [], h') Q) : xw J ov 100 195 (1231, [(4, .int x4), (3, .ref 167), (2, .ref 115), (1, .ref 0), (0, .ref 1000000)], [], h) Q := by
  have K : xk [(13, 0), (122, 0), (16, 0), (19, 0), (22, 0), (25, 0), (28, 0)] h h := xk_re T
  refine xi_aload_n (pc' := 1232) (x := 0) kc_195_1231 rfl rfl ?_
  refine xi_aload_n (pc' := 1233) (x := 1000000) kc_195_1232 rfl rfl ?_
  refine xi_iload (pc' := 1235) (x := x4) kc_195_1233 rfl rfl ?_
  refine xi_iconst (pc' := 1236) (v := 1) kc_195_1235 rfl rfl ?_
  obtain ⟨v1, ev1⟩ : ∃ q : Int32, x4 + 1 = q := ⟨_, rfl⟩
  have zv1 : v1.toInt = (x4.toInt + 1) := by rw [← ev1]; exact (xz_add (X := x4.toInt) (Y := 1) rfl (by decide) (by omega) (by omega)).trans (by omega)
  refine xi_iadd (pc' := 1237) (v := v1) kc_195_1236 rfl ev1 ?_
  obtain ⟨a2, ea2⟩ : ∃ q : Int32, xs.getD (Int32.toNatClampNeg v1) 0 = q := ⟨_, rfl⟩
  have ra2 := xc_rng a2
  refine xi_ialoadO (pc' := 1238) (v := a2) kc_195_1237 rfl (by decide) hov0 (xi_in (by omega) (by omega)) ea2 ?_
  refine xi_aload_n (pc' := 1239) (x := 1000000) kc_195_1238 rfl rfl ?_
  refine xi_iload (pc' := 1241) (x := x4) kc_195_1239 rfl rfl ?_
  refine xi_iconst (pc' := 1242) (v := 2) kc_195_1241 rfl rfl ?_
  obtain ⟨v3, ev3⟩ : ∃ q : Int32, x4 + 2 = q := ⟨_, rfl⟩
  have zv3 : v3.toInt = (x4.toInt + 2) := by rw [← ev3]; exact (xz_add (X := x4.toInt) (Y := 2) rfl (by decide) (by omega) (by omega)).trans (by omega)
  refine xi_iadd (pc' := 1243) (v := v3) kc_195_1242 rfl ev3 ?_
  obtain ⟨a4, ea4⟩ : ∃ q : Int32, xs.getD (Int32.toNatClampNeg v3) 0 = q := ⟨_, rfl⟩
  have ra4 := xc_rng a4
  refine xi_ialoadO (pc' := 1244) (v := a4) kc_195_1243 rfl (by decide) hov0 (xi_in (by omega) (by omega)) ea4 ?_
  refine xi_aload_n (pc' := 1245) (x := 1000000) kc_195_1244 rfl rfl ?_
  refine xi_iload (pc' := 1247) (x := x4) kc_195_1245 rfl rfl ?_
  refine xi_iconst (pc' := 1248) (v := 3) kc_195_1247 rfl rfl ?_
  obtain ⟨v5, ev5⟩ : ∃ q : Int32, x4 + 3 = q := ⟨_, rfl⟩
  have zv5 : v5.toInt = (x4.toInt + 3) := by rw [← ev5]; exact (xz_add (X := x4.toInt) (Y := 3) rfl (by decide) (by omega) (by omega)).trans (by omega)
  refine xi_iadd (pc' := 1249) (v := v5) kc_195_1248 rfl ev5 ?_
  obtain ⟨a6, ea6⟩ : ∃ q : Int32, xs.getD (Int32.toNatClampNeg v5) 0 = q := ⟨_, rfl⟩
  have ra6 := xc_rng a6
  refine xi_ialoadO (pc' := 1250) (v := a6) kc_195_1249 rfl (by decide) hov0 (xi_in (by omega) (by omega)) ea6 ?_
  refine xi_aload_n (pc' := 1251) (x := 1000000) kc_195_1250 rfl rfl ?_
  refine xi_iload (pc' := 1253) (x := x4) kc_195_1251 rfl rfl ?_
  refine xi_iconst (pc' := 1254) (v := 4) kc_195_1253 rfl rfl ?_
  obtain ⟨v7, ev7⟩ : ∃ q : Int32, x4 + 4 = q := ⟨_, rfl⟩
  have zv7 : v7.toInt = (x4.toInt + 4) := by rw [← ev7]; exact (xz_add (X := x4.toInt) (Y := 4) rfl (by decide) (by omega) (by omega)).trans (by omega)
  refine xi_iadd (pc' := 1255) (v := v7) kc_195_1254 rfl ev7 ?_
  obtain ⟨a8, ea8⟩ : ∃ q : Int32, xs.getD (Int32.toNatClampNeg v7) 0 = q := ⟨_, rfl⟩
  have ra8 := xc_rng a8
  refine xi_ialoadO (pc' := 1256) (v := a8) kc_195_1255 rfl (by decide) hov0 (xi_in (by omega) (by omega)) ea8 ?_
  obtain ⟨u9, u10, bu9, bu10, A11⟩ := xq_0 K.1
  refine xi_virtual (mj := 177) (as := [.int a2, .int a4, .int a6, .int a8]) (st1 := []) (lv0 := [(0, .ref 0), (1, .int a2), (2, .int a4), (3, .int a6), (4, .int a8)]) kc_195_1256 rfl rfl rfl rfl rfl A11 (Nat.le_of_ble_eq_true rfl) (hJ _ _ _ _ (by decide)) (xm_le ml_177 rfl) rfl ?_
  refine mt_177_0 hJ hov1 hov2 (d := 98) (x1 := a2) (x2 := a4) (x3 := a6) (x4 := a8) K.1 (fun r12 hh13 br12 K14 => ?_)
  have K15 := xk_tr K K14 rfl
  obtain ⟨u16, u17, bu16, bu17, A18⟩ := xq_0 K15.1
  have e19 : u10 = u17 := xk_eqi (q := 9) K14 rfl A11 A18 rfl rfl
  subst e19
  show xw J ov 100 195 (1259, [(4, .int x4), (3, .ref 167), (2, .ref 115), (1, .ref 0), (0, .ref 1000000)], [.int r12], hh13) _
  refine xi_pop (pc' := 1260) kc_195_1259 rfl rfl ?_
  refine xi_aload_n (pc' := 1261) (x := 115) kc_195_1260 rfl rfl ?_
  refine xi_aload_n (pc' := 1262) (x := 1000000) kc_195_1261 rfl rfl ?_
  refine xi_iload (pc' := 1264) (x := x4) kc_195_1262 rfl rfl ?_
  refine xi_iconst (pc' := 1265) (v := 1) kc_195_1264 rfl rfl ?_
  refine xi_iadd (pc' := 1266) (v := v1) kc_195_1265 rfl ev1 ?_
  refine xi_ialoadO (pc' := 1267) (v := a2) kc_195_1266 rfl (by decide) hov0 (xi_in (by omega) (by omega)) ea2 ?_
  refine xi_aload_n (pc' := 1268) (x := 1000000) kc_195_1267 rfl rfl ?_
  refine xi_iload (pc' := 1270) (x := x4) kc_195_1268 rfl rfl ?_
  refine xi_iconst (pc' := 1271) (v := 2) kc_195_1270 rfl rfl ?_
  refine xi_iadd (pc' := 1272) (v := v3) kc_195_1271 rfl ev3 ?_
  refine xi_ialoadO (pc' := 1273) (v := a4) kc_195_1272 rfl (by decide) hov0 (xi_in (by omega) (by omega)) ea4 ?_
  refine xi_aload_n (pc' := 1274) (x := 1000000) kc_195_1273 rfl rfl ?_
  refine xi_iload (pc' := 1276) (x := x4) kc_195_1274 rfl rfl ?_
  refine xi_iconst (pc' := 1277) (v := 3) kc_195_1276 rfl rfl ?_
  refine xi_iadd (pc' := 1278) (v := v5) kc_195_1277 rfl ev5 ?_
  refine xi_ialoadO (pc' := 1279) (v := a6) kc_195_1278 rfl (by decide) hov0 (xi_in (by omega) (by omega)) ea6 ?_
  refine xi_aload_n (pc' := 1280) (x := 1000000) kc_195_1279 rfl rfl ?_
  refine xi_iload (pc' := 1282) (x := x4) kc_195_1280 rfl rfl ?_
  refine xi_iconst (pc' := 1283) (v := 4) kc_195_1282 rfl rfl ?_
  refine xi_iadd (pc' := 1284) (v := v7) kc_195_1283 rfl ev7 ?_
  refine xi_ialoadO (pc' := 1285) (v := a8) kc_195_1284 rfl (by decide) hov0 (xi_in (by omega) (by omega)) ea8 ?_
  obtain ⟨u20, u21, u22, u23, u24, u25, u26, u27, u28, u29, u30, u31, u32, bu20, bu21, bu22, bu23, bu24, bu25, bu26, bu27, bu28, bu29, bu30, bu31, bu32, A33⟩ := xq_115 K15.1
  refine xi_virtual (mj := 70) (as := [.int a2, .int a4, .int a6, .int a8]) (st1 := []) (lv0 := [(0, .ref 115), (1, .int a2), (2, .int a4), (3, .int a6), (4, .int a8)]) kc_195_1285 rfl rfl rfl rfl rfl A33 (Nat.le_of_ble_eq_true rfl) (hJ _ _ _ _ (by decide)) (xm_le ml_70 rfl) rfl ?_
  refine mt_70_0 hJ hov1 hov2 (d := 98) (x1 := a2) (x2 := a4) (x3 := a6) (x4 := a8) K15.1 (fun r34 hh35 br34 K36 => ?_)
  have K37 := xk_tr K15 K36 rfl
  obtain ⟨u38, u39, bu38, bu39, A40⟩ := xq_0 K37.1
  have e41 : u10 = u39 := xk_eqi (q := 9) K36 rfl A18 A40 rfl rfl
  subst e41
  obtain ⟨u42, u43, u44, u45, u46, u47, u48, u49, u50, u51, u52, u53, u54, bu42, bu43, bu44, bu45, bu46, bu47, bu48, bu49, bu50, bu51, bu52, bu53, bu54, A55⟩ := xq_115 K37.1
  have e56 : u21 = u43 := xk_eqi (q := 1) K36 rfl A33 A55 rfl rfl
  subst e56
  show xw J ov 100 195 (1288, [(4, .int x4), (3, .ref 167), (2, .ref 115), (1, .ref 0), (0, .ref 1000000)], [.int r34], hh35) _
  refine xi_pop (pc' := 1289) kc_195_1288 rfl rfl ?_
  refine xi_goto (pc' := 1501) kc_195_1289 rfl ?_
  obtain ⟨v57, ev57⟩ : ∃ q : Int32, x4 + 6 = q := ⟨_, rfl⟩
  have zv57 : v57.toInt = (x4.toInt + 6) := by rw [← ev57]; exact (xz_add (X := x4.toInt) (Y := 6) rfl (by decide) (by omega) (by omega)).trans (by omega)
  refine xi_iinc (pc' := 1504) (x := x4) (v := v57) (lv' := [(4, .int v57), (3, .ref 167), (2, .ref 115), (1, .ref 0), (0, .ref 1000000)]) kc_195_1501 rfl rfl ev57 rfl (xm_lt ml_195 rfl) ?_
  refine xi_goto (pc' := 23) kc_195_1504 rfl ?_
  exact kk v57 hh35 (by omega) K37
set_option maxHeartbeats 8000000 in
theorem lc_29 {J : xe_J} {ov : List (List Int32)} (hJ : ∀ d mj as h, mj ≠ xe_loff → J d mj as h = none) (hov1 : ov[1]? = some [10, 0, 0, 0, 0, 0]) (hov2 : ov[2]? = some [99, 30, 50, 50, 1, 99999]) {xs : List Int32} (hov0 : ov[0]? = some xs) {Q : Option Value → xe_H → Prop} {h : xe_H} {x4 : Int32} (hi0 : 0 ≤ x4.toInt) (hi1 : x4.toInt + 6 ≤ xs.length) (hi2 : x4.toInt ≤ 3066) (T : xt h) (kk : ∀ (i : Int32) (h' : xe_H), i.toInt = x4.toInt + 6 → xk [(13, 0), (122, 0), (16, 0), (19, 0), (22, 0), (25, 0), (28, 0)] h h' → xw J ov 100 195 (23, [(4, .int i), (3, .ref 167), (2, .ref 115), (1, .ref 0), (0, .ref 1000000)], [], h') Q) : xw J ov 100 195 (1292, [(4, .int x4), (3, .ref 167), (2, .ref 115), (1, .ref 0), (0, .ref 1000000)], [], h) Q := by
  have K : xk [(13, 0), (122, 0), (16, 0), (19, 0), (22, 0), (25, 0), (28, 0)] h h := xk_re T
  refine xi_aload_n (pc' := 1293) (x := 0) kc_195_1292 rfl rfl ?_
  refine xi_aload_n (pc' := 1294) (x := 1000000) kc_195_1293 rfl rfl ?_
  refine xi_iload (pc' := 1296) (x := x4) kc_195_1294 rfl rfl ?_
  refine xi_iconst (pc' := 1297) (v := 1) kc_195_1296 rfl rfl ?_
  obtain ⟨v1, ev1⟩ : ∃ q : Int32, x4 + 1 = q := ⟨_, rfl⟩
  have zv1 : v1.toInt = (x4.toInt + 1) := by rw [← ev1]; exact (xz_add (X := x4.toInt) (Y := 1) rfl (by decide) (by omega) (by omega)).trans (by omega)
  refine xi_iadd (pc' := 1298) (v := v1) kc_195_1297 rfl ev1 ?_
  obtain ⟨a2, ea2⟩ : ∃ q : Int32, xs.getD (Int32.toNatClampNeg v1) 0 = q := ⟨_, rfl⟩
  have ra2 := xc_rng a2
  refine xi_ialoadO (pc' := 1299) (v := a2) kc_195_1298 rfl (by decide) hov0 (xi_in (by omega) (by omega)) ea2 ?_
  by_cases c3 : a2.toInt = 0
  · refine xi_ift (pc' := 1306) kc_195_1299 rfl (xc_eq_t (X := a2.toInt) (Y := 0) rfl (by decide) (by omega)) ?_
    refine xi_iconst (pc' := 1307) (v := 0) kc_195_1306 rfl rfl ?_
    obtain ⟨u4, u5, bu4, bu5, A6⟩ := xq_0 K.1
    refine xi_virtual (mj := 179) (as := [.int 0]) (st1 := []) (lv0 := [(0, .ref 0), (1, .int 0)]) kc_195_1307 rfl rfl rfl rfl rfl A6 (Nat.le_of_ble_eq_true rfl) (hJ _ _ _ _ (by decide)) (xm_le ml_179 rfl) rfl ?_
    have zc0 : (0 : Int32).toInt = 0 := by decide
    refine mt_179_0 hJ hov1 hov2 (d := 98) (x1 := 0) K.1 (by first | omega | decide) (fun r7 hh8 br7 K9 => ?_)
    have K10 := xk_tr K K9 rfl
    obtain ⟨u11, u12, bu11, bu12, A13⟩ := xq_0 K10.1
    have e14 : u5 = u12 := xk_eqi (q := 9) K9 rfl A6 A13 rfl rfl
    subst e14
    show xw J ov 100 195 (1310, [(4, .int x4), (3, .ref 167), (2, .ref 115), (1, .ref 0), (0, .ref 1000000)], [.int r7], hh8) _
    refine xi_pop (pc' := 1311) kc_195_1310 rfl rfl ?_
    refine xi_aload_n (pc' := 1312) (x := 115) kc_195_1311 rfl rfl ?_
    refine xi_aload_n (pc' := 1313) (x := 1000000) kc_195_1312 rfl rfl ?_
    refine xi_iload (pc' := 1315) (x := x4) kc_195_1313 rfl rfl ?_
    refine xi_iconst (pc' := 1316) (v := 1) kc_195_1315 rfl rfl ?_
    refine xi_iadd (pc' := 1317) (v := v1) kc_195_1316 rfl ev1 ?_
    refine xi_ialoadO (pc' := 1318) (v := a2) kc_195_1317 rfl (by decide) hov0 (xi_in (by omega) (by omega)) ea2 ?_
    refine xi_ift (pc' := 1325) kc_195_1318 rfl (xc_eq_t (X := a2.toInt) (Y := 0) rfl (by decide) (by omega)) ?_
    refine xi_iconst (pc' := 1326) (v := 0) kc_195_1325 rfl rfl ?_
    obtain ⟨u15, u16, u17, u18, u19, u20, u21, u22, u23, u24, u25, u26, u27, bu15, bu16, bu17, bu18, bu19, bu20, bu21, bu22, bu23, bu24, bu25, bu26, bu27, A28⟩ := xq_115 K10.1
    refine xi_virtual (mj := 71) (as := [.int 0]) (st1 := []) (lv0 := [(0, .ref 115), (1, .int 0)]) kc_195_1326 rfl rfl rfl rfl rfl A28 (Nat.le_of_ble_eq_true rfl) (hJ _ _ _ _ (by decide)) (xm_le ml_71 rfl) rfl ?_
    have zc0 : (0 : Int32).toInt = 0 := by decide
    refine mt_71_0 hJ hov1 hov2 (d := 98) (x1 := 0) K10.1 (by first | omega | decide) (fun r29 hh30 br29 K31 => ?_)
    have K32 := xk_tr K10 K31 rfl
    obtain ⟨u33, u34, bu33, bu34, A35⟩ := xq_0 K32.1
    have e36 : u5 = u34 := xk_eqi (q := 9) K31 rfl A13 A35 rfl rfl
    subst e36
    obtain ⟨u37, u38, u39, u40, u41, u42, u43, u44, u45, u46, u47, u48, u49, bu37, bu38, bu39, bu40, bu41, bu42, bu43, bu44, bu45, bu46, bu47, bu48, bu49, A50⟩ := xq_115 K32.1
    have e51 : u16 = u38 := xk_eqi (q := 1) K31 rfl A28 A50 rfl rfl
    subst e51
    show xw J ov 100 195 (1329, [(4, .int x4), (3, .ref 167), (2, .ref 115), (1, .ref 0), (0, .ref 1000000)], [.int r29], hh30) _
    refine xi_pop (pc' := 1330) kc_195_1329 rfl rfl ?_
    refine xi_goto (pc' := 1501) kc_195_1330 rfl ?_
    obtain ⟨v52, ev52⟩ : ∃ q : Int32, x4 + 6 = q := ⟨_, rfl⟩
    have zv52 : v52.toInt = (x4.toInt + 6) := by rw [← ev52]; exact (xz_add (X := x4.toInt) (Y := 6) rfl (by decide) (by omega) (by omega)).trans (by omega)
    refine xi_iinc (pc' := 1504) (x := x4) (v := v52) (lv' := [(4, .int v52), (3, .ref 167), (2, .ref 115), (1, .ref 0), (0, .ref 1000000)]) kc_195_1501 rfl rfl ev52 rfl (xm_lt ml_195 rfl) ?_
    refine xi_goto (pc' := 23) kc_195_1504 rfl ?_
    exact kk v52 hh30 (by omega) K32
  · refine xi_iff (pc' := 1302) kc_195_1299 rfl (xc_eq_f (X := a2.toInt) (Y := 0) rfl (by decide) (by omega)) ?_
    refine xi_iconst (pc' := 1303) (v := 1) kc_195_1302 rfl rfl ?_
    refine xi_goto (pc' := 1307) kc_195_1303 rfl ?_
    obtain ⟨u53, u54, bu53, bu54, A55⟩ := xq_0 K.1
    refine xi_virtual (mj := 179) (as := [.int 1]) (st1 := []) (lv0 := [(0, .ref 0), (1, .int 1)]) kc_195_1307 rfl rfl rfl rfl rfl A55 (Nat.le_of_ble_eq_true rfl) (hJ _ _ _ _ (by decide)) (xm_le ml_179 rfl) rfl ?_
    have zc1 : (1 : Int32).toInt = 1 := by decide
    refine mt_179_0 hJ hov1 hov2 (d := 98) (x1 := 1) K.1 (by first | omega | decide) (fun r56 hh57 br56 K58 => ?_)
    have K59 := xk_tr K K58 rfl
    obtain ⟨u60, u61, bu60, bu61, A62⟩ := xq_0 K59.1
    have e63 : u54 = u61 := xk_eqi (q := 9) K58 rfl A55 A62 rfl rfl
    subst e63
    show xw J ov 100 195 (1310, [(4, .int x4), (3, .ref 167), (2, .ref 115), (1, .ref 0), (0, .ref 1000000)], [.int r56], hh57) _
    refine xi_pop (pc' := 1311) kc_195_1310 rfl rfl ?_
    refine xi_aload_n (pc' := 1312) (x := 115) kc_195_1311 rfl rfl ?_
    refine xi_aload_n (pc' := 1313) (x := 1000000) kc_195_1312 rfl rfl ?_
    refine xi_iload (pc' := 1315) (x := x4) kc_195_1313 rfl rfl ?_
    refine xi_iconst (pc' := 1316) (v := 1) kc_195_1315 rfl rfl ?_
    refine xi_iadd (pc' := 1317) (v := v1) kc_195_1316 rfl ev1 ?_
    refine xi_ialoadO (pc' := 1318) (v := a2) kc_195_1317 rfl (by decide) hov0 (xi_in (by omega) (by omega)) ea2 ?_
    refine xi_iff (pc' := 1321) kc_195_1318 rfl (xc_eq_f (X := a2.toInt) (Y := 0) rfl (by decide) (by omega)) ?_
    refine xi_iconst (pc' := 1322) (v := 1) kc_195_1321 rfl rfl ?_
    refine xi_goto (pc' := 1326) kc_195_1322 rfl ?_
    obtain ⟨u64, u65, u66, u67, u68, u69, u70, u71, u72, u73, u74, u75, u76, bu64, bu65, bu66, bu67, bu68, bu69, bu70, bu71, bu72, bu73, bu74, bu75, bu76, A77⟩ := xq_115 K59.1
    refine xi_virtual (mj := 71) (as := [.int 1]) (st1 := []) (lv0 := [(0, .ref 115), (1, .int 1)]) kc_195_1326 rfl rfl rfl rfl rfl A77 (Nat.le_of_ble_eq_true rfl) (hJ _ _ _ _ (by decide)) (xm_le ml_71 rfl) rfl ?_
    have zc1 : (1 : Int32).toInt = 1 := by decide
    refine mt_71_0 hJ hov1 hov2 (d := 98) (x1 := 1) K59.1 (by first | omega | decide) (fun r78 hh79 br78 K80 => ?_)
    have K81 := xk_tr K59 K80 rfl
    obtain ⟨u82, u83, bu82, bu83, A84⟩ := xq_0 K81.1
    have e85 : u54 = u83 := xk_eqi (q := 9) K80 rfl A62 A84 rfl rfl
    subst e85
    obtain ⟨u86, u87, u88, u89, u90, u91, u92, u93, u94, u95, u96, u97, u98, bu86, bu87, bu88, bu89, bu90, bu91, bu92, bu93, bu94, bu95, bu96, bu97, bu98, A99⟩ := xq_115 K81.1
    have e100 : u65 = u87 := xk_eqi (q := 1) K80 rfl A77 A99 rfl rfl
    subst e100
    show xw J ov 100 195 (1329, [(4, .int x4), (3, .ref 167), (2, .ref 115), (1, .ref 0), (0, .ref 1000000)], [.int r78], hh79) _
    refine xi_pop (pc' := 1330) kc_195_1329 rfl rfl ?_
    refine xi_goto (pc' := 1501) kc_195_1330 rfl ?_
    obtain ⟨v101, ev101⟩ : ∃ q : Int32, x4 + 6 = q := ⟨_, rfl⟩
    have zv101 : v101.toInt = (x4.toInt + 6) := by rw [← ev101]; exact (xz_add (X := x4.toInt) (Y := 6) rfl (by decide) (by omega) (by omega)).trans (by omega)
    refine xi_iinc (pc' := 1504) (x := x4) (v := v101) (lv' := [(4, .int v101), (3, .ref 167), (2, .ref 115), (1, .ref 0), (0, .ref 1000000)]) kc_195_1501 rfl rfl ev101 rfl (xm_lt ml_195 rfl) ?_
    refine xi_goto (pc' := 23) kc_195_1504 rfl ?_
    exact kk v101 hh79 (by omega) K81
set_option maxHeartbeats 8000000 in
theorem lc_30 {J : xe_J} {ov : List (List Int32)} (hJ : ∀ d mj as h, mj ≠ xe_loff → J d mj as h = none) (hov1 : ov[1]? = some [10, 0, 0, 0, 0, 0]) (hov2 : ov[2]? = some [99, 30, 50, 50, 1, 99999]) {xs : List Int32} (hov0 : ov[0]? = some xs) {Q : Option Value → xe_H → Prop} {h : xe_H} {x4 : Int32} (hi0 : 0 ≤ x4.toInt) (hi1 : x4.toInt + 6 ≤ xs.length) (hi2 : x4.toInt ≤ 3066) (T : xt h) (kk : ∀ (i : Int32) (h' : xe_H), i.toInt = x4.toInt + 6 → xk [(13, 0), (122, 0), (16, 0), (19, 0), (22, 0), (25, 0), (28, 0)] h h' → xw J ov 100 195 (23, [(4, .int i), (3, .ref 167), (2, .ref 115), (1, .ref 0), (0, .ref 1000000)], [], h') Q) : xw J ov 100 195 (1333, [(4, .int x4), (3, .ref 167), (2, .ref 115), (1, .ref 0), (0, .ref 1000000)], [], h) Q := by
  have K : xk [(13, 0), (122, 0), (16, 0), (19, 0), (22, 0), (25, 0), (28, 0)] h h := xk_re T
  refine xi_aload_n (pc' := 1334) (x := 0) kc_195_1333 rfl rfl ?_
  refine xi_aload_n (pc' := 1335) (x := 1000000) kc_195_1334 rfl rfl ?_
  refine xi_iload (pc' := 1337) (x := x4) kc_195_1335 rfl rfl ?_
  refine xi_iconst (pc' := 1338) (v := 1) kc_195_1337 rfl rfl ?_
  obtain ⟨v1, ev1⟩ : ∃ q : Int32, x4 + 1 = q := ⟨_, rfl⟩
  have zv1 : v1.toInt = (x4.toInt + 1) := by rw [← ev1]; exact (xz_add (X := x4.toInt) (Y := 1) rfl (by decide) (by omega) (by omega)).trans (by omega)
  refine xi_iadd (pc' := 1339) (v := v1) kc_195_1338 rfl ev1 ?_
  obtain ⟨a2, ea2⟩ : ∃ q : Int32, xs.getD (Int32.toNatClampNeg v1) 0 = q := ⟨_, rfl⟩
  have ra2 := xc_rng a2
  refine xi_ialoadO (pc' := 1340) (v := a2) kc_195_1339 rfl (by decide) hov0 (xi_in (by omega) (by omega)) ea2 ?_
  by_cases c3 : a2.toInt = 0
  · refine xi_ift (pc' := 1347) kc_195_1340 rfl (xc_eq_t (X := a2.toInt) (Y := 0) rfl (by decide) (by omega)) ?_
    refine xi_iconst (pc' := 1348) (v := 0) kc_195_1347 rfl rfl ?_
    refine xi_aload_n (pc' := 1349) (x := 1000000) kc_195_1348 rfl rfl ?_
    refine xi_iload (pc' := 1351) (x := x4) kc_195_1349 rfl rfl ?_
    refine xi_iconst (pc' := 1352) (v := 2) kc_195_1351 rfl rfl ?_
    obtain ⟨v4, ev4⟩ : ∃ q : Int32, x4 + 2 = q := ⟨_, rfl⟩
    have zv4 : v4.toInt = (x4.toInt + 2) := by rw [← ev4]; exact (xz_add (X := x4.toInt) (Y := 2) rfl (by decide) (by omega) (by omega)).trans (by omega)
    refine xi_iadd (pc' := 1353) (v := v4) kc_195_1352 rfl ev4 ?_
    obtain ⟨a5, ea5⟩ : ∃ q : Int32, xs.getD (Int32.toNatClampNeg v4) 0 = q := ⟨_, rfl⟩
    have ra5 := xc_rng a5
    refine xi_ialoadO (pc' := 1354) (v := a5) kc_195_1353 rfl (by decide) hov0 (xi_in (by omega) (by omega)) ea5 ?_
    refine xi_aload_n (pc' := 1355) (x := 1000000) kc_195_1354 rfl rfl ?_
    refine xi_iload (pc' := 1357) (x := x4) kc_195_1355 rfl rfl ?_
    refine xi_iconst (pc' := 1358) (v := 3) kc_195_1357 rfl rfl ?_
    obtain ⟨v6, ev6⟩ : ∃ q : Int32, x4 + 3 = q := ⟨_, rfl⟩
    have zv6 : v6.toInt = (x4.toInt + 3) := by rw [← ev6]; exact (xz_add (X := x4.toInt) (Y := 3) rfl (by decide) (by omega) (by omega)).trans (by omega)
    refine xi_iadd (pc' := 1359) (v := v6) kc_195_1358 rfl ev6 ?_
    obtain ⟨a7, ea7⟩ : ∃ q : Int32, xs.getD (Int32.toNatClampNeg v6) 0 = q := ⟨_, rfl⟩
    have ra7 := xc_rng a7
    refine xi_ialoadO (pc' := 1360) (v := a7) kc_195_1359 rfl (by decide) hov0 (xi_in (by omega) (by omega)) ea7 ?_
    by_cases c8 : a7.toInt = 0
    · refine xi_ift (pc' := 1367) kc_195_1360 rfl (xc_eq_t (X := a7.toInt) (Y := 0) rfl (by decide) (by omega)) ?_
      refine xi_iconst (pc' := 1368) (v := 0) kc_195_1367 rfl rfl ?_
      obtain ⟨u9, u10, bu9, bu10, A11⟩ := xq_0 K.1
      refine xi_virtual (mj := 180) (as := [.int 0, .int a5, .int 0]) (st1 := []) (lv0 := [(0, .ref 0), (1, .int 0), (2, .int a5), (3, .int 0)]) kc_195_1368 rfl rfl rfl rfl rfl A11 (Nat.le_of_ble_eq_true rfl) (hJ _ _ _ _ (by decide)) (xm_le ml_180 rfl) rfl ?_
      have zc0 : (0 : Int32).toInt = 0 := by decide
      refine mt_180_0 hJ hov1 hov2 (d := 97) (x1 := 0) (x2 := a5) (x3 := 0) K.1 (by first | omega | decide) (by first | omega | decide) (fun r12 hh13 br12 K14 => ?_)
      have K15 := xk_tr K K14 rfl
      obtain ⟨u16, u17, bu16, bu17, A18⟩ := xq_0 K15.1
      have e19 : u10 = u17 := xk_eqi (q := 9) K14 rfl A11 A18 rfl rfl
      subst e19
      show xw J ov 100 195 (1371, [(4, .int x4), (3, .ref 167), (2, .ref 115), (1, .ref 0), (0, .ref 1000000)], [.int r12], hh13) _
      refine xi_pop (pc' := 1372) kc_195_1371 rfl rfl ?_
      refine xi_aload_n (pc' := 1373) (x := 115) kc_195_1372 rfl rfl ?_
      refine xi_aload_n (pc' := 1374) (x := 1000000) kc_195_1373 rfl rfl ?_
      refine xi_iload (pc' := 1376) (x := x4) kc_195_1374 rfl rfl ?_
      refine xi_iconst (pc' := 1377) (v := 1) kc_195_1376 rfl rfl ?_
      refine xi_iadd (pc' := 1378) (v := v1) kc_195_1377 rfl ev1 ?_
      refine xi_ialoadO (pc' := 1379) (v := a2) kc_195_1378 rfl (by decide) hov0 (xi_in (by omega) (by omega)) ea2 ?_
      refine xi_ift (pc' := 1386) kc_195_1379 rfl (xc_eq_t (X := a2.toInt) (Y := 0) rfl (by decide) (by omega)) ?_
      refine xi_iconst (pc' := 1387) (v := 0) kc_195_1386 rfl rfl ?_
      refine xi_aload_n (pc' := 1388) (x := 1000000) kc_195_1387 rfl rfl ?_
      refine xi_iload (pc' := 1390) (x := x4) kc_195_1388 rfl rfl ?_
      refine xi_iconst (pc' := 1391) (v := 2) kc_195_1390 rfl rfl ?_
      refine xi_iadd (pc' := 1392) (v := v4) kc_195_1391 rfl ev4 ?_
      refine xi_ialoadO (pc' := 1393) (v := a5) kc_195_1392 rfl (by decide) hov0 (xi_in (by omega) (by omega)) ea5 ?_
      refine xi_aload_n (pc' := 1394) (x := 1000000) kc_195_1393 rfl rfl ?_
      refine xi_iload (pc' := 1396) (x := x4) kc_195_1394 rfl rfl ?_
      refine xi_iconst (pc' := 1397) (v := 3) kc_195_1396 rfl rfl ?_
      refine xi_iadd (pc' := 1398) (v := v6) kc_195_1397 rfl ev6 ?_
      refine xi_ialoadO (pc' := 1399) (v := a7) kc_195_1398 rfl (by decide) hov0 (xi_in (by omega) (by omega)) ea7 ?_
      refine xi_ift (pc' := 1406) kc_195_1399 rfl (xc_eq_t (X := a7.toInt) (Y := 0) rfl (by decide) (by omega)) ?_
      refine xi_iconst (pc' := 1407) (v := 0) kc_195_1406 rfl rfl ?_
      obtain ⟨u20, u21, u22, u23, u24, u25, u26, u27, u28, u29, u30, u31, u32, bu20, bu21, bu22, bu23, bu24, bu25, bu26, bu27, bu28, bu29, bu30, bu31, bu32, A33⟩ := xq_115 K15.1
      refine xi_virtual (mj := 72) (as := [.int 0, .int a5, .int 0]) (st1 := []) (lv0 := [(0, .ref 115), (1, .int 0), (2, .int a5), (3, .int 0)]) kc_195_1407 rfl rfl rfl rfl rfl A33 (Nat.le_of_ble_eq_true rfl) (hJ _ _ _ _ (by decide)) (xm_le ml_72 rfl) rfl ?_
      have zc0 : (0 : Int32).toInt = 0 := by decide
      refine mt_72_0 hJ hov1 hov2 (d := 98) (x1 := 0) (x2 := a5) (x3 := 0) K15.1 (by first | omega | decide) (by first | omega | decide) (fun r34 hh35 br34 K36 => ?_)
      have K37 := xk_tr K15 K36 rfl
      obtain ⟨u38, u39, bu38, bu39, A40⟩ := xq_0 K37.1
      have e41 : u10 = u39 := xk_eqi (q := 9) K36 rfl A18 A40 rfl rfl
      subst e41
      obtain ⟨u42, u43, u44, u45, u46, u47, u48, u49, u50, u51, u52, u53, u54, bu42, bu43, bu44, bu45, bu46, bu47, bu48, bu49, bu50, bu51, bu52, bu53, bu54, A55⟩ := xq_115 K37.1
      have e56 : u21 = u43 := xk_eqi (q := 1) K36 rfl A33 A55 rfl rfl
      subst e56
      show xw J ov 100 195 (1410, [(4, .int x4), (3, .ref 167), (2, .ref 115), (1, .ref 0), (0, .ref 1000000)], [.int r34], hh35) _
      refine xi_pop (pc' := 1411) kc_195_1410 rfl rfl ?_
      refine xi_goto (pc' := 1501) kc_195_1411 rfl ?_
      obtain ⟨v57, ev57⟩ : ∃ q : Int32, x4 + 6 = q := ⟨_, rfl⟩
      have zv57 : v57.toInt = (x4.toInt + 6) := by rw [← ev57]; exact (xz_add (X := x4.toInt) (Y := 6) rfl (by decide) (by omega) (by omega)).trans (by omega)
      refine xi_iinc (pc' := 1504) (x := x4) (v := v57) (lv' := [(4, .int v57), (3, .ref 167), (2, .ref 115), (1, .ref 0), (0, .ref 1000000)]) kc_195_1501 rfl rfl ev57 rfl (xm_lt ml_195 rfl) ?_
      refine xi_goto (pc' := 23) kc_195_1504 rfl ?_
      exact kk v57 hh35 (by omega) K37
    · refine xi_iff (pc' := 1363) kc_195_1360 rfl (xc_eq_f (X := a7.toInt) (Y := 0) rfl (by decide) (by omega)) ?_
      refine xi_iconst (pc' := 1364) (v := 1) kc_195_1363 rfl rfl ?_
      refine xi_goto (pc' := 1368) kc_195_1364 rfl ?_
      obtain ⟨u58, u59, bu58, bu59, A60⟩ := xq_0 K.1
      refine xi_virtual (mj := 180) (as := [.int 0, .int a5, .int 1]) (st1 := []) (lv0 := [(0, .ref 0), (1, .int 0), (2, .int a5), (3, .int 1)]) kc_195_1368 rfl rfl rfl rfl rfl A60 (Nat.le_of_ble_eq_true rfl) (hJ _ _ _ _ (by decide)) (xm_le ml_180 rfl) rfl ?_
      have zc0 : (0 : Int32).toInt = 0 := by decide
      have zc1 : (1 : Int32).toInt = 1 := by decide
      refine mt_180_0 hJ hov1 hov2 (d := 97) (x1 := 0) (x2 := a5) (x3 := 1) K.1 (by first | omega | decide) (by first | omega | decide) (fun r61 hh62 br61 K63 => ?_)
      have K64 := xk_tr K K63 rfl
      obtain ⟨u65, u66, bu65, bu66, A67⟩ := xq_0 K64.1
      have e68 : u59 = u66 := xk_eqi (q := 9) K63 rfl A60 A67 rfl rfl
      subst e68
      show xw J ov 100 195 (1371, [(4, .int x4), (3, .ref 167), (2, .ref 115), (1, .ref 0), (0, .ref 1000000)], [.int r61], hh62) _
      refine xi_pop (pc' := 1372) kc_195_1371 rfl rfl ?_
      refine xi_aload_n (pc' := 1373) (x := 115) kc_195_1372 rfl rfl ?_
      refine xi_aload_n (pc' := 1374) (x := 1000000) kc_195_1373 rfl rfl ?_
      refine xi_iload (pc' := 1376) (x := x4) kc_195_1374 rfl rfl ?_
      refine xi_iconst (pc' := 1377) (v := 1) kc_195_1376 rfl rfl ?_
      refine xi_iadd (pc' := 1378) (v := v1) kc_195_1377 rfl ev1 ?_
      refine xi_ialoadO (pc' := 1379) (v := a2) kc_195_1378 rfl (by decide) hov0 (xi_in (by omega) (by omega)) ea2 ?_
      refine xi_ift (pc' := 1386) kc_195_1379 rfl (xc_eq_t (X := a2.toInt) (Y := 0) rfl (by decide) (by omega)) ?_
      refine xi_iconst (pc' := 1387) (v := 0) kc_195_1386 rfl rfl ?_
      refine xi_aload_n (pc' := 1388) (x := 1000000) kc_195_1387 rfl rfl ?_
      refine xi_iload (pc' := 1390) (x := x4) kc_195_1388 rfl rfl ?_
      refine xi_iconst (pc' := 1391) (v := 2) kc_195_1390 rfl rfl ?_
      refine xi_iadd (pc' := 1392) (v := v4) kc_195_1391 rfl ev4 ?_
      refine xi_ialoadO (pc' := 1393) (v := a5) kc_195_1392 rfl (by decide) hov0 (xi_in (by omega) (by omega)) ea5 ?_
      refine xi_aload_n (pc' := 1394) (x := 1000000) kc_195_1393 rfl rfl ?_
      refine xi_iload (pc' := 1396) (x := x4) kc_195_1394 rfl rfl ?_
      refine xi_iconst (pc' := 1397) (v := 3) kc_195_1396 rfl rfl ?_
      refine xi_iadd (pc' := 1398) (v := v6) kc_195_1397 rfl ev6 ?_
      refine xi_ialoadO (pc' := 1399) (v := a7) kc_195_1398 rfl (by decide) hov0 (xi_in (by omega) (by omega)) ea7 ?_
      refine xi_iff (pc' := 1402) kc_195_1399 rfl (xc_eq_f (X := a7.toInt) (Y := 0) rfl (by decide) (by omega)) ?_
      refine xi_iconst (pc' := 1403) (v := 1) kc_195_1402 rfl rfl ?_
      refine xi_goto (pc' := 1407) kc_195_1403 rfl ?_
      obtain ⟨u69, u70, u71, u72, u73, u74, u75, u76, u77, u78, u79, u80, u81, bu69, bu70, bu71, bu72, bu73, bu74, bu75, bu76, bu77, bu78, bu79, bu80, bu81, A82⟩ := xq_115 K64.1
      refine xi_virtual (mj := 72) (as := [.int 0, .int a5, .int 1]) (st1 := []) (lv0 := [(0, .ref 115), (1, .int 0), (2, .int a5), (3, .int 1)]) kc_195_1407 rfl rfl rfl rfl rfl A82 (Nat.le_of_ble_eq_true rfl) (hJ _ _ _ _ (by decide)) (xm_le ml_72 rfl) rfl ?_
      have zc0 : (0 : Int32).toInt = 0 := by decide
      have zc1 : (1 : Int32).toInt = 1 := by decide
      refine mt_72_0 hJ hov1 hov2 (d := 98) (x1 := 0) (x2 := a5) (x3 := 1) K64.1 (by first | omega | decide) (by first | omega | decide) (fun r83 hh84 br83 K85 => ?_)
      have K86 := xk_tr K64 K85 rfl
      obtain ⟨u87, u88, bu87, bu88, A89⟩ := xq_0 K86.1
      have e90 : u59 = u88 := xk_eqi (q := 9) K85 rfl A67 A89 rfl rfl
      subst e90
      obtain ⟨u91, u92, u93, u94, u95, u96, u97, u98, u99, u100, u101, u102, u103, bu91, bu92, bu93, bu94, bu95, bu96, bu97, bu98, bu99, bu100, bu101, bu102, bu103, A104⟩ := xq_115 K86.1
      have e105 : u70 = u92 := xk_eqi (q := 1) K85 rfl A82 A104 rfl rfl
      subst e105
      show xw J ov 100 195 (1410, [(4, .int x4), (3, .ref 167), (2, .ref 115), (1, .ref 0), (0, .ref 1000000)], [.int r83], hh84) _
      refine xi_pop (pc' := 1411) kc_195_1410 rfl rfl ?_
      refine xi_goto (pc' := 1501) kc_195_1411 rfl ?_
      obtain ⟨v106, ev106⟩ : ∃ q : Int32, x4 + 6 = q := ⟨_, rfl⟩
      have zv106 : v106.toInt = (x4.toInt + 6) := by rw [← ev106]; exact (xz_add (X := x4.toInt) (Y := 6) rfl (by decide) (by omega) (by omega)).trans (by omega)
      refine xi_iinc (pc' := 1504) (x := x4) (v := v106) (lv' := [(4, .int v106), (3, .ref 167), (2, .ref 115), (1, .ref 0), (0, .ref 1000000)]) kc_195_1501 rfl rfl ev106 rfl (xm_lt ml_195 rfl) ?_
      refine xi_goto (pc' := 23) kc_195_1504 rfl ?_
      exact kk v106 hh84 (by omega) K86
  · refine xi_iff (pc' := 1343) kc_195_1340 rfl (xc_eq_f (X := a2.toInt) (Y := 0) rfl (by decide) (by omega)) ?_
    refine xi_iconst (pc' := 1344) (v := 1) kc_195_1343 rfl rfl ?_
    refine xi_goto (pc' := 1348) kc_195_1344 rfl ?_
    refine xi_aload_n (pc' := 1349) (x := 1000000) kc_195_1348 rfl rfl ?_
    refine xi_iload (pc' := 1351) (x := x4) kc_195_1349 rfl rfl ?_
    refine xi_iconst (pc' := 1352) (v := 2) kc_195_1351 rfl rfl ?_
    obtain ⟨v107, ev107⟩ : ∃ q : Int32, x4 + 2 = q := ⟨_, rfl⟩
    have zv107 : v107.toInt = (x4.toInt + 2) := by rw [← ev107]; exact (xz_add (X := x4.toInt) (Y := 2) rfl (by decide) (by omega) (by omega)).trans (by omega)
    refine xi_iadd (pc' := 1353) (v := v107) kc_195_1352 rfl ev107 ?_
    obtain ⟨a108, ea108⟩ : ∃ q : Int32, xs.getD (Int32.toNatClampNeg v107) 0 = q := ⟨_, rfl⟩
    have ra108 := xc_rng a108
    refine xi_ialoadO (pc' := 1354) (v := a108) kc_195_1353 rfl (by decide) hov0 (xi_in (by omega) (by omega)) ea108 ?_
    refine xi_aload_n (pc' := 1355) (x := 1000000) kc_195_1354 rfl rfl ?_
    refine xi_iload (pc' := 1357) (x := x4) kc_195_1355 rfl rfl ?_
    refine xi_iconst (pc' := 1358) (v := 3) kc_195_1357 rfl rfl ?_
    obtain ⟨v109, ev109⟩ : ∃ q : Int32, x4 + 3 = q := ⟨_, rfl⟩
    have zv109 : v109.toInt = (x4.toInt + 3) := by rw [← ev109]; exact (xz_add (X := x4.toInt) (Y := 3) rfl (by decide) (by omega) (by omega)).trans (by omega)
    refine xi_iadd (pc' := 1359) (v := v109) kc_195_1358 rfl ev109 ?_
    obtain ⟨a110, ea110⟩ : ∃ q : Int32, xs.getD (Int32.toNatClampNeg v109) 0 = q := ⟨_, rfl⟩
    have ra110 := xc_rng a110
    refine xi_ialoadO (pc' := 1360) (v := a110) kc_195_1359 rfl (by decide) hov0 (xi_in (by omega) (by omega)) ea110 ?_
    by_cases c111 : a110.toInt = 0
    · refine xi_ift (pc' := 1367) kc_195_1360 rfl (xc_eq_t (X := a110.toInt) (Y := 0) rfl (by decide) (by omega)) ?_
      refine xi_iconst (pc' := 1368) (v := 0) kc_195_1367 rfl rfl ?_
      obtain ⟨u112, u113, bu112, bu113, A114⟩ := xq_0 K.1
      refine xi_virtual (mj := 180) (as := [.int 1, .int a108, .int 0]) (st1 := []) (lv0 := [(0, .ref 0), (1, .int 1), (2, .int a108), (3, .int 0)]) kc_195_1368 rfl rfl rfl rfl rfl A114 (Nat.le_of_ble_eq_true rfl) (hJ _ _ _ _ (by decide)) (xm_le ml_180 rfl) rfl ?_
      have zc0 : (0 : Int32).toInt = 0 := by decide
      have zc1 : (1 : Int32).toInt = 1 := by decide
      refine mt_180_0 hJ hov1 hov2 (d := 97) (x1 := 1) (x2 := a108) (x3 := 0) K.1 (by first | omega | decide) (by first | omega | decide) (fun r115 hh116 br115 K117 => ?_)
      have K118 := xk_tr K K117 rfl
      obtain ⟨u119, u120, bu119, bu120, A121⟩ := xq_0 K118.1
      have e122 : u113 = u120 := xk_eqi (q := 9) K117 rfl A114 A121 rfl rfl
      subst e122
      show xw J ov 100 195 (1371, [(4, .int x4), (3, .ref 167), (2, .ref 115), (1, .ref 0), (0, .ref 1000000)], [.int r115], hh116) _
      refine xi_pop (pc' := 1372) kc_195_1371 rfl rfl ?_
      refine xi_aload_n (pc' := 1373) (x := 115) kc_195_1372 rfl rfl ?_
      refine xi_aload_n (pc' := 1374) (x := 1000000) kc_195_1373 rfl rfl ?_
      refine xi_iload (pc' := 1376) (x := x4) kc_195_1374 rfl rfl ?_
      refine xi_iconst (pc' := 1377) (v := 1) kc_195_1376 rfl rfl ?_
      refine xi_iadd (pc' := 1378) (v := v1) kc_195_1377 rfl ev1 ?_
      refine xi_ialoadO (pc' := 1379) (v := a2) kc_195_1378 rfl (by decide) hov0 (xi_in (by omega) (by omega)) ea2 ?_
      refine xi_iff (pc' := 1382) kc_195_1379 rfl (xc_eq_f (X := a2.toInt) (Y := 0) rfl (by decide) (by omega)) ?_
      refine xi_iconst (pc' := 1383) (v := 1) kc_195_1382 rfl rfl ?_
      refine xi_goto (pc' := 1387) kc_195_1383 rfl ?_
      refine xi_aload_n (pc' := 1388) (x := 1000000) kc_195_1387 rfl rfl ?_
      refine xi_iload (pc' := 1390) (x := x4) kc_195_1388 rfl rfl ?_
      refine xi_iconst (pc' := 1391) (v := 2) kc_195_1390 rfl rfl ?_
      refine xi_iadd (pc' := 1392) (v := v107) kc_195_1391 rfl ev107 ?_
      refine xi_ialoadO (pc' := 1393) (v := a108) kc_195_1392 rfl (by decide) hov0 (xi_in (by omega) (by omega)) ea108 ?_
      refine xi_aload_n (pc' := 1394) (x := 1000000) kc_195_1393 rfl rfl ?_
      refine xi_iload (pc' := 1396) (x := x4) kc_195_1394 rfl rfl ?_
      refine xi_iconst (pc' := 1397) (v := 3) kc_195_1396 rfl rfl ?_
      refine xi_iadd (pc' := 1398) (v := v109) kc_195_1397 rfl ev109 ?_
      refine xi_ialoadO (pc' := 1399) (v := a110) kc_195_1398 rfl (by decide) hov0 (xi_in (by omega) (by omega)) ea110 ?_
      refine xi_ift (pc' := 1406) kc_195_1399 rfl (xc_eq_t (X := a110.toInt) (Y := 0) rfl (by decide) (by omega)) ?_
      refine xi_iconst (pc' := 1407) (v := 0) kc_195_1406 rfl rfl ?_
      obtain ⟨u123, u124, u125, u126, u127, u128, u129, u130, u131, u132, u133, u134, u135, bu123, bu124, bu125, bu126, bu127, bu128, bu129, bu130, bu131, bu132, bu133, bu134, bu135, A136⟩ := xq_115 K118.1
      refine xi_virtual (mj := 72) (as := [.int 1, .int a108, .int 0]) (st1 := []) (lv0 := [(0, .ref 115), (1, .int 1), (2, .int a108), (3, .int 0)]) kc_195_1407 rfl rfl rfl rfl rfl A136 (Nat.le_of_ble_eq_true rfl) (hJ _ _ _ _ (by decide)) (xm_le ml_72 rfl) rfl ?_
      have zc0 : (0 : Int32).toInt = 0 := by decide
      have zc1 : (1 : Int32).toInt = 1 := by decide
      refine mt_72_0 hJ hov1 hov2 (d := 98) (x1 := 1) (x2 := a108) (x3 := 0) K118.1 (by first | omega | decide) (by first | omega | decide) (fun r137 hh138 br137 K139 => ?_)
      have K140 := xk_tr K118 K139 rfl
      obtain ⟨u141, u142, bu141, bu142, A143⟩ := xq_0 K140.1
      have e144 : u113 = u142 := xk_eqi (q := 9) K139 rfl A121 A143 rfl rfl
      subst e144
      obtain ⟨u145, u146, u147, u148, u149, u150, u151, u152, u153, u154, u155, u156, u157, bu145, bu146, bu147, bu148, bu149, bu150, bu151, bu152, bu153, bu154, bu155, bu156, bu157, A158⟩ := xq_115 K140.1
      have e159 : u124 = u146 := xk_eqi (q := 1) K139 rfl A136 A158 rfl rfl
      subst e159
      show xw J ov 100 195 (1410, [(4, .int x4), (3, .ref 167), (2, .ref 115), (1, .ref 0), (0, .ref 1000000)], [.int r137], hh138) _
      refine xi_pop (pc' := 1411) kc_195_1410 rfl rfl ?_
      refine xi_goto (pc' := 1501) kc_195_1411 rfl ?_
      obtain ⟨v160, ev160⟩ : ∃ q : Int32, x4 + 6 = q := ⟨_, rfl⟩
      have zv160 : v160.toInt = (x4.toInt + 6) := by rw [← ev160]; exact (xz_add (X := x4.toInt) (Y := 6) rfl (by decide) (by omega) (by omega)).trans (by omega)
      refine xi_iinc (pc' := 1504) (x := x4) (v := v160) (lv' := [(4, .int v160), (3, .ref 167), (2, .ref 115), (1, .ref 0), (0, .ref 1000000)]) kc_195_1501 rfl rfl ev160 rfl (xm_lt ml_195 rfl) ?_
      refine xi_goto (pc' := 23) kc_195_1504 rfl ?_
      exact kk v160 hh138 (by omega) K140
    · refine xi_iff (pc' := 1363) kc_195_1360 rfl (xc_eq_f (X := a110.toInt) (Y := 0) rfl (by decide) (by omega)) ?_
      refine xi_iconst (pc' := 1364) (v := 1) kc_195_1363 rfl rfl ?_
      refine xi_goto (pc' := 1368) kc_195_1364 rfl ?_
      obtain ⟨u161, u162, bu161, bu162, A163⟩ := xq_0 K.1
      refine xi_virtual (mj := 180) (as := [.int 1, .int a108, .int 1]) (st1 := []) (lv0 := [(0, .ref 0), (1, .int 1), (2, .int a108), (3, .int 1)]) kc_195_1368 rfl rfl rfl rfl rfl A163 (Nat.le_of_ble_eq_true rfl) (hJ _ _ _ _ (by decide)) (xm_le ml_180 rfl) rfl ?_
      have zc1 : (1 : Int32).toInt = 1 := by decide
      refine mt_180_0 hJ hov1 hov2 (d := 97) (x1 := 1) (x2 := a108) (x3 := 1) K.1 (by first | omega | decide) (by first | omega | decide) (fun r164 hh165 br164 K166 => ?_)
      have K167 := xk_tr K K166 rfl
      obtain ⟨u168, u169, bu168, bu169, A170⟩ := xq_0 K167.1
      have e171 : u162 = u169 := xk_eqi (q := 9) K166 rfl A163 A170 rfl rfl
      subst e171
      show xw J ov 100 195 (1371, [(4, .int x4), (3, .ref 167), (2, .ref 115), (1, .ref 0), (0, .ref 1000000)], [.int r164], hh165) _
      refine xi_pop (pc' := 1372) kc_195_1371 rfl rfl ?_
      refine xi_aload_n (pc' := 1373) (x := 115) kc_195_1372 rfl rfl ?_
      refine xi_aload_n (pc' := 1374) (x := 1000000) kc_195_1373 rfl rfl ?_
      refine xi_iload (pc' := 1376) (x := x4) kc_195_1374 rfl rfl ?_
      refine xi_iconst (pc' := 1377) (v := 1) kc_195_1376 rfl rfl ?_
      refine xi_iadd (pc' := 1378) (v := v1) kc_195_1377 rfl ev1 ?_
      refine xi_ialoadO (pc' := 1379) (v := a2) kc_195_1378 rfl (by decide) hov0 (xi_in (by omega) (by omega)) ea2 ?_
      refine xi_iff (pc' := 1382) kc_195_1379 rfl (xc_eq_f (X := a2.toInt) (Y := 0) rfl (by decide) (by omega)) ?_
      refine xi_iconst (pc' := 1383) (v := 1) kc_195_1382 rfl rfl ?_
      refine xi_goto (pc' := 1387) kc_195_1383 rfl ?_
      refine xi_aload_n (pc' := 1388) (x := 1000000) kc_195_1387 rfl rfl ?_
      refine xi_iload (pc' := 1390) (x := x4) kc_195_1388 rfl rfl ?_
      refine xi_iconst (pc' := 1391) (v := 2) kc_195_1390 rfl rfl ?_
      refine xi_iadd (pc' := 1392) (v := v107) kc_195_1391 rfl ev107 ?_
      refine xi_ialoadO (pc' := 1393) (v := a108) kc_195_1392 rfl (by decide) hov0 (xi_in (by omega) (by omega)) ea108 ?_
      refine xi_aload_n (pc' := 1394) (x := 1000000) kc_195_1393 rfl rfl ?_
      refine xi_iload (pc' := 1396) (x := x4) kc_195_1394 rfl rfl ?_
      refine xi_iconst (pc' := 1397) (v := 3) kc_195_1396 rfl rfl ?_
      refine xi_iadd (pc' := 1398) (v := v109) kc_195_1397 rfl ev109 ?_
      refine xi_ialoadO (pc' := 1399) (v := a110) kc_195_1398 rfl (by decide) hov0 (xi_in (by omega) (by omega)) ea110 ?_
      refine xi_iff (pc' := 1402) kc_195_1399 rfl (xc_eq_f (X := a110.toInt) (Y := 0) rfl (by decide) (by omega)) ?_
      refine xi_iconst (pc' := 1403) (v := 1) kc_195_1402 rfl rfl ?_
      refine xi_goto (pc' := 1407) kc_195_1403 rfl ?_
      obtain ⟨u172, u173, u174, u175, u176, u177, u178, u179, u180, u181, u182, u183, u184, bu172, bu173, bu174, bu175, bu176, bu177, bu178, bu179, bu180, bu181, bu182, bu183, bu184, A185⟩ := xq_115 K167.1
      refine xi_virtual (mj := 72) (as := [.int 1, .int a108, .int 1]) (st1 := []) (lv0 := [(0, .ref 115), (1, .int 1), (2, .int a108), (3, .int 1)]) kc_195_1407 rfl rfl rfl rfl rfl A185 (Nat.le_of_ble_eq_true rfl) (hJ _ _ _ _ (by decide)) (xm_le ml_72 rfl) rfl ?_
      have zc1 : (1 : Int32).toInt = 1 := by decide
      refine mt_72_0 hJ hov1 hov2 (d := 98) (x1 := 1) (x2 := a108) (x3 := 1) K167.1 (by first | omega | decide) (by first | omega | decide) (fun r186 hh187 br186 K188 => ?_)
      have K189 := xk_tr K167 K188 rfl
      obtain ⟨u190, u191, bu190, bu191, A192⟩ := xq_0 K189.1
      have e193 : u162 = u191 := xk_eqi (q := 9) K188 rfl A170 A192 rfl rfl
      subst e193
      obtain ⟨u194, u195, u196, u197, u198, u199, u200, u201, u202, u203, u204, u205, u206, bu194, bu195, bu196, bu197, bu198, bu199, bu200, bu201, bu202, bu203, bu204, bu205, bu206, A207⟩ := xq_115 K189.1
      have e208 : u173 = u195 := xk_eqi (q := 1) K188 rfl A185 A207 rfl rfl
      subst e208
      show xw J ov 100 195 (1410, [(4, .int x4), (3, .ref 167), (2, .ref 115), (1, .ref 0), (0, .ref 1000000)], [.int r186], hh187) _
      refine xi_pop (pc' := 1411) kc_195_1410 rfl rfl ?_
      refine xi_goto (pc' := 1501) kc_195_1411 rfl ?_
      obtain ⟨v209, ev209⟩ : ∃ q : Int32, x4 + 6 = q := ⟨_, rfl⟩
      have zv209 : v209.toInt = (x4.toInt + 6) := by rw [← ev209]; exact (xz_add (X := x4.toInt) (Y := 6) rfl (by decide) (by omega) (by omega)).trans (by omega)
      refine xi_iinc (pc' := 1504) (x := x4) (v := v209) (lv' := [(4, .int v209), (3, .ref 167), (2, .ref 115), (1, .ref 0), (0, .ref 1000000)]) kc_195_1501 rfl rfl ev209 rfl (xm_lt ml_195 rfl) ?_
      refine xi_goto (pc' := 23) kc_195_1504 rfl ?_
      exact kk v209 hh187 (by omega) K189
set_option maxHeartbeats 8000000 in
theorem lc_31 {J : xe_J} {ov : List (List Int32)} (hJ : ∀ d mj as h, mj ≠ xe_loff → J d mj as h = none) (hov1 : ov[1]? = some [10, 0, 0, 0, 0, 0]) (hov2 : ov[2]? = some [99, 30, 50, 50, 1, 99999]) {xs : List Int32} (hov0 : ov[0]? = some xs) {Q : Option Value → xe_H → Prop} {h : xe_H} {x4 : Int32} (hi0 : 0 ≤ x4.toInt) (hi1 : x4.toInt + 6 ≤ xs.length) (hi2 : x4.toInt ≤ 3066) (T : xt h) (kk : ∀ (i : Int32) (h' : xe_H), i.toInt = x4.toInt + 6 → xk [(13, 0), (122, 0), (16, 0), (19, 0), (22, 0), (25, 0), (28, 0)] h h' → xw J ov 100 195 (23, [(4, .int i), (3, .ref 167), (2, .ref 115), (1, .ref 0), (0, .ref 1000000)], [], h') Q) : xw J ov 100 195 (1414, [(4, .int x4), (3, .ref 167), (2, .ref 115), (1, .ref 0), (0, .ref 1000000)], [], h) Q := by
  have K : xk [(13, 0), (122, 0), (16, 0), (19, 0), (22, 0), (25, 0), (28, 0)] h h := xk_re T
  refine xi_aload_n (pc' := 1415) (x := 0) kc_195_1414 rfl rfl ?_
  refine xi_aload_n (pc' := 1416) (x := 1000000) kc_195_1415 rfl rfl ?_
  refine xi_iload (pc' := 1418) (x := x4) kc_195_1416 rfl rfl ?_
  refine xi_iconst (pc' := 1419) (v := 1) kc_195_1418 rfl rfl ?_
  obtain ⟨v1, ev1⟩ : ∃ q : Int32, x4 + 1 = q := ⟨_, rfl⟩
  have zv1 : v1.toInt = (x4.toInt + 1) := by rw [← ev1]; exact (xz_add (X := x4.toInt) (Y := 1) rfl (by decide) (by omega) (by omega)).trans (by omega)
  refine xi_iadd (pc' := 1420) (v := v1) kc_195_1419 rfl ev1 ?_
  obtain ⟨a2, ea2⟩ : ∃ q : Int32, xs.getD (Int32.toNatClampNeg v1) 0 = q := ⟨_, rfl⟩
  have ra2 := xc_rng a2
  refine xi_ialoadO (pc' := 1421) (v := a2) kc_195_1420 rfl (by decide) hov0 (xi_in (by omega) (by omega)) ea2 ?_
  refine xi_aload_n (pc' := 1422) (x := 1000000) kc_195_1421 rfl rfl ?_
  refine xi_iload (pc' := 1424) (x := x4) kc_195_1422 rfl rfl ?_
  refine xi_iconst (pc' := 1425) (v := 2) kc_195_1424 rfl rfl ?_
  obtain ⟨v3, ev3⟩ : ∃ q : Int32, x4 + 2 = q := ⟨_, rfl⟩
  have zv3 : v3.toInt = (x4.toInt + 2) := by rw [← ev3]; exact (xz_add (X := x4.toInt) (Y := 2) rfl (by decide) (by omega) (by omega)).trans (by omega)
  refine xi_iadd (pc' := 1426) (v := v3) kc_195_1425 rfl ev3 ?_
  obtain ⟨a4, ea4⟩ : ∃ q : Int32, xs.getD (Int32.toNatClampNeg v3) 0 = q := ⟨_, rfl⟩
  have ra4 := xc_rng a4
  refine xi_ialoadO (pc' := 1427) (v := a4) kc_195_1426 rfl (by decide) hov0 (xi_in (by omega) (by omega)) ea4 ?_
  obtain ⟨u5, u6, bu5, bu6, A7⟩ := xq_0 K.1
  refine xi_virtual (mj := 182) (as := [.int a2, .int a4]) (st1 := []) (lv0 := [(0, .ref 0), (1, .int a2), (2, .int a4)]) kc_195_1427 rfl rfl rfl rfl rfl A7 (Nat.le_of_ble_eq_true rfl) (hJ _ _ _ _ (by decide)) (xm_le ml_182 rfl) rfl ?_
  refine mt_182_0 hJ hov1 hov2 (d := 92) (x1 := a2) (x2 := a4) K.1 (fun r8 hh9 K10 => ?_)
  have br8 := xc_rng r8
  have K11 := xk_tr K K10 rfl
  obtain ⟨u12, u13, bu12, bu13, A14⟩ := xq_0 K11.1
  have e15 : u6 = u13 := xk_eqi (q := 9) K10 rfl A7 A14 rfl rfl
  subst e15
  show xw J ov 100 195 (1430, [(4, .int x4), (3, .ref 167), (2, .ref 115), (1, .ref 0), (0, .ref 1000000)], [.int r8], hh9) _
  refine xi_pop (pc' := 1431) kc_195_1430 rfl rfl ?_
  refine xi_aload_n (pc' := 1432) (x := 115) kc_195_1431 rfl rfl ?_
  refine xi_aload_n (pc' := 1433) (x := 1000000) kc_195_1432 rfl rfl ?_
  refine xi_iload (pc' := 1435) (x := x4) kc_195_1433 rfl rfl ?_
  refine xi_iconst (pc' := 1436) (v := 1) kc_195_1435 rfl rfl ?_
  refine xi_iadd (pc' := 1437) (v := v1) kc_195_1436 rfl ev1 ?_
  refine xi_ialoadO (pc' := 1438) (v := a2) kc_195_1437 rfl (by decide) hov0 (xi_in (by omega) (by omega)) ea2 ?_
  refine xi_aload_n (pc' := 1439) (x := 1000000) kc_195_1438 rfl rfl ?_
  refine xi_iload (pc' := 1441) (x := x4) kc_195_1439 rfl rfl ?_
  refine xi_iconst (pc' := 1442) (v := 2) kc_195_1441 rfl rfl ?_
  refine xi_iadd (pc' := 1443) (v := v3) kc_195_1442 rfl ev3 ?_
  refine xi_ialoadO (pc' := 1444) (v := a4) kc_195_1443 rfl (by decide) hov0 (xi_in (by omega) (by omega)) ea4 ?_
  obtain ⟨u16, u17, u18, u19, u20, u21, u22, u23, u24, u25, u26, u27, u28, bu16, bu17, bu18, bu19, bu20, bu21, bu22, bu23, bu24, bu25, bu26, bu27, bu28, A29⟩ := xq_115 K11.1
  refine xi_virtual (mj := 73) (as := [.int a2, .int a4]) (st1 := []) (lv0 := [(0, .ref 115), (1, .int a2), (2, .int a4)]) kc_195_1444 rfl rfl rfl rfl rfl A29 (Nat.le_of_ble_eq_true rfl) (hJ _ _ _ _ (by decide)) (xm_le ml_73 rfl) rfl ?_
  refine mt_73_0 hJ hov1 hov2 (d := 91) (x1 := a2) (x2 := a4) K11.1 (fun r30 hh31 K32 => ?_)
  have br30 := xc_rng r30
  have K33 := xk_tr K11 K32 rfl
  obtain ⟨u34, u35, bu34, bu35, A36⟩ := xq_0 K33.1
  have e37 : u6 = u35 := xk_eqi (q := 9) K32 rfl A14 A36 rfl rfl
  subst e37
  obtain ⟨u38, u39, u40, u41, u42, u43, u44, u45, u46, u47, u48, u49, u50, bu38, bu39, bu40, bu41, bu42, bu43, bu44, bu45, bu46, bu47, bu48, bu49, bu50, A51⟩ := xq_115 K33.1
  have e52 : u17 = u39 := xk_eqi (q := 1) K32 rfl A29 A51 rfl rfl
  subst e52
  show xw J ov 100 195 (1447, [(4, .int x4), (3, .ref 167), (2, .ref 115), (1, .ref 0), (0, .ref 1000000)], [.int r30], hh31) _
  refine xi_pop (pc' := 1448) kc_195_1447 rfl rfl ?_
  refine xi_goto (pc' := 1501) kc_195_1448 rfl ?_
  obtain ⟨v53, ev53⟩ : ∃ q : Int32, x4 + 6 = q := ⟨_, rfl⟩
  have zv53 : v53.toInt = (x4.toInt + 6) := by rw [← ev53]; exact (xz_add (X := x4.toInt) (Y := 6) rfl (by decide) (by omega) (by omega)).trans (by omega)
  refine xi_iinc (pc' := 1504) (x := x4) (v := v53) (lv' := [(4, .int v53), (3, .ref 167), (2, .ref 115), (1, .ref 0), (0, .ref 1000000)]) kc_195_1501 rfl rfl ev53 rfl (xm_lt ml_195 rfl) ?_
  refine xi_goto (pc' := 23) kc_195_1504 rfl ?_
  exact kk v53 hh31 (by omega) K33
set_option maxHeartbeats 8000000 in
theorem lc_32 {J : xe_J} {ov : List (List Int32)} (hJ : ∀ d mj as h, mj ≠ xe_loff → J d mj as h = none) (hov1 : ov[1]? = some [10, 0, 0, 0, 0, 0]) (hov2 : ov[2]? = some [99, 30, 50, 50, 1, 99999]) {xs : List Int32} (hov0 : ov[0]? = some xs) {Q : Option Value → xe_H → Prop} {h : xe_H} {x4 : Int32} (hi0 : 0 ≤ x4.toInt) (hi1 : x4.toInt + 6 ≤ xs.length) (hi2 : x4.toInt ≤ 3066) (T : xt h) (kk : ∀ (i : Int32) (h' : xe_H), i.toInt = x4.toInt + 6 → xk [(13, 0), (122, 0), (16, 0), (19, 0), (22, 0), (25, 0), (28, 0)] h h' → xw J ov 100 195 (23, [(4, .int i), (3, .ref 167), (2, .ref 115), (1, .ref 0), (0, .ref 1000000)], [], h') Q) : xw J ov 100 195 (1451, [(4, .int x4), (3, .ref 167), (2, .ref 115), (1, .ref 0), (0, .ref 1000000)], [], h) Q := by
  have K : xk [(13, 0), (122, 0), (16, 0), (19, 0), (22, 0), (25, 0), (28, 0)] h h := xk_re T
  refine xi_aload_n (pc' := 1452) (x := 0) kc_195_1451 rfl rfl ?_
  refine xi_aload_n (pc' := 1453) (x := 1000000) kc_195_1452 rfl rfl ?_
  refine xi_iload (pc' := 1455) (x := x4) kc_195_1453 rfl rfl ?_
  refine xi_iconst (pc' := 1456) (v := 1) kc_195_1455 rfl rfl ?_
  obtain ⟨v1, ev1⟩ : ∃ q : Int32, x4 + 1 = q := ⟨_, rfl⟩
  have zv1 : v1.toInt = (x4.toInt + 1) := by rw [← ev1]; exact (xz_add (X := x4.toInt) (Y := 1) rfl (by decide) (by omega) (by omega)).trans (by omega)
  refine xi_iadd (pc' := 1457) (v := v1) kc_195_1456 rfl ev1 ?_
  obtain ⟨a2, ea2⟩ : ∃ q : Int32, xs.getD (Int32.toNatClampNeg v1) 0 = q := ⟨_, rfl⟩
  have ra2 := xc_rng a2
  refine xi_ialoadO (pc' := 1458) (v := a2) kc_195_1457 rfl (by decide) hov0 (xi_in (by omega) (by omega)) ea2 ?_
  obtain ⟨u3, u4, bu3, bu4, A5⟩ := xq_0 K.1
  refine xi_virtual (mj := 188) (as := [.int a2]) (st1 := []) (lv0 := [(0, .ref 0), (1, .int a2)]) kc_195_1458 rfl rfl rfl rfl rfl A5 (Nat.le_of_ble_eq_true rfl) (hJ _ _ _ _ (by decide)) (xm_le ml_188 rfl) rfl ?_
  refine mt_188_0 hJ hov1 hov2 (d := 97) (x1 := a2) K.1 (fun r6 hh7 br6 K8 => ?_)
  have K9 := xk_tr K K8 rfl
  obtain ⟨u10, u11, bu10, bu11, A12⟩ := xq_0 K9.1
  have e13 : u4 = u11 := xk_eqi (q := 9) K8 rfl A5 A12 rfl rfl
  subst e13
  show xw J ov 100 195 (1461, [(4, .int x4), (3, .ref 167), (2, .ref 115), (1, .ref 0), (0, .ref 1000000)], [.int r6], hh7) _
  refine xi_pop (pc' := 1462) kc_195_1461 rfl rfl ?_
  refine xi_aload_n (pc' := 1463) (x := 115) kc_195_1462 rfl rfl ?_
  refine xi_aload_n (pc' := 1464) (x := 1000000) kc_195_1463 rfl rfl ?_
  refine xi_iload (pc' := 1466) (x := x4) kc_195_1464 rfl rfl ?_
  refine xi_iconst (pc' := 1467) (v := 1) kc_195_1466 rfl rfl ?_
  refine xi_iadd (pc' := 1468) (v := v1) kc_195_1467 rfl ev1 ?_
  refine xi_ialoadO (pc' := 1469) (v := a2) kc_195_1468 rfl (by decide) hov0 (xi_in (by omega) (by omega)) ea2 ?_
  obtain ⟨u14, u15, u16, u17, u18, u19, u20, u21, u22, u23, u24, u25, u26, bu14, bu15, bu16, bu17, bu18, bu19, bu20, bu21, bu22, bu23, bu24, bu25, bu26, A27⟩ := xq_115 K9.1
  refine xi_virtual (mj := 74) (as := [.int a2]) (st1 := []) (lv0 := [(0, .ref 115), (1, .int a2)]) kc_195_1469 rfl rfl rfl rfl rfl A27 (Nat.le_of_ble_eq_true rfl) (hJ _ _ _ _ (by decide)) (xm_le ml_74 rfl) rfl ?_
  refine mt_74_0 hJ hov1 hov2 (d := 98) (x1 := a2) K9.1 (fun r28 hh29 br28 K30 => ?_)
  have K31 := xk_tr K9 K30 rfl
  obtain ⟨u32, u33, bu32, bu33, A34⟩ := xq_0 K31.1
  have e35 : u4 = u33 := xk_eqi (q := 9) K30 rfl A12 A34 rfl rfl
  subst e35
  obtain ⟨u36, u37, u38, u39, u40, u41, u42, u43, u44, u45, u46, u47, u48, bu36, bu37, bu38, bu39, bu40, bu41, bu42, bu43, bu44, bu45, bu46, bu47, bu48, A49⟩ := xq_115 K31.1
  have e50 : u15 = u37 := xk_eqi (q := 1) K30 rfl A27 A49 rfl rfl
  subst e50
  show xw J ov 100 195 (1472, [(4, .int x4), (3, .ref 167), (2, .ref 115), (1, .ref 0), (0, .ref 1000000)], [.int r28], hh29) _
  refine xi_pop (pc' := 1473) kc_195_1472 rfl rfl ?_
  refine xi_goto (pc' := 1501) kc_195_1473 rfl ?_
  obtain ⟨v51, ev51⟩ : ∃ q : Int32, x4 + 6 = q := ⟨_, rfl⟩
  have zv51 : v51.toInt = (x4.toInt + 6) := by rw [← ev51]; exact (xz_add (X := x4.toInt) (Y := 6) rfl (by decide) (by omega) (by omega)).trans (by omega)
  refine xi_iinc (pc' := 1504) (x := x4) (v := v51) (lv' := [(4, .int v51), (3, .ref 167), (2, .ref 115), (1, .ref 0), (0, .ref 1000000)]) kc_195_1501 rfl rfl ev51 rfl (xm_lt ml_195 rfl) ?_
  refine xi_goto (pc' := 23) kc_195_1504 rfl ?_
  exact kk v51 hh29 (by omega) K31
set_option maxHeartbeats 8000000 in
theorem lc_33 {J : xe_J} {ov : List (List Int32)} (hJ : ∀ d mj as h, mj ≠ xe_loff → J d mj as h = none) (hov1 : ov[1]? = some [10, 0, 0, 0, 0, 0]) (hov2 : ov[2]? = some [99, 30, 50, 50, 1, 99999]) {xs : List Int32} (hov0 : ov[0]? = some xs) {Q : Option Value → xe_H → Prop} {h : xe_H} {x4 : Int32} (hi0 : 0 ≤ x4.toInt) (hi1 : x4.toInt + 6 ≤ xs.length) (hi2 : x4.toInt ≤ 3066) (T : xt h) (kk : ∀ (i : Int32) (h' : xe_H), i.toInt = x4.toInt + 6 → xk [(13, 0), (122, 0), (16, 0), (19, 0), (22, 0), (25, 0), (28, 0)] h h' → xw J ov 100 195 (23, [(4, .int i), (3, .ref 167), (2, .ref 115), (1, .ref 0), (0, .ref 1000000)], [], h') Q) : xw J ov 100 195 (1476, [(4, .int x4), (3, .ref 167), (2, .ref 115), (1, .ref 0), (0, .ref 1000000)], [], h) Q := by
  have K : xk [(13, 0), (122, 0), (16, 0), (19, 0), (22, 0), (25, 0), (28, 0)] h h := xk_re T
  refine xi_aload_n (pc' := 1477) (x := 0) kc_195_1476 rfl rfl ?_
  refine xi_aload_n (pc' := 1478) (x := 1000000) kc_195_1477 rfl rfl ?_
  refine xi_iload (pc' := 1480) (x := x4) kc_195_1478 rfl rfl ?_
  refine xi_iconst (pc' := 1481) (v := 1) kc_195_1480 rfl rfl ?_
  obtain ⟨v1, ev1⟩ : ∃ q : Int32, x4 + 1 = q := ⟨_, rfl⟩
  have zv1 : v1.toInt = (x4.toInt + 1) := by rw [← ev1]; exact (xz_add (X := x4.toInt) (Y := 1) rfl (by decide) (by omega) (by omega)).trans (by omega)
  refine xi_iadd (pc' := 1482) (v := v1) kc_195_1481 rfl ev1 ?_
  obtain ⟨a2, ea2⟩ : ∃ q : Int32, xs.getD (Int32.toNatClampNeg v1) 0 = q := ⟨_, rfl⟩
  have ra2 := xc_rng a2
  refine xi_ialoadO (pc' := 1483) (v := a2) kc_195_1482 rfl (by decide) hov0 (xi_in (by omega) (by omega)) ea2 ?_
  obtain ⟨u3, u4, bu3, bu4, A5⟩ := xq_0 K.1
  refine xi_virtual (mj := 190) (as := [.int a2]) (st1 := []) (lv0 := [(0, .ref 0), (1, .int a2)]) kc_195_1483 rfl rfl rfl rfl rfl A5 (Nat.le_of_ble_eq_true rfl) (hJ _ _ _ _ (by decide)) (xm_le ml_190 rfl) rfl ?_
  refine mt_190_0 hJ hov1 hov2 (d := 96) (x1 := a2) K.1 (fun r6 hh7 K8 => ?_)
  have br6 := xc_rng r6
  have K9 := xk_tr K K8 rfl
  obtain ⟨u10, u11, bu10, bu11, A12⟩ := xq_0 K9.1
  have e13 : u4 = u11 := xk_eqi (q := 9) K8 rfl A5 A12 rfl rfl
  subst e13
  show xw J ov 100 195 (1486, [(4, .int x4), (3, .ref 167), (2, .ref 115), (1, .ref 0), (0, .ref 1000000)], [.int r6], hh7) _
  refine xi_pop (pc' := 1487) kc_195_1486 rfl rfl ?_
  refine xi_aload_n (pc' := 1488) (x := 115) kc_195_1487 rfl rfl ?_
  refine xi_aload_n (pc' := 1489) (x := 1000000) kc_195_1488 rfl rfl ?_
  refine xi_iload (pc' := 1491) (x := x4) kc_195_1489 rfl rfl ?_
  refine xi_iconst (pc' := 1492) (v := 1) kc_195_1491 rfl rfl ?_
  refine xi_iadd (pc' := 1493) (v := v1) kc_195_1492 rfl ev1 ?_
  refine xi_ialoadO (pc' := 1494) (v := a2) kc_195_1493 rfl (by decide) hov0 (xi_in (by omega) (by omega)) ea2 ?_
  obtain ⟨u14, u15, u16, u17, u18, u19, u20, u21, u22, u23, u24, u25, u26, bu14, bu15, bu16, bu17, bu18, bu19, bu20, bu21, bu22, bu23, bu24, bu25, bu26, A27⟩ := xq_115 K9.1
  refine xi_virtual (mj := 75) (as := [.int a2]) (st1 := []) (lv0 := [(0, .ref 115), (1, .int a2)]) kc_195_1494 rfl rfl rfl rfl rfl A27 (Nat.le_of_ble_eq_true rfl) (hJ _ _ _ _ (by decide)) (xm_le ml_75 rfl) rfl ?_
  refine mt_75_0 hJ hov1 hov2 (d := 97) (x1 := a2) K9.1 (fun r28 hh29 K30 => ?_)
  have br28 := xc_rng r28
  have K31 := xk_tr K9 K30 rfl
  obtain ⟨u32, u33, bu32, bu33, A34⟩ := xq_0 K31.1
  have e35 : u4 = u33 := xk_eqi (q := 9) K30 rfl A12 A34 rfl rfl
  subst e35
  obtain ⟨u36, u37, u38, u39, u40, u41, u42, u43, u44, u45, u46, u47, u48, bu36, bu37, bu38, bu39, bu40, bu41, bu42, bu43, bu44, bu45, bu46, bu47, bu48, A49⟩ := xq_115 K31.1
  have e50 : u15 = u37 := xk_eqi (q := 1) K30 rfl A27 A49 rfl rfl
  subst e50
  show xw J ov 100 195 (1497, [(4, .int x4), (3, .ref 167), (2, .ref 115), (1, .ref 0), (0, .ref 1000000)], [.int r28], hh29) _
  refine xi_pop (pc' := 1498) kc_195_1497 rfl rfl ?_
  refine xi_goto (pc' := 1501) kc_195_1498 rfl ?_
  obtain ⟨v51, ev51⟩ : ∃ q : Int32, x4 + 6 = q := ⟨_, rfl⟩
  have zv51 : v51.toInt = (x4.toInt + 6) := by rw [← ev51]; exact (xz_add (X := x4.toInt) (Y := 6) rfl (by decide) (by omega) (by omega)).trans (by omega)
  refine xi_iinc (pc' := 1504) (x := x4) (v := v51) (lv' := [(4, .int v51), (3, .ref 167), (2, .ref 115), (1, .ref 0), (0, .ref 1000000)]) kc_195_1501 rfl rfl ev51 rfl (xm_lt ml_195 rfl) ?_
  refine xi_goto (pc' := 23) kc_195_1504 rfl ?_
  exact kk v51 hh29 (by omega) K31
