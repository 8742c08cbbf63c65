def xI (h : xe_H) : Prop := xGR h xG_wall 0 125
theorem xI_kept {h h' : xe_H} (I : xI h) (F : ∀ l : Nat × Nat, List.elem l [(29, 0), (31, 0), (33, 0), (35, 0), (37, 0), (39, 0), (41, 0), (43, 0), (45, 0), (47, 0), (49, 0), (51, 0), (125, 0)] = true → xl h' l = xl h l) : xI h' := xGR_fr I F rfl rfl
set_option maxHeartbeats 8000000 in
theorem lc_d {J : xe_J} {ov : List (List Int32)} (hJ : ∀ d mj as h, mj ≠ xe_loff → J d mj as h = none) (hov1 : ov[1]? = some [10, 0, 0, 0, 0, 0]) (hov2 : ov[2]? = some [99, 30, 50, 50, 1, 99999]) {xs : List Int32} (hov0 : ov[0]? = some xs) {Q : Option Value → xe_H → Prop} {h : xe_H} {x4 : Int32} (hi0 : 0 ≤ x4.toInt) (hi1 : x4.toInt + 6 ≤ xs.length) (hi2 : x4.toInt ≤ 3066) (T : xt h) (kk : ∀ (i : Int32) (h' : xe_H), i.toInt = x4.toInt + 6 → xk [(29, 0), (31, 0), (33, 0), (35, 0), (37, 0), (39, 0), (41, 0), (43, 0), (45, 0), (47, 0), (49, 0), (51, 0), (125, 0)] h h' → xw J ov 100 195 (23, [(4, .int i), (3, .ref 167), (2, .ref 115), (1, .ref 0), (0, .ref 1000000)], [], h') Q) : xw J ov 100 195 (1501, [(4, .int x4), (3, .ref 167), (2, .ref 115), (1, .ref 0), (0, .ref 1000000)], [], h) Q := by
  have K : xk [(29, 0), (31, 0), (33, 0), (35, 0), (37, 0), (39, 0), (41, 0), (43, 0), (45, 0), (47, 0), (49, 0), (51, 0), (125, 0)] h h := xk_re T
  obtain ⟨v1, ev1⟩ : ∃ q : Int32, x4 + 6 = q := ⟨_, rfl⟩
  have zv1 : v1.toInt = (x4.toInt + 6) := by rw [← ev1]; exact (xz_add (X := x4.toInt) (Y := 6) rfl (by decide) (by omega) (by omega)).trans (by omega)
  refine xi_iinc (pc' := 1504) (x := x4) (v := v1) (lv' := [(4, .int v1), (3, .ref 167), (2, .ref 115), (1, .ref 0), (0, .ref 1000000)]) kc_195_1501 rfl rfl ev1 rfl (xm_lt ml_195 rfl) ?_
  refine xi_goto (pc' := 23) kc_195_1504 rfl ?_
  exact kk v1 h (by omega) K
set_option maxHeartbeats 8000000 in
theorem lc_0 {J : xe_J} {ov : List (List Int32)} (hJ : ∀ d mj as h, mj ≠ xe_loff → J d mj as h = none) (hov1 : ov[1]? = some [10, 0, 0, 0, 0, 0]) (hov2 : ov[2]? = some [99, 30, 50, 50, 1, 99999]) {xs : List Int32} (hov0 : ov[0]? = some xs) {Q : Option Value → xe_H → Prop} {h : xe_H} {x4 : Int32} (hi0 : 0 ≤ x4.toInt) (hi1 : x4.toInt + 6 ≤ xs.length) (hi2 : x4.toInt ≤ 3066) (T : xt h) (kk : ∀ (i : Int32) (h' : xe_H), i.toInt = x4.toInt + 6 → xk [(29, 0), (31, 0), (33, 0), (35, 0), (37, 0), (39, 0), (41, 0), (43, 0), (45, 0), (47, 0), (49, 0), (51, 0), (125, 0)] h h' → xw J ov 100 195 (23, [(4, .int i), (3, .ref 167), (2, .ref 115), (1, .ref 0), (0, .ref 1000000)], [], h') Q) : xw J ov 100 195 (192, [(4, .int x4), (3, .ref 167), (2, .ref 115), (1, .ref 0), (0, .ref 1000000)], [], h) Q := by
  have K : xk [(29, 0), (31, 0), (33, 0), (35, 0), (37, 0), (39, 0), (41, 0), (43, 0), (45, 0), (47, 0), (49, 0), (51, 0), (125, 0)] h h := xk_re T
  refine xi_aload_n (pc' := 193) (x := 0) kc_195_192 rfl rfl ?_
  refine xi_aload_n (pc' := 194) (x := 1000000) kc_195_193 rfl rfl ?_
  refine xi_iload (pc' := 196) (x := x4) kc_195_194 rfl rfl ?_
  refine xi_iconst (pc' := 197) (v := 1) kc_195_196 rfl rfl ?_
  obtain ⟨v1, ev1⟩ : ∃ q : Int32, x4 + 1 = q := ⟨_, rfl⟩
  have zv1 : v1.toInt = (x4.toInt + 1) := by rw [← ev1]; exact (xz_add (X := x4.toInt) (Y := 1) rfl (by decide) (by omega) (by omega)).trans (by omega)
  refine xi_iadd (pc' := 198) (v := v1) kc_195_197 rfl ev1 ?_
  obtain ⟨a2, ea2⟩ : ∃ q : Int32, xs.getD (Int32.toNatClampNeg v1) 0 = q := ⟨_, rfl⟩
  have ra2 := xc_rng a2
  refine xi_ialoadO (pc' := 199) (v := a2) kc_195_198 rfl (by decide) hov0 (xi_in (by omega) (by omega)) ea2 ?_
  refine xi_aload_n (pc' := 200) (x := 1000000) kc_195_199 rfl rfl ?_
  refine xi_iload (pc' := 202) (x := x4) kc_195_200 rfl rfl ?_
  refine xi_iconst (pc' := 203) (v := 2) kc_195_202 rfl rfl ?_
  obtain ⟨v3, ev3⟩ : ∃ q : Int32, x4 + 2 = q := ⟨_, rfl⟩
  have zv3 : v3.toInt = (x4.toInt + 2) := by rw [← ev3]; exact (xz_add (X := x4.toInt) (Y := 2) rfl (by decide) (by omega) (by omega)).trans (by omega)
  refine xi_iadd (pc' := 204) (v := v3) kc_195_203 rfl ev3 ?_
  obtain ⟨a4, ea4⟩ : ∃ q : Int32, xs.getD (Int32.toNatClampNeg v3) 0 = q := ⟨_, rfl⟩
  have ra4 := xc_rng a4
  refine xi_ialoadO (pc' := 205) (v := a4) kc_195_204 rfl (by decide) hov0 (xi_in (by omega) (by omega)) ea4 ?_
  refine xi_aload_n (pc' := 206) (x := 1000000) kc_195_205 rfl rfl ?_
  refine xi_iload (pc' := 208) (x := x4) kc_195_206 rfl rfl ?_
  refine xi_iconst (pc' := 209) (v := 3) kc_195_208 rfl rfl ?_
  obtain ⟨v5, ev5⟩ : ∃ q : Int32, x4 + 3 = q := ⟨_, rfl⟩
  have zv5 : v5.toInt = (x4.toInt + 3) := by rw [← ev5]; exact (xz_add (X := x4.toInt) (Y := 3) rfl (by decide) (by omega) (by omega)).trans (by omega)
  refine xi_iadd (pc' := 210) (v := v5) kc_195_209 rfl ev5 ?_
  obtain ⟨a6, ea6⟩ : ∃ q : Int32, xs.getD (Int32.toNatClampNeg v5) 0 = q := ⟨_, rfl⟩
  have ra6 := xc_rng a6
  refine xi_ialoadO (pc' := 211) (v := a6) kc_195_210 rfl (by decide) hov0 (xi_in (by omega) (by omega)) ea6 ?_
  obtain ⟨u7, u8, bu7, bu8, A9⟩ := xq_0 K.1
  refine xi_virtual (mj := 88) (as := [.int a2, .int a4, .int a6]) (st1 := []) (lv0 := [(0, .ref 0), (1, .int a2), (2, .int a4), (3, .int a6)]) kc_195_211 rfl rfl rfl rfl rfl A9 (Nat.le_of_ble_eq_true rfl) (hJ _ _ _ _ (by decide)) (xm_le ml_88 rfl) rfl ?_
  refine mt_88_0 hJ hov1 hov2 (d := 97) (x1 := a2) (x2 := a4) (x3 := a6) K.1 (fun r10 hh11 K12 => ?_)
  have br10 := xc_rng r10
  have K13 := xk_tr K K12 rfl
  obtain ⟨u14, u15, bu14, bu15, A16⟩ := xq_0 K13.1
  have e17 : u8 = u15 := xk_eqi (q := 9) K12 rfl A9 A16 rfl rfl
  subst e17
  show xw J ov 100 195 (214, [(4, .int x4), (3, .ref 167), (2, .ref 115), (1, .ref 0), (0, .ref 1000000)], [.int r10], hh11) _
  refine xi_pop (pc' := 215) kc_195_214 rfl rfl ?_
  refine xi_aload_n (pc' := 216) (x := 115) kc_195_215 rfl rfl ?_
  refine xi_aload_n (pc' := 217) (x := 1000000) kc_195_216 rfl rfl ?_
  refine xi_iload (pc' := 219) (x := x4) kc_195_217 rfl rfl ?_
  refine xi_iconst (pc' := 220) (v := 1) kc_195_219 rfl rfl ?_
  refine xi_iadd (pc' := 221) (v := v1) kc_195_220 rfl ev1 ?_
  refine xi_ialoadO (pc' := 222) (v := a2) kc_195_221 rfl (by decide) hov0 (xi_in (by omega) (by omega)) ea2 ?_
  refine xi_aload_n (pc' := 223) (x := 1000000) kc_195_222 rfl rfl ?_
  refine xi_iload (pc' := 225) (x := x4) kc_195_223 rfl rfl ?_
  refine xi_iconst (pc' := 226) (v := 2) kc_195_225 rfl rfl ?_
  refine xi_iadd (pc' := 227) (v := v3) kc_195_226 rfl ev3 ?_
  refine xi_ialoadO (pc' := 228) (v := a4) kc_195_227 rfl (by decide) hov0 (xi_in (by omega) (by omega)) ea4 ?_
  refine xi_aload_n (pc' := 229) (x := 1000000) kc_195_228 rfl rfl ?_
  refine xi_iload (pc' := 231) (x := x4) kc_195_229 rfl rfl ?_
  refine xi_iconst (pc' := 232) (v := 3) kc_195_231 rfl rfl ?_
  refine xi_iadd (pc' := 233) (v := v5) kc_195_232 rfl ev5 ?_
  refine xi_ialoadO (pc' := 234) (v := a6) kc_195_233 rfl (by decide) hov0 (xi_in (by omega) (by omega)) ea6 ?_
  obtain ⟨u18, u19, u20, u21, u22, u23, u24, u25, u26, u27, u28, u29, u30, bu18, bu19, bu20, bu21, bu22, bu23, bu24, bu25, bu26, bu27, bu28, bu29, bu30, A31⟩ := xq_115 K13.1
  refine xi_virtual (mj := 9) (as := [.int a2, .int a4, .int a6]) (st1 := []) (lv0 := [(0, .ref 115), (1, .int a2), (2, .int a4), (3, .int a6)]) kc_195_234 rfl rfl rfl rfl rfl A31 (Nat.le_of_ble_eq_true rfl) (hJ _ _ _ _ (by decide)) (xm_le ml_9 rfl) rfl ?_
  refine mt_9_0 hJ hov1 hov2 (d := 97) (x1 := a2) (x2 := a4) (x3 := a6) K13.1 (fun r32 hh33 K34 => ?_)
  have br32 := xc_rng r32
  have K35 := xk_tr K13 K34 rfl
  obtain ⟨u36, u37, bu36, bu37, A38⟩ := xq_0 K35.1
  have e39 : u8 = u37 := xk_eqi (q := 9) K34 rfl A16 A38 rfl rfl
  subst e39
  obtain ⟨u40, u41, u42, u43, u44, u45, u46, u47, u48, u49, u50, u51, u52, bu40, bu41, bu42, bu43, bu44, bu45, bu46, bu47, bu48, bu49, bu50, bu51, bu52, A53⟩ := xq_115 K35.1
  have e54 : u19 = u41 := xk_eqi (q := 1) K34 rfl A31 A53 rfl rfl
  subst e54
  show xw J ov 100 195 (237, [(4, .int x4), (3, .ref 167), (2, .ref 115), (1, .ref 0), (0, .ref 1000000)], [.int r32], hh33) _
  refine xi_pop (pc' := 238) kc_195_237 rfl rfl ?_
  refine xi_goto (pc' := 1501) kc_195_238 rfl ?_
  obtain ⟨v55, ev55⟩ : ∃ q : Int32, x4 + 6 = q := ⟨_, rfl⟩
  have zv55 : v55.toInt = (x4.toInt + 6) := by rw [← ev55]; exact (xz_add (X := x4.toInt) (Y := 6) rfl (by decide) (by omega) (by omega)).trans (by omega)
  refine xi_iinc (pc' := 1504) (x := x4) (v := v55) (lv' := [(4, .int v55), (3, .ref 167), (2, .ref 115), (1, .ref 0), (0, .ref 1000000)]) kc_195_1501 rfl rfl ev55 rfl (xm_lt ml_195 rfl) ?_
  refine xi_goto (pc' := 23) kc_195_1504 rfl ?_
  exact kk v55 hh33 (by omega) K35
set_option maxHeartbeats 8000000 in
theorem lc_1 {J : xe_J} {ov : List (List Int32)} (hJ : ∀ d mj as h, mj ≠ xe_loff → J d mj as h = none) (hov1 : ov[1]? = some [10, 0, 0, 0, 0, 0]) (hov2 : ov[2]? = some [99, 30, 50, 50, 1, 99999]) {xs : List Int32} (hov0 : ov[0]? = some xs) {Q : Option Value → xe_H → Prop} {h : xe_H} {x4 : Int32} (hi0 : 0 ≤ x4.toInt) (hi1 : x4.toInt + 6 ≤ xs.length) (hi2 : x4.toInt ≤ 3066) (T : xt h) (kk : ∀ (i : Int32) (h' : xe_H), i.toInt = x4.toInt + 6 → xk [(29, 0), (31, 0), (33, 0), (35, 0), (37, 0), (39, 0), (41, 0), (43, 0), (45, 0), (47, 0), (49, 0), (51, 0), (125, 0)] h h' → xw J ov 100 195 (23, [(4, .int i), (3, .ref 167), (2, .ref 115), (1, .ref 0), (0, .ref 1000000)], [], h') Q) : xw J ov 100 195 (241, [(4, .int x4), (3, .ref 167), (2, .ref 115), (1, .ref 0), (0, .ref 1000000)], [], h) Q := by
  have K : xk [(29, 0), (31, 0), (33, 0), (35, 0), (37, 0), (39, 0), (41, 0), (43, 0), (45, 0), (47, 0), (49, 0), (51, 0), (125, 0)] h h := xk_re T
  refine xi_aload_n (pc' := 242) (x := 0) kc_195_241 rfl rfl ?_
  refine xi_aload_n (pc' := 243) (x := 1000000) kc_195_242 rfl rfl ?_
  refine xi_iload (pc' := 245) (x := x4) kc_195_243 rfl rfl ?_
  refine xi_iconst (pc' := 246) (v := 1) kc_195_245 rfl rfl ?_
  obtain ⟨v1, ev1⟩ : ∃ q : Int32, x4 + 1 = q := ⟨_, rfl⟩
  have zv1 : v1.toInt = (x4.toInt + 1) := by rw [← ev1]; exact (xz_add (X := x4.toInt) (Y := 1) rfl (by decide) (by omega) (by omega)).trans (by omega)
  refine xi_iadd (pc' := 247) (v := v1) kc_195_246 rfl ev1 ?_
  obtain ⟨a2, ea2⟩ : ∃ q : Int32, xs.getD (Int32.toNatClampNeg v1) 0 = q := ⟨_, rfl⟩
  have ra2 := xc_rng a2
  refine xi_ialoadO (pc' := 248) (v := a2) kc_195_247 rfl (by decide) hov0 (xi_in (by omega) (by omega)) ea2 ?_
  refine xi_aload_n (pc' := 249) (x := 1000000) kc_195_248 rfl rfl ?_
  refine xi_iload (pc' := 251) (x := x4) kc_195_249 rfl rfl ?_
  refine xi_iconst (pc' := 252) (v := 2) kc_195_251 rfl rfl ?_
  obtain ⟨v3, ev3⟩ : ∃ q : Int32, x4 + 2 = q := ⟨_, rfl⟩
  have zv3 : v3.toInt = (x4.toInt + 2) := by rw [← ev3]; exact (xz_add (X := x4.toInt) (Y := 2) rfl (by decide) (by omega) (by omega)).trans (by omega)
  refine xi_iadd (pc' := 253) (v := v3) kc_195_252 rfl ev3 ?_
  obtain ⟨a4, ea4⟩ : ∃ q : Int32, xs.getD (Int32.toNatClampNeg v3) 0 = q := ⟨_, rfl⟩
  have ra4 := xc_rng a4
  refine xi_ialoadO (pc' := 254) (v := a4) kc_195_253 rfl (by decide) hov0 (xi_in (by omega) (by omega)) ea4 ?_
  refine xi_aload_n (pc' := 255) (x := 1000000) kc_195_254 rfl rfl ?_
  refine xi_iload (pc' := 257) (x := x4) kc_195_255 rfl rfl ?_
  refine xi_iconst (pc' := 258) (v := 3) kc_195_257 rfl rfl ?_
  obtain ⟨v5, ev5⟩ : ∃ q : Int32, x4 + 3 = q := ⟨_, rfl⟩
  have zv5 : v5.toInt = (x4.toInt + 3) := by rw [← ev5]; exact (xz_add (X := x4.toInt) (Y := 3) rfl (by decide) (by omega) (by omega)).trans (by omega)
  refine xi_iadd (pc' := 259) (v := v5) kc_195_258 rfl ev5 ?_
  obtain ⟨a6, ea6⟩ : ∃ q : Int32, xs.getD (Int32.toNatClampNeg v5) 0 = q := ⟨_, rfl⟩
  have ra6 := xc_rng a6
  refine xi_ialoadO (pc' := 260) (v := a6) kc_195_259 rfl (by decide) hov0 (xi_in (by omega) (by omega)) ea6 ?_
  obtain ⟨u7, u8, bu7, bu8, A9⟩ := xq_0 K.1
  refine xi_virtual (mj := 94) (as := [.int a2, .int a4, .int a6]) (st1 := []) (lv0 := [(0, .ref 0), (1, .int a2), (2, .int a4), (3, .int a6)]) kc_195_260 rfl rfl rfl rfl rfl A9 (Nat.le_of_ble_eq_true rfl) (hJ _ _ _ _ (by decide)) (xm_le ml_94 rfl) rfl ?_
  refine mt_94_0 hJ hov1 hov2 (d := 98) (x1 := a2) (x2 := a4) (x3 := a6) K.1 (fun r10 hh11 K12 => ?_)
  have br10 := xc_rng r10
  have K13 := xk_tr K K12 rfl
  obtain ⟨u14, u15, bu14, bu15, A16⟩ := xq_0 K13.1
  have e17 : u8 = u15 := xk_eqi (q := 9) K12 rfl A9 A16 rfl rfl
  subst e17
  show xw J ov 100 195 (263, [(4, .int x4), (3, .ref 167), (2, .ref 115), (1, .ref 0), (0, .ref 1000000)], [.int r10], hh11) _
  refine xi_pop (pc' := 264) kc_195_263 rfl rfl ?_
  refine xi_aload_n (pc' := 265) (x := 115) kc_195_264 rfl rfl ?_
  refine xi_aload_n (pc' := 266) (x := 1000000) kc_195_265 rfl rfl ?_
  refine xi_iload (pc' := 268) (x := x4) kc_195_266 rfl rfl ?_
  refine xi_iconst (pc' := 269) (v := 1) kc_195_268 rfl rfl ?_
  refine xi_iadd (pc' := 270) (v := v1) kc_195_269 rfl ev1 ?_
  refine xi_ialoadO (pc' := 271) (v := a2) kc_195_270 rfl (by decide) hov0 (xi_in (by omega) (by omega)) ea2 ?_
  refine xi_aload_n (pc' := 272) (x := 1000000) kc_195_271 rfl rfl ?_
  refine xi_iload (pc' := 274) (x := x4) kc_195_272 rfl rfl ?_
  refine xi_iconst (pc' := 275) (v := 2) kc_195_274 rfl rfl ?_
  refine xi_iadd (pc' := 276) (v := v3) kc_195_275 rfl ev3 ?_
  refine xi_ialoadO (pc' := 277) (v := a4) kc_195_276 rfl (by decide) hov0 (xi_in (by omega) (by omega)) ea4 ?_
  refine xi_aload_n (pc' := 278) (x := 1000000) kc_195_277 rfl rfl ?_
  refine xi_iload (pc' := 280) (x := x4) kc_195_278 rfl rfl ?_
  refine xi_iconst (pc' := 281) (v := 3) kc_195_280 rfl rfl ?_
  refine xi_iadd (pc' := 282) (v := v5) kc_195_281 rfl ev5 ?_
  refine xi_ialoadO (pc' := 283) (v := a6) kc_195_282 rfl (by decide) hov0 (xi_in (by omega) (by omega)) ea6 ?_
  obtain ⟨u18, u19, u20, u21, u22, u23, u24, u25, u26, u27, u28, u29, u30, bu18, bu19, bu20, bu21, bu22, bu23, bu24, bu25, bu26, bu27, bu28, bu29, bu30, A31⟩ := xq_115 K13.1
  refine xi_virtual (mj := 15) (as := [.int a2, .int a4, .int a6]) (st1 := []) (lv0 := [(0, .ref 115), (1, .int a2), (2, .int a4), (3, .int a6)]) kc_195_283 rfl rfl rfl rfl rfl A31 (Nat.le_of_ble_eq_true rfl) (hJ _ _ _ _ (by decide)) (xm_le ml_15 rfl) rfl ?_
  refine mt_15_0 hJ hov1 hov2 (d := 97) (x1 := a2) (x2 := a4) (x3 := a6) K13.1 (fun r32 hh33 K34 => ?_)
  have br32 := xc_rng r32
  have K35 := xk_tr K13 K34 rfl
  obtain ⟨u36, u37, bu36, bu37, A38⟩ := xq_0 K35.1
  have e39 : u8 = u37 := xk_eqi (q := 9) K34 rfl A16 A38 rfl rfl
  subst e39
  obtain ⟨u40, u41, u42, u43, u44, u45, u46, u47, u48, u49, u50, u51, u52, bu40, bu41, bu42, bu43, bu44, bu45, bu46, bu47, bu48, bu49, bu50, bu51, bu52, A53⟩ := xq_115 K35.1
  have e54 : u19 = u41 := xk_eqi (q := 1) K34 rfl A31 A53 rfl rfl
  subst e54
  show xw J ov 100 195 (286, [(4, .int x4), (3, .ref 167), (2, .ref 115), (1, .ref 0), (0, .ref 1000000)], [.int r32], hh33) _
  refine xi_pop (pc' := 287) kc_195_286 rfl rfl ?_
  refine xi_goto (pc' := 1501) kc_195_287 rfl ?_
  obtain ⟨v55, ev55⟩ : ∃ q : Int32, x4 + 6 = q := ⟨_, rfl⟩
  have zv55 : v55.toInt = (x4.toInt + 6) := by rw [← ev55]; exact (xz_add (X := x4.toInt) (Y := 6) rfl (by decide) (by omega) (by omega)).trans (by omega)
  refine xi_iinc (pc' := 1504) (x := x4) (v := v55) (lv' := [(4, .int v55), (3, .ref 167), (2, .ref 115), (1, .ref 0), (0, .ref 1000000)]) kc_195_1501 rfl rfl ev55 rfl (xm_lt ml_195 rfl) ?_
  refine xi_goto (pc' := 23) kc_195_1504 rfl ?_
  exact kk v55 hh33 (by omega) K35
set_option maxHeartbeats 8000000 in
theorem lc_2 {J : xe_J} {ov : List (List Int32)} (hJ : ∀ d mj as h, mj ≠ xe_loff → J d mj as h = none) (hov1 : ov[1]? = some [10, 0, 0, 0, 0, 0]) (hov2 : ov[2]? = some [99, 30, 50, 50, 1, 99999]) {xs : List Int32} (hov0 : ov[0]? = some xs) {Q : Option Value → xe_H → Prop} {h : xe_H} {x4 : Int32} (hi0 : 0 ≤ x4.toInt) (hi1 : x4.toInt + 6 ≤ xs.length) (hi2 : x4.toInt ≤ 3066) (T : xt h) (kk : ∀ (i : Int32) (h' : xe_H), i.toInt = x4.toInt + 6 → xk [(29, 0), (31, 0), (33, 0), (35, 0), (37, 0), (39, 0), (41, 0), (43, 0), (45, 0), (47, 0), (49, 0), (51, 0), (125, 0)] h h' → xw J ov 100 195 (23, [(4, .int i), (3, .ref 167), (2, .ref 115), (1, .ref 0), (0, .ref 1000000)], [], h') Q) : xw J ov 100 195 (290, [(4, .int x4), (3, .ref 167), (2, .ref 115), (1, .ref 0), (0, .ref 1000000)], [], h) Q := by
  have K : xk [(29, 0), (31, 0), (33, 0), (35, 0), (37, 0), (39, 0), (41, 0), (43, 0), (45, 0), (47, 0), (49, 0), (51, 0), (125, 0)] h h := xk_re T
  refine xi_aload_n (pc' := 291) (x := 0) kc_195_290 rfl rfl ?_
  refine xi_aload_n (pc' := 292) (x := 1000000) kc_195_291 rfl rfl ?_
  refine xi_iload (pc' := 294) (x := x4) kc_195_292 rfl rfl ?_
  refine xi_iconst (pc' := 295) (v := 1) kc_195_294 rfl rfl ?_
  obtain ⟨v1, ev1⟩ : ∃ q : Int32, x4 + 1 = q := ⟨_, rfl⟩
  have zv1 : v1.toInt = (x4.toInt + 1) := by rw [← ev1]; exact (xz_add (X := x4.toInt) (Y := 1) rfl (by decide) (by omega) (by omega)).trans (by omega)
  refine xi_iadd (pc' := 296) (v := v1) kc_195_295 rfl ev1 ?_
  obtain ⟨a2, ea2⟩ : ∃ q : Int32, xs.getD (Int32.toNatClampNeg v1) 0 = q := ⟨_, rfl⟩
  have ra2 := xc_rng a2
  refine xi_ialoadO (pc' := 297) (v := a2) kc_195_296 rfl (by decide) hov0 (xi_in (by omega) (by omega)) ea2 ?_
  refine xi_aload_n (pc' := 298) (x := 1000000) kc_195_297 rfl rfl ?_
  refine xi_iload (pc' := 300) (x := x4) kc_195_298 rfl rfl ?_
  refine xi_iconst (pc' := 301) (v := 2) kc_195_300 rfl rfl ?_
  obtain ⟨v3, ev3⟩ : ∃ q : Int32, x4 + 2 = q := ⟨_, rfl⟩
  have zv3 : v3.toInt = (x4.toInt + 2) := by rw [← ev3]; exact (xz_add (X := x4.toInt) (Y := 2) rfl (by decide) (by omega) (by omega)).trans (by omega)
  refine xi_iadd (pc' := 302) (v := v3) kc_195_301 rfl ev3 ?_
  obtain ⟨a4, ea4⟩ : ∃ q : Int32, xs.getD (Int32.toNatClampNeg v3) 0 = q := ⟨_, rfl⟩
  have ra4 := xc_rng a4
  refine xi_ialoadO (pc' := 303) (v := a4) kc_195_302 rfl (by decide) hov0 (xi_in (by omega) (by omega)) ea4 ?_
  refine xi_aload_n (pc' := 304) (x := 1000000) kc_195_303 rfl rfl ?_
  refine xi_iload (pc' := 306) (x := x4) kc_195_304 rfl rfl ?_
  refine xi_iconst (pc' := 307) (v := 3) kc_195_306 rfl rfl ?_
  obtain ⟨v5, ev5⟩ : ∃ q : Int32, x4 + 3 = q := ⟨_, rfl⟩
  have zv5 : v5.toInt = (x4.toInt + 3) := by rw [← ev5]; exact (xz_add (X := x4.toInt) (Y := 3) rfl (by decide) (by omega) (by omega)).trans (by omega)
  refine xi_iadd (pc' := 308) (v := v5) kc_195_307 rfl ev5 ?_
  obtain ⟨a6, ea6⟩ : ∃ q : Int32, xs.getD (Int32.toNatClampNeg v5) 0 = q := ⟨_, rfl⟩
  have ra6 := xc_rng a6
  refine xi_ialoadO (pc' := 309) (v := a6) kc_195_308 rfl (by decide) hov0 (xi_in (by omega) (by omega)) ea6 ?_
  obtain ⟨u7, u8, bu7, bu8, A9⟩ := xq_0 K.1
  refine xi_virtual (mj := 95) (as := [.int a2, .int a4, .int a6]) (st1 := []) (lv0 := [(0, .ref 0), (1, .int a2), (2, .int a4), (3, .int a6)]) kc_195_309 rfl rfl rfl rfl rfl A9 (Nat.le_of_ble_eq_true rfl) (hJ _ _ _ _ (by decide)) (xm_le ml_95 rfl) rfl ?_
  refine mt_95_0 hJ hov1 hov2 (d := 97) (x1 := a2) (x2 := a4) (x3 := a6) K.1 (fun r10 hh11 K12 => ?_)
  have br10 := xc_rng r10
  have K13 := xk_tr K K12 rfl
  obtain ⟨u14, u15, bu14, bu15, A16⟩ := xq_0 K13.1
  have e17 : u8 = u15 := xk_eqi (q := 9) K12 rfl A9 A16 rfl rfl
  subst e17
  show xw J ov 100 195 (312, [(4, .int x4), (3, .ref 167), (2, .ref 115), (1, .ref 0), (0, .ref 1000000)], [.int r10], hh11) _
  refine xi_pop (pc' := 313) kc_195_312 rfl rfl ?_
  refine xi_aload_n (pc' := 314) (x := 115) kc_195_313 rfl rfl ?_
  refine xi_aload_n (pc' := 315) (x := 1000000) kc_195_314 rfl rfl ?_
  refine xi_iload (pc' := 317) (x := x4) kc_195_315 rfl rfl ?_
  refine xi_iconst (pc' := 318) (v := 1) kc_195_317 rfl rfl ?_
  refine xi_iadd (pc' := 319) (v := v1) kc_195_318 rfl ev1 ?_
  refine xi_ialoadO (pc' := 320) (v := a2) kc_195_319 rfl (by decide) hov0 (xi_in (by omega) (by omega)) ea2 ?_
  refine xi_aload_n (pc' := 321) (x := 1000000) kc_195_320 rfl rfl ?_
  refine xi_iload (pc' := 323) (x := x4) kc_195_321 rfl rfl ?_
  refine xi_iconst (pc' := 324) (v := 2) kc_195_323 rfl rfl ?_
  refine xi_iadd (pc' := 325) (v := v3) kc_195_324 rfl ev3 ?_
  refine xi_ialoadO (pc' := 326) (v := a4) kc_195_325 rfl (by decide) hov0 (xi_in (by omega) (by omega)) ea4 ?_
  refine xi_aload_n (pc' := 327) (x := 1000000) kc_195_326 rfl rfl ?_
  refine xi_iload (pc' := 329) (x := x4) kc_195_327 rfl rfl ?_
  refine xi_iconst (pc' := 330) (v := 3) kc_195_329 rfl rfl ?_
  refine xi_iadd (pc' := 331) (v := v5) kc_195_330 rfl ev5 ?_
  refine xi_ialoadO (pc' := 332) (v := a6) kc_195_331 rfl (by decide) hov0 (xi_in (by omega) (by omega)) ea6 ?_
  obtain ⟨u18, u19, u20, u21, u22, u23, u24, u25, u26, u27, u28, u29, u30, bu18, bu19, bu20, bu21, bu22, bu23, bu24, bu25, bu26, bu27, bu28, bu29, bu30, A31⟩ := xq_115 K13.1
  refine xi_virtual (mj := 16) (as := [.int a2, .int a4, .int a6]) (st1 := []) (lv0 := [(0, .ref 115), (1, .int a2), (2, .int a4), (3, .int a6)]) kc_195_332 rfl rfl rfl rfl rfl A31 (Nat.le_of_ble_eq_true rfl) (hJ _ _ _ _ (by decide)) (xm_le ml_16 rfl) rfl ?_
  refine mt_16_0 hJ hov1 hov2 (d := 98) (x1 := a2) (x2 := a4) (x3 := a6) K13.1 (fun r32 hh33 K34 => ?_)
  have br32 := xc_rng r32
  have K35 := xk_tr K13 K34 rfl
  obtain ⟨u36, u37, bu36, bu37, A38⟩ := xq_0 K35.1
  have e39 : u8 = u37 := xk_eqi (q := 9) K34 rfl A16 A38 rfl rfl
  subst e39
  obtain ⟨u40, u41, u42, u43, u44, u45, u46, u47, u48, u49, u50, u51, u52, bu40, bu41, bu42, bu43, bu44, bu45, bu46, bu47, bu48, bu49, bu50, bu51, bu52, A53⟩ := xq_115 K35.1
  have e54 : u19 = u41 := xk_eqi (q := 1) K34 rfl A31 A53 rfl rfl
  subst e54
  show xw J ov 100 195 (335, [(4, .int x4), (3, .ref 167), (2, .ref 115), (1, .ref 0), (0, .ref 1000000)], [.int r32], hh33) _
  refine xi_pop (pc' := 336) kc_195_335 rfl rfl ?_
  refine xi_goto (pc' := 1501) kc_195_336 rfl ?_
  obtain ⟨v55, ev55⟩ : ∃ q : Int32, x4 + 6 = q := ⟨_, rfl⟩
  have zv55 : v55.toInt = (x4.toInt + 6) := by rw [← ev55]; exact (xz_add (X := x4.toInt) (Y := 6) rfl (by decide) (by omega) (by omega)).trans (by omega)
  refine xi_iinc (pc' := 1504) (x := x4) (v := v55) (lv' := [(4, .int v55), (3, .ref 167), (2, .ref 115), (1, .ref 0), (0, .ref 1000000)]) kc_195_1501 rfl rfl ev55 rfl (xm_lt ml_195 rfl) ?_
  refine xi_goto (pc' := 23) kc_195_1504 rfl ?_
  exact kk v55 hh33 (by omega) K35
set_option maxHeartbeats 8000000 in
theorem lc_3 {J : xe_J} {ov : List (List Int32)} (hJ : ∀ d mj as h, mj ≠ xe_loff → J d mj as h = none) (hov1 : ov[1]? = some [10, 0, 0, 0, 0, 0]) (hov2 : ov[2]? = some [99, 30, 50, 50, 1, 99999]) {xs : List Int32} (hov0 : ov[0]? = some xs) {Q : Option Value → xe_H → Prop} {h : xe_H} {x4 : Int32} (hi0 : 0 ≤ x4.toInt) (hi1 : x4.toInt + 6 ≤ xs.length) (hi2 : x4.toInt ≤ 3066) (T : xt h) (kk : ∀ (i : Int32) (h' : xe_H), i.toInt = x4.toInt + 6 → xk [(29, 0), (31, 0), (33, 0), (35, 0), (37, 0), (39, 0), (41, 0), (43, 0), (45, 0), (47, 0), (49, 0), (51, 0), (125, 0)] h h' → xw J ov 100 195 (23, [(4, .int i), (3, .ref 167), (2, .ref 115), (1, .ref 0), (0, .ref 1000000)], [], h') Q) : xw J ov 100 195 (339, [(4, .int x4), (3, .ref 167), (2, .ref 115), (1, .ref 0), (0, .ref 1000000)], [], h) Q := by
  have K : xk [(29, 0), (31, 0), (33, 0), (35, 0), (37, 0), (39, 0), (41, 0), (43, 0), (45, 0), (47, 0), (49, 0), (51, 0), (125, 0)] h h := xk_re T
  refine xi_aload_n (pc' := 340) (x := 0) kc_195_339 rfl rfl ?_
  refine xi_aload_n (pc' := 341) (x := 1000000) kc_195_340 rfl rfl ?_
  refine xi_iload (pc' := 343) (x := x4) kc_195_341 rfl rfl ?_
  refine xi_iconst (pc' := 344) (v := 1) kc_195_343 rfl rfl ?_
  obtain ⟨v1, ev1⟩ : ∃ q : Int32, x4 + 1 = q := ⟨_, rfl⟩
  have zv1 : v1.toInt = (x4.toInt + 1) := by rw [← ev1]; exact (xz_add (X := x4.toInt) (Y := 1) rfl (by decide) (by omega) (by omega)).trans (by omega)
  refine xi_iadd (pc' := 345) (v := v1) kc_195_344 rfl ev1 ?_
  obtain ⟨a2, ea2⟩ : ∃ q : Int32, xs.getD (Int32.toNatClampNeg v1) 0 = q := ⟨_, rfl⟩
  have ra2 := xc_rng a2
  refine xi_ialoadO (pc' := 346) (v := a2) kc_195_345 rfl (by decide) hov0 (xi_in (by omega) (by omega)) ea2 ?_
  refine xi_aload_n (pc' := 347) (x := 1000000) kc_195_346 rfl rfl ?_
  refine xi_iload (pc' := 349) (x := x4) kc_195_347 rfl rfl ?_
  refine xi_iconst (pc' := 350) (v := 2) kc_195_349 rfl rfl ?_
  obtain ⟨v3, ev3⟩ : ∃ q : Int32, x4 + 2 = q := ⟨_, rfl⟩
  have zv3 : v3.toInt = (x4.toInt + 2) := by rw [← ev3]; exact (xz_add (X := x4.toInt) (Y := 2) rfl (by decide) (by omega) (by omega)).trans (by omega)
  refine xi_iadd (pc' := 351) (v := v3) kc_195_350 rfl ev3 ?_
  obtain ⟨a4, ea4⟩ : ∃ q : Int32, xs.getD (Int32.toNatClampNeg v3) 0 = q := ⟨_, rfl⟩
  have ra4 := xc_rng a4
  refine xi_ialoadO (pc' := 352) (v := a4) kc_195_351 rfl (by decide) hov0 (xi_in (by omega) (by omega)) ea4 ?_
  obtain ⟨u5, u6, bu5, bu6, A7⟩ := xq_0 K.1
  refine xi_virtual (mj := 100) (as := [.int a2, .int a4]) (st1 := []) (lv0 := [(0, .ref 0), (1, .int a2), (2, .int a4)]) kc_195_352 rfl rfl rfl rfl rfl A7 (Nat.le_of_ble_eq_true rfl) (hJ _ _ _ _ (by decide)) (xm_le ml_100 rfl) rfl ?_
  refine mt_100_0 hJ hov1 hov2 (d := 97) (x1 := a2) (x2 := a4) K.1 (fun r8 hh9 K10 => ?_)
  have br8 := xc_rng r8
  have K11 := xk_tr K K10 rfl
  obtain ⟨u12, u13, bu12, bu13, A14⟩ := xq_0 K11.1
  have e15 : u6 = u13 := xk_eqi (q := 9) K10 rfl A7 A14 rfl rfl
  subst e15
  show xw J ov 100 195 (355, [(4, .int x4), (3, .ref 167), (2, .ref 115), (1, .ref 0), (0, .ref 1000000)], [.int r8], hh9) _
  refine xi_pop (pc' := 356) kc_195_355 rfl rfl ?_
  refine xi_aload_n (pc' := 357) (x := 115) kc_195_356 rfl rfl ?_
  refine xi_aload_n (pc' := 358) (x := 1000000) kc_195_357 rfl rfl ?_
  refine xi_iload (pc' := 360) (x := x4) kc_195_358 rfl rfl ?_
  refine xi_iconst (pc' := 361) (v := 1) kc_195_360 rfl rfl ?_
  refine xi_iadd (pc' := 362) (v := v1) kc_195_361 rfl ev1 ?_
  refine xi_ialoadO (pc' := 363) (v := a2) kc_195_362 rfl (by decide) hov0 (xi_in (by omega) (by omega)) ea2 ?_
  refine xi_aload_n (pc' := 364) (x := 1000000) kc_195_363 rfl rfl ?_
  refine xi_iload (pc' := 366) (x := x4) kc_195_364 rfl rfl ?_
  refine xi_iconst (pc' := 367) (v := 2) kc_195_366 rfl rfl ?_
  refine xi_iadd (pc' := 368) (v := v3) kc_195_367 rfl ev3 ?_
  refine xi_ialoadO (pc' := 369) (v := a4) kc_195_368 rfl (by decide) hov0 (xi_in (by omega) (by omega)) ea4 ?_
  obtain ⟨u16, u17, u18, u19, u20, u21, u22, u23, u24, u25, u26, u27, u28, bu16, bu17, bu18, bu19, bu20, bu21, bu22, bu23, bu24, bu25, bu26, bu27, bu28, A29⟩ := xq_115 K11.1
  refine xi_virtual (mj := 18) (as := [.int a2, .int a4]) (st1 := []) (lv0 := [(0, .ref 115), (1, .int a2), (2, .int a4)]) kc_195_369 rfl rfl rfl rfl rfl A29 (Nat.le_of_ble_eq_true rfl) (hJ _ _ _ _ (by decide)) (xm_le ml_18 rfl) rfl ?_
  refine mt_18_0 hJ hov1 hov2 (d := 97) (x1 := a2) (x2 := a4) K11.1 (fun r30 hh31 K32 => ?_)
  have br30 := xc_rng r30
  have K33 := xk_tr K11 K32 rfl
  obtain ⟨u34, u35, bu34, bu35, A36⟩ := xq_0 K33.1
  have e37 : u6 = u35 := xk_eqi (q := 9) K32 rfl A14 A36 rfl rfl
  subst e37
  obtain ⟨u38, u39, u40, u41, u42, u43, u44, u45, u46, u47, u48, u49, u50, bu38, bu39, bu40, bu41, bu42, bu43, bu44, bu45, bu46, bu47, bu48, bu49, bu50, A51⟩ := xq_115 K33.1
  have e52 : u17 = u39 := xk_eqi (q := 1) K32 rfl A29 A51 rfl rfl
  subst e52
  show xw J ov 100 195 (372, [(4, .int x4), (3, .ref 167), (2, .ref 115), (1, .ref 0), (0, .ref 1000000)], [.int r30], hh31) _
  refine xi_pop (pc' := 373) kc_195_372 rfl rfl ?_
  refine xi_goto (pc' := 1501) kc_195_373 rfl ?_
  obtain ⟨v53, ev53⟩ : ∃ q : Int32, x4 + 6 = q := ⟨_, rfl⟩
  have zv53 : v53.toInt = (x4.toInt + 6) := by rw [← ev53]; exact (xz_add (X := x4.toInt) (Y := 6) rfl (by decide) (by omega) (by omega)).trans (by omega)
  refine xi_iinc (pc' := 1504) (x := x4) (v := v53) (lv' := [(4, .int v53), (3, .ref 167), (2, .ref 115), (1, .ref 0), (0, .ref 1000000)]) kc_195_1501 rfl rfl ev53 rfl (xm_lt ml_195 rfl) ?_
  refine xi_goto (pc' := 23) kc_195_1504 rfl ?_
  exact kk v53 hh31 (by omega) K33
set_option maxHeartbeats 8000000 in
theorem lc_4 {J : xe_J} {ov : List (List Int32)} (hJ : ∀ d mj as h, mj ≠ xe_loff → J d mj as h = none) (hov1 : ov[1]? = some [10, 0, 0, 0, 0, 0]) (hov2 : ov[2]? = some [99, 30, 50, 50, 1, 99999]) {xs : List Int32} (hov0 : ov[0]? = some xs) {Q : Option Value → xe_H → Prop} {h : xe_H} {x4 : Int32} (hi0 : 0 ≤ x4.toInt) (hi1 : x4.toInt + 6 ≤ xs.length) (hi2 : x4.toInt ≤ 3066) (T : xt h) (kk : ∀ (i : Int32) (h' : xe_H), i.toInt = x4.toInt + 6 → xk [(29, 0), (31, 0), (33, 0), (35, 0), (37, 0), (39, 0), (41, 0), (43, 0), (45, 0), (47, 0), (49, 0), (51, 0), (125, 0)] h h' → xw J ov 100 195 (23, [(4, .int i), (3, .ref 167), (2, .ref 115), (1, .ref 0), (0, .ref 1000000)], [], h') Q) : xw J ov 100 195 (376, [(4, .int x4), (3, .ref 167), (2, .ref 115), (1, .ref 0), (0, .ref 1000000)], [], h) Q := by
  have K : xk [(29, 0), (31, 0), (33, 0), (35, 0), (37, 0), (39, 0), (41, 0), (43, 0), (45, 0), (47, 0), (49, 0), (51, 0), (125, 0)] h h := xk_re T
  refine xi_aload_n (pc' := 377) (x := 0) kc_195_376 rfl rfl ?_
  refine xi_aload_n (pc' := 378) (x := 1000000) kc_195_377 rfl rfl ?_
  refine xi_iload (pc' := 380) (x := x4) kc_195_378 rfl rfl ?_
  refine xi_iconst (pc' := 381) (v := 1) kc_195_380 rfl rfl ?_
  obtain ⟨v1, ev1⟩ : ∃ q : Int32, x4 + 1 = q := ⟨_, rfl⟩
  have zv1 : v1.toInt = (x4.toInt + 1) := by rw [← ev1]; exact (xz_add (X := x4.toInt) (Y := 1) rfl (by decide) (by omega) (by omega)).trans (by omega)
  refine xi_iadd (pc' := 382) (v := v1) kc_195_381 rfl ev1 ?_
  obtain ⟨a2, ea2⟩ : ∃ q : Int32, xs.getD (Int32.toNatClampNeg v1) 0 = q := ⟨_, rfl⟩
  have ra2 := xc_rng a2
  refine xi_ialoadO (pc' := 383) (v := a2) kc_195_382 rfl (by decide) hov0 (xi_in (by omega) (by omega)) ea2 ?_
  obtain ⟨u3, u4, bu3, bu4, A5⟩ := xq_0 K.1
  refine xi_virtual (mj := 101) (as := [.int a2]) (st1 := []) (lv0 := [(0, .ref 0), (1, .int a2)]) kc_195_383 rfl rfl rfl rfl rfl A5 (Nat.le_of_ble_eq_true rfl) (hJ _ _ _ _ (by decide)) (xm_le ml_101 rfl) rfl ?_
  refine mt_101_0 hJ hov1 hov2 (d := 96) (x1 := a2) K.1 (fun r6 hh7 br6 K8 => ?_)
  have K9 := xk_tr K K8 rfl
  obtain ⟨u10, u11, bu10, bu11, A12⟩ := xq_0 K9.1
  have e13 : u4 = u11 := xk_eqi (q := 9) K8 rfl A5 A12 rfl rfl
  subst e13
  show xw J ov 100 195 (386, [(4, .int x4), (3, .ref 167), (2, .ref 115), (1, .ref 0), (0, .ref 1000000)], [.int r6], hh7) _
  refine xi_pop (pc' := 387) kc_195_386 rfl rfl ?_
  refine xi_aload_n (pc' := 388) (x := 115) kc_195_387 rfl rfl ?_
  refine xi_aload_n (pc' := 389) (x := 1000000) kc_195_388 rfl rfl ?_
  refine xi_iload (pc' := 391) (x := x4) kc_195_389 rfl rfl ?_
  refine xi_iconst (pc' := 392) (v := 1) kc_195_391 rfl rfl ?_
  refine xi_iadd (pc' := 393) (v := v1) kc_195_392 rfl ev1 ?_
  refine xi_ialoadO (pc' := 394) (v := a2) kc_195_393 rfl (by decide) hov0 (xi_in (by omega) (by omega)) ea2 ?_
  obtain ⟨u14, u15, u16, u17, u18, u19, u20, u21, u22, u23, u24, u25, u26, bu14, bu15, bu16, bu17, bu18, bu19, bu20, bu21, bu22, bu23, bu24, bu25, bu26, A27⟩ := xq_115 K9.1
  refine xi_virtual (mj := 21) (as := [.int a2]) (st1 := []) (lv0 := [(0, .ref 115), (1, .int a2)]) kc_195_394 rfl rfl rfl rfl rfl A27 (Nat.le_of_ble_eq_true rfl) (hJ _ _ _ _ (by decide)) (xm_le ml_21 rfl) rfl ?_
  refine mt_21_0 hJ hov1 hov2 (d := 97) (x1 := a2) K9.1 (fun r28 hh29 br28 K30 => ?_)
  have K31 := xk_tr K9 K30 rfl
  obtain ⟨u32, u33, bu32, bu33, A34⟩ := xq_0 K31.1
  have e35 : u4 = u33 := xk_eqi (q := 9) K30 rfl A12 A34 rfl rfl
  subst e35
  obtain ⟨u36, u37, u38, u39, u40, u41, u42, u43, u44, u45, u46, u47, u48, bu36, bu37, bu38, bu39, bu40, bu41, bu42, bu43, bu44, bu45, bu46, bu47, bu48, A49⟩ := xq_115 K31.1
  have e50 : u15 = u37 := xk_eqi (q := 1) K30 rfl A27 A49 rfl rfl
  subst e50
  show xw J ov 100 195 (397, [(4, .int x4), (3, .ref 167), (2, .ref 115), (1, .ref 0), (0, .ref 1000000)], [.int r28], hh29) _
  refine xi_pop (pc' := 398) kc_195_397 rfl rfl ?_
  refine xi_goto (pc' := 1501) kc_195_398 rfl ?_
  obtain ⟨v51, ev51⟩ : ∃ q : Int32, x4 + 6 = q := ⟨_, rfl⟩
  have zv51 : v51.toInt = (x4.toInt + 6) := by rw [← ev51]; exact (xz_add (X := x4.toInt) (Y := 6) rfl (by decide) (by omega) (by omega)).trans (by omega)
  refine xi_iinc (pc' := 1504) (x := x4) (v := v51) (lv' := [(4, .int v51), (3, .ref 167), (2, .ref 115), (1, .ref 0), (0, .ref 1000000)]) kc_195_1501 rfl rfl ev51 rfl (xm_lt ml_195 rfl) ?_
  refine xi_goto (pc' := 23) kc_195_1504 rfl ?_
  exact kk v51 hh29 (by omega) K31
set_option maxHeartbeats 8000000 in
theorem lc_5 {J : xe_J} {ov : List (List Int32)} (hJ : ∀ d mj as h, mj ≠ xe_loff → J d mj as h = none) (hov1 : ov[1]? = some [10, 0, 0, 0, 0, 0]) (hov2 : ov[2]? = some [99, 30, 50, 50, 1, 99999]) {xs : List Int32} (hov0 : ov[0]? = some xs) {Q : Option Value → xe_H → Prop} {h : xe_H} {x4 : Int32} (hi0 : 0 ≤ x4.toInt) (hi1 : x4.toInt + 6 ≤ xs.length) (hi2 : x4.toInt ≤ 3066) (T : xt h) (I : xI h) (kk : ∀ (i : Int32) (h' : xe_H), i.toInt = x4.toInt + 6 → xk [] h h' → xI h' → xw J ov 100 195 (23, [(4, .int i), (3, .ref 167), (2, .ref 115), (1, .ref 0), (0, .ref 1000000)], [], h') Q) : xw J ov 100 195 (401, [(4, .int x4), (3, .ref 167), (2, .ref 115), (1, .ref 0), (0, .ref 1000000)], [], h) Q := by
  have K : xk [] h h := xk_re T
  refine xi_aload_n (pc' := 402) (x := 0) kc_195_401 rfl rfl ?_
  refine xi_aload_n (pc' := 403) (x := 1000000) kc_195_402 rfl rfl ?_
  refine xi_iload (pc' := 405) (x := x4) kc_195_403 rfl rfl ?_
  refine xi_iconst (pc' := 406) (v := 1) kc_195_405 rfl rfl ?_
  obtain ⟨v1, ev1⟩ : ∃ q : Int32, x4 + 1 = q := ⟨_, rfl⟩
  have zv1 : v1.toInt = (x4.toInt + 1) := by rw [← ev1]; exact (xz_add (X := x4.toInt) (Y := 1) rfl (by decide) (by omega) (by omega)).trans (by omega)
  refine xi_iadd (pc' := 407) (v := v1) kc_195_406 rfl ev1 ?_
  obtain ⟨a2, ea2⟩ : ∃ q : Int32, xs.getD (Int32.toNatClampNeg v1) 0 = q := ⟨_, rfl⟩
  have ra2 := xc_rng a2
  refine xi_ialoadO (pc' := 408) (v := a2) kc_195_407 rfl (by decide) hov0 (xi_in (by omega) (by omega)) ea2 ?_
  refine xi_aload_n (pc' := 409) (x := 1000000) kc_195_408 rfl rfl ?_
  refine xi_iload (pc' := 411) (x := x4) kc_195_409 rfl rfl ?_
  refine xi_iconst (pc' := 412) (v := 2) kc_195_411 rfl rfl ?_
  obtain ⟨v3, ev3⟩ : ∃ q : Int32, x4 + 2 = q := ⟨_, rfl⟩
  have zv3 : v3.toInt = (x4.toInt + 2) := by rw [← ev3]; exact (xz_add (X := x4.toInt) (Y := 2) rfl (by decide) (by omega) (by omega)).trans (by omega)
  refine xi_iadd (pc' := 413) (v := v3) kc_195_412 rfl ev3 ?_
  obtain ⟨a4, ea4⟩ : ∃ q : Int32, xs.getD (Int32.toNatClampNeg v3) 0 = q := ⟨_, rfl⟩
  have ra4 := xc_rng a4
  refine xi_ialoadO (pc' := 414) (v := a4) kc_195_413 rfl (by decide) hov0 (xi_in (by omega) (by omega)) ea4 ?_
  refine xi_aload_n (pc' := 415) (x := 1000000) kc_195_414 rfl rfl ?_
  refine xi_iload (pc' := 417) (x := x4) kc_195_415 rfl rfl ?_
  refine xi_iconst (pc' := 418) (v := 3) kc_195_417 rfl rfl ?_
  obtain ⟨v5, ev5⟩ : ∃ q : Int32, x4 + 3 = q := ⟨_, rfl⟩
  have zv5 : v5.toInt = (x4.toInt + 3) := by rw [← ev5]; exact (xz_add (X := x4.toInt) (Y := 3) rfl (by decide) (by omega) (by omega)).trans (by omega)
  refine xi_iadd (pc' := 419) (v := v5) kc_195_418 rfl ev5 ?_
  obtain ⟨a6, ea6⟩ : ∃ q : Int32, xs.getD (Int32.toNatClampNeg v5) 0 = q := ⟨_, rfl⟩
  have ra6 := xc_rng a6
  refine xi_ialoadO (pc' := 420) (v := a6) kc_195_419 rfl (by decide) hov0 (xi_in (by omega) (by omega)) ea6 ?_
  refine xi_aload_n (pc' := 421) (x := 1000000) kc_195_420 rfl rfl ?_
  refine xi_iload (pc' := 423) (x := x4) kc_195_421 rfl rfl ?_
  refine xi_iconst (pc' := 424) (v := 4) kc_195_423 rfl rfl ?_
  obtain ⟨v7, ev7⟩ : ∃ q : Int32, x4 + 4 = q := ⟨_, rfl⟩
  have zv7 : v7.toInt = (x4.toInt + 4) := by rw [← ev7]; exact (xz_add (X := x4.toInt) (Y := 4) rfl (by decide) (by omega) (by omega)).trans (by omega)
  refine xi_iadd (pc' := 425) (v := v7) kc_195_424 rfl ev7 ?_
  obtain ⟨a8, ea8⟩ : ∃ q : Int32, xs.getD (Int32.toNatClampNeg v7) 0 = q := ⟨_, rfl⟩
  have ra8 := xc_rng a8
  refine xi_ialoadO (pc' := 426) (v := a8) kc_195_425 rfl (by decide) hov0 (xi_in (by omega) (by omega)) ea8 ?_
  by_cases c9 : a8.toInt = 0
  · refine xi_ift (pc' := 433) kc_195_426 rfl (xc_eq_t (X := a8.toInt) (Y := 0) rfl (by decide) (by omega)) ?_
    refine xi_iconst (pc' := 434) (v := 0) kc_195_433 rfl rfl ?_
    obtain ⟨u10, u11, bu10, bu11, A12⟩ := xq_0 K.1
    refine xi_virtual (mj := 103) (as := [.int a2, .int a4, .int a6, .int 0]) (st1 := []) (lv0 := [(0, .ref 0), (1, .int a2), (2, .int a4), (3, .int a6), (4, .int 0)]) kc_195_434 rfl rfl rfl rfl rfl A12 (Nat.le_of_ble_eq_true rfl) (hJ _ _ _ _ (by decide)) (xm_le ml_103 rfl) rfl ?_
    refine xi_iload_n (pc' := 1) (x := a2) kc_103_0 rfl rfl ?_
    refine xi_static (mj := 104) (as := [.int a2]) (st1 := []) (lv0 := [(0, .int a2)]) kc_103_1 rfl rfl (Nat.le_of_ble_eq_true rfl) rfl rfl (Nat.le_of_ble_eq_true rfl) (hJ _ _ _ _ (by decide)) (xm_le ml_104 rfl) rfl ?_
    refine xi_iload_n (pc' := 1) (x := a2) kc_104_0 rfl rfl ?_
    by_cases c13 : a2.toInt < 0
    · refine xi_ift (pc' := 14) kc_104_1 rfl (xc_lt_t (X := a2.toInt) (Y := 0) rfl (by decide) (by omega)) ?_
      refine xi_iconst (pc' := 15) (v := 0) kc_104_14 rfl rfl ?_
      refine xi_ireturn kc_104_15 mr_104 rfl ?_
      show xw J ov 99 103 (4, [(0, .ref 0), (1, .int a2), (2, .int a4), (3, .int a6), (4, .int 0)], [.int 0], h) _
      refine xi_ift (pc' := 14) kc_103_4 rfl rfl ?_
      refine xi_aload_n (pc' := 15) (x := 0) kc_103_14 rfl rfl ?_
      refine xi_iconst (pc' := 16) (v := (-1)) kc_103_15 rfl rfl ?_
      refine xi_virtual (mj := 90) (as := [.int (-1)]) (st1 := []) (lv0 := [(0, .ref 0), (1, .int (-1))]) kc_103_16 rfl rfl rfl rfl rfl A12 (Nat.le_of_ble_eq_true rfl) (hJ _ _ _ _ (by decide)) (xm_le ml_90 rfl) rfl ?_
      refine xi_iload_n (pc' := 1) (x := (-1)) kc_90_0 rfl rfl ?_
      refine xi_ineg (pc' := 2) (v := 1) kc_90_1 rfl rfl ?_
      refine xi_istore_n (pc' := 3) (lv' := [(2, .int 1), (0, .ref 0), (1, .int (-1))]) kc_90_2 rfl rfl (xm_lt ml_90 rfl) ?_
      refine xi_iload_n (pc' := 4) (x := 1) kc_90_3 rfl rfl ?_
      refine xi_iff (pc' := 7) kc_90_4 rfl rfl ?_
      refine xi_iload_n (pc' := 8) (x := 1) kc_90_7 rfl rfl ?_
      refine xi_aload_n (pc' := 9) (x := 0) kc_90_8 rfl rfl ?_
      refine xi_getfield (pc' := 12) (v := .ref 94) kc_90_9 rfl rfl rfl A12 rfl ?_
      obtain ⟨y14, A14, hy14, ry14⟩ := xk_arr K.1 xD_94
      refine xi_arraylength (pc' := 13) (n := 7) (v := 7) kc_90_12 rfl (xl_lenI (by decide) (by decide) A14 hy14) rfl ?_
      refine xi_cmf (pc' := 16) kc_90_13 rfl rfl ?_
      refine xi_aload_n (pc' := 17) (x := 0) kc_90_16 rfl rfl ?_
      refine xi_getfield (pc' := 20) (v := .ref 94) kc_90_17 rfl rfl rfl A12 rfl ?_
      refine xi_iload_n (pc' := 21) (x := 1) kc_90_20 rfl rfl ?_
      refine xi_dup2 (pc' := 22) kc_90_21 rfl ⟨rfl, rfl⟩ ?_
      obtain ⟨v15, ev15, bv15, dv15⟩ := xj_get hy14 ry14 (i := 1) (by decide) (by decide)
      refine xi_iaload (pc' := 23) (v := v15) kc_90_22 rfl A14 (by decide) rfl (xi_in (by decide) (by rw [hy14]; decide)) ev15 ?_
      refine xi_iconst (pc' := 24) (v := 1) kc_90_23 rfl rfl ?_
      obtain ⟨v16, ev16⟩ : ∃ q : Int32, (v15 : Int32) + 1 = q := ⟨_, rfl⟩
      have rv16 := xc_rng v16
      refine xi_iadd (pc' := 25) (v := v16) kc_90_24 rfl ev16 ?_
      obtain ⟨y17, s17, hy17, ry17⟩ := xj_set (v := v16) hy14 ry14 1 (by first | omega | decide) (by first | omega | decide)
      refine xi_iastore (pc' := 26) (x' := y17) kc_90_25 rfl A14 rfl (xi_in (by decide) (by rw [hy14]; decide)) s17 (fun hh17 eh17 => ?_)
      have K18 := xk_pa K (xk_wa rfl) xD_94 hy17 ry17 eh17
      refine xi_iload_n (pc' := 27) (x := (-1)) kc_90_26 rfl rfl ?_
      refine xi_ireturn kc_90_27 mr_90 rfl ?_
      show xw J ov 99 103 (19, [(0, .ref 0), (1, .int a2), (2, .int a4), (3, .int a6), (4, .int 0)], [.int (-1)], hh17) _
      refine xi_ireturn kc_103_19 mr_103 rfl ?_
      show xw J ov 100 195 (437, [(4, .int x4), (3, .ref 167), (2, .ref 115), (1, .ref 0), (0, .ref 1000000)], [.int (-1)], hh17) _
      refine xi_aload_n (pc' := 438) (x := 115) kc_195_437 rfl rfl ?_
      refine xi_aload_n (pc' := 439) (x := 1000000) kc_195_438 rfl rfl ?_
      refine xi_iload (pc' := 441) (x := x4) kc_195_439 rfl rfl ?_
      refine xi_iconst (pc' := 442) (v := 1) kc_195_441 rfl rfl ?_
      refine xi_iadd (pc' := 443) (v := v1) kc_195_442 rfl ev1 ?_
      refine xi_ialoadO (pc' := 444) (v := a2) kc_195_443 rfl (by decide) hov0 (xi_in (by omega) (by omega)) ea2 ?_
      refine xi_aload_n (pc' := 445) (x := 1000000) kc_195_444 rfl rfl ?_
      refine xi_iload (pc' := 447) (x := x4) kc_195_445 rfl rfl ?_
      refine xi_iconst (pc' := 448) (v := 2) kc_195_447 rfl rfl ?_
      refine xi_iadd (pc' := 449) (v := v3) kc_195_448 rfl ev3 ?_
      refine xi_ialoadO (pc' := 450) (v := a4) kc_195_449 rfl (by decide) hov0 (xi_in (by omega) (by omega)) ea4 ?_
      refine xi_aload_n (pc' := 451) (x := 1000000) kc_195_450 rfl rfl ?_
      refine xi_iload (pc' := 453) (x := x4) kc_195_451 rfl rfl ?_
      refine xi_iconst (pc' := 454) (v := 3) kc_195_453 rfl rfl ?_
      refine xi_iadd (pc' := 455) (v := v5) kc_195_454 rfl ev5 ?_
      refine xi_ialoadO (pc' := 456) (v := a6) kc_195_455 rfl (by decide) hov0 (xi_in (by omega) (by omega)) ea6 ?_
      refine xi_aload_n (pc' := 457) (x := 1000000) kc_195_456 rfl rfl ?_
      refine xi_iload (pc' := 459) (x := x4) kc_195_457 rfl rfl ?_
      refine xi_iconst (pc' := 460) (v := 4) kc_195_459 rfl rfl ?_
      refine xi_iadd (pc' := 461) (v := v7) kc_195_460 rfl ev7 ?_
      refine xi_ialoadO (pc' := 462) (v := a8) kc_195_461 rfl (by decide) hov0 (xi_in (by omega) (by omega)) ea8 ?_
      refine xi_ift (pc' := 469) kc_195_462 rfl (xc_eq_t (X := a8.toInt) (Y := 0) rfl (by decide) (by omega)) ?_
      refine xi_iconst (pc' := 470) (v := 0) kc_195_469 rfl rfl ?_
      obtain ⟨u19, u20, u21, u22, u23, u24, u25, u26, u27, u28, u29, u30, u31, bu19, bu20, bu21, bu22, bu23, bu24, bu25, bu26, bu27, bu28, bu29, bu30, bu31, A32⟩ := xq_115 K.1
      have A33 := ((eh17.2.1 115 (by decide)).trans A32)
      refine xi_virtual (mj := 23) (as := [.int a2, .int a4, .int a6, .int 0]) (st1 := [.int (-1)]) (lv0 := [(0, .ref 115), (1, .int a2), (2, .int a4), (3, .int a6), (4, .int 0)]) kc_195_470 rfl rfl rfl rfl rfl A33 (Nat.le_of_ble_eq_true rfl) (hJ _ _ _ _ (by decide)) (xm_le ml_23 rfl) rfl ?_
      refine xi_aload_n (pc' := 1) (x := 115) kc_23_0 rfl rfl ?_
      refine xi_iconst (pc' := 2) (v := 0) kc_23_1 rfl rfl ?_
      refine xi_putfield (pc' := 5) (fs' := [.int 0, .int u20, .ref 116, .ref 117, .ref 118, .ref 119, .ref 120, .ref 121, .ref 122, .ref 123, .ref 124, .ref 125, .ref 126, .ref 127, .ref 128, .ref 129, .int u21, .ref 130, .int u22, .ref 131, .ref 132, .ref 133, .ref 134, .int u23, .ref 135, .ref 136, .ref 137, .ref 138, .ref 139, .ref 140, .ref 141, .ref 142, .int u24, .int u25, .int u26, .ref 143, .ref 144, .ref 145, .ref 146, .ref 147, .ref 148, .int u27, .ref 149, .ref 150, .ref 151, .int u28, .ref 152, .ref 153, .ref 154, .ref 155, .ref 156, .ref 157, .ref 158, .ref 159, .int u29, .ref 160, .int u30, .ref 161, .ref 162, .ref 163, .ref 164, .int u31, .ref 165, .ref 166]) kc_23_2 rfl rfl rfl A33 rfl rfl rfl (Nat.le_of_ble_eq_true rfl) rfl (fun hh35 eh34 => ?_)
      have K36 := xk_pf (k := 0) (v := 0) K18 (xk_wf rfl) xD_115 A33 rfl (by first | omega | decide) (by first | omega | decide) eh34 rfl
      refine xi_iload_n (pc' := 6) (x := a2) kc_23_5 rfl rfl ?_
      refine xi_static (mj := 24) (as := [.int a2]) (st1 := []) (lv0 := [(0, .int a2)]) kc_23_6 rfl rfl (Nat.le_of_ble_eq_true rfl) rfl rfl (Nat.le_of_ble_eq_true rfl) (hJ _ _ _ _ (by decide)) (xm_le ml_24 rfl) rfl ?_
      refine xi_iload_n (pc' := 1) (x := a2) kc_24_0 rfl rfl ?_
      refine xi_iconst (pc' := 2) (v := 0) kc_24_1 rfl rfl ?_
      refine xi_bipush (pc' := 4) (v := 11) kc_24_2 rfl rfl ?_
      refine xi_static (mj := 11) (as := [.int a2, .int 0, .int 11]) (st1 := []) (lv0 := [(0, .int a2), (1, .int 0), (2, .int 11)]) kc_24_4 rfl rfl (Nat.le_of_ble_eq_true rfl) rfl rfl (Nat.le_of_ble_eq_true rfl) (hJ _ _ _ _ (by decide)) (xm_le ml_11 rfl) rfl ?_
      refine xi_iload_n (pc' := 1) (x := a2) kc_11_0 rfl rfl ?_
      refine xi_iload_n (pc' := 2) (x := 0) kc_11_1 rfl rfl ?_
      refine xi_cmt (pc' := 14) kc_11_2 rfl (xc_lt_t (X := a2.toInt) (Y := 0) rfl (by decide) (by omega)) ?_
      refine xi_iconst (pc' := 15) (v := 0) kc_11_14 rfl rfl ?_
      refine xi_ireturn kc_11_15 mr_11 rfl ?_
      show xw J ov 98 24 (7, [(0, .int a2)], [.int 0], hh35) _
      refine xi_ireturn kc_24_7 mr_24 rfl ?_
      show xw J ov 99 23 (9, [(0, .ref 115), (1, .int a2), (2, .int a4), (3, .int a6), (4, .int 0)], [.int 0], hh35) _
      refine xi_ift (pc' := 19) kc_23_9 rfl rfl ?_
      refine xi_aload_n (pc' := 20) (x := 115) kc_23_19 rfl rfl ?_
      refine xi_iconst (pc' := 21) (v := (-1)) kc_23_20 rfl rfl ?_
      refine xi_virtual (mj := 12) (as := [.int (-1)]) (st1 := []) (lv0 := [(0, .ref 115), (1, .int (-1))]) kc_23_21 rfl rfl rfl rfl rfl eh34.1 (Nat.le_of_ble_eq_true rfl) (hJ _ _ _ _ (by decide)) (xm_le ml_12 rfl) rfl ?_
      refine xi_aload_n (pc' := 1) (x := 115) kc_12_0 rfl rfl ?_
      refine xi_getfield (pc' := 4) (v := .ref 140) kc_12_1 rfl rfl rfl eh34.1 rfl ?_
      refine xi_iload_n (pc' := 5) (x := (-1)) kc_12_4 rfl rfl ?_
      refine xi_ineg (pc' := 6) (v := 1) kc_12_5 rfl rfl ?_
      refine xi_dup2 (pc' := 7) kc_12_6 rfl ⟨rfl, rfl⟩ ?_
      obtain ⟨y37, A37, hy37, ry37⟩ := xk_arr K.1 xD_140
      obtain ⟨v38, ev38, bv38, dv38⟩ := xj_get hy37 ry37 (i := 1) (by decide) (by decide)
      have A39 := ((eh34.2.1 140 (by decide)).trans ((eh17.2.1 140 (by decide)).trans A37))
      refine xi_iaload (pc' := 8) (v := v38) kc_12_7 rfl A39 (by decide) rfl (xi_in (by decide) (by rw [hy37]; decide)) ev38 ?_
      refine xi_iconst (pc' := 9) (v := 1) kc_12_8 rfl rfl ?_
      obtain ⟨v40, ev40⟩ : ∃ q : Int32, (v38 : Int32) + 1 = q := ⟨_, rfl⟩
      have rv40 := xc_rng v40
      refine xi_iadd (pc' := 10) (v := v40) kc_12_9 rfl ev40 ?_
      obtain ⟨y41, s41, hy41, ry41⟩ := xj_set (v := v40) hy37 ry37 1 (by first | omega | decide) (by first | omega | decide)
      refine xi_iastore (pc' := 11) (x' := y41) kc_12_10 rfl A39 rfl (xi_in (by decide) (by rw [hy37]; decide)) s41 (fun hh41 eh41 => ?_)
      have K42 := xk_pa K36 (xk_wa rfl) xD_140 hy41 ry41 eh41
      refine xi_iload_n (pc' := 12) (x := (-1)) kc_12_11 rfl rfl ?_
      refine xi_ireturn kc_12_12 mr_12 rfl ?_
      show xw J ov 99 23 (24, [(0, .ref 115), (1, .int a2), (2, .int a4), (3, .int a6), (4, .int 0)], [.int (-1)], hh41) _
      refine xi_ireturn kc_23_24 mr_23 rfl ?_
      show xw J ov 100 195 (473, [(4, .int x4), (3, .ref 167), (2, .ref 115), (1, .ref 0), (0, .ref 1000000)], [.int (-1), .int (-1)], hh41) _
      refine xi_cmt (pc' := 1501) kc_195_473 rfl rfl ?_
      obtain ⟨v43, ev43⟩ : ∃ q : Int32, x4 + 6 = q := ⟨_, rfl⟩
      have zv43 : v43.toInt = (x4.toInt + 6) := by rw [← ev43]; exact (xz_add (X := x4.toInt) (Y := 6) rfl (by decide) (by omega) (by omega)).trans (by omega)
      refine xi_iinc (pc' := 1504) (x := x4) (v := v43) (lv' := [(4, .int v43), (3, .ref 167), (2, .ref 115), (1, .ref 0), (0, .ref 1000000)]) kc_195_1501 rfl rfl ev43 rfl (xm_lt ml_195 rfl) ?_
      refine xi_goto (pc' := 23) kc_195_1504 rfl ?_
      exact kk v43 hh41 (by omega) K42 (xGR_kept I (fun c hc => ((eh41.2.1 c (Ne.symm (xk_nc hc rfl))).trans ((eh34.2.1 c (Ne.symm (xk_nc hc rfl))).trans (eh17.2.1 c (Ne.symm (xk_nc hc rfl)))))) ((eh41.2.1 125 (by decide)).trans ((eh34.2.1 125 (by decide)).trans (eh17.2.1 125 (by decide)))))
    · refine xi_iff (pc' := 4) kc_104_1 rfl (xc_lt_f (X := a2.toInt) (Y := 0) rfl (by decide) (by omega)) ?_
      refine xi_iload_n (pc' := 5) (x := a2) kc_104_4 rfl rfl ?_
      refine xi_bipush (pc' := 7) (v := 12) kc_104_5 rfl rfl ?_
      by_cases c44 : 12 ≤ a2.toInt
      · refine xi_cmt (pc' := 14) kc_104_7 rfl (xc_ge_t (X := a2.toInt) (Y := 12) rfl (by decide) (by omega)) ?_
        refine xi_iconst (pc' := 15) (v := 0) kc_104_14 rfl rfl ?_
        refine xi_ireturn kc_104_15 mr_104 rfl ?_
        show xw J ov 99 103 (4, [(0, .ref 0), (1, .int a2), (2, .int a4), (3, .int a6), (4, .int 0)], [.int 0], h) _
        refine xi_ift (pc' := 14) kc_103_4 rfl rfl ?_
        refine xi_aload_n (pc' := 15) (x := 0) kc_103_14 rfl rfl ?_
        refine xi_iconst (pc' := 16) (v := (-1)) kc_103_15 rfl rfl ?_
        refine xi_virtual (mj := 90) (as := [.int (-1)]) (st1 := []) (lv0 := [(0, .ref 0), (1, .int (-1))]) kc_103_16 rfl rfl rfl rfl rfl A12 (Nat.le_of_ble_eq_true rfl) (hJ _ _ _ _ (by decide)) (xm_le ml_90 rfl) rfl ?_
        refine xi_iload_n (pc' := 1) (x := (-1)) kc_90_0 rfl rfl ?_
        refine xi_ineg (pc' := 2) (v := 1) kc_90_1 rfl rfl ?_
        refine xi_istore_n (pc' := 3) (lv' := [(2, .int 1), (0, .ref 0), (1, .int (-1))]) kc_90_2 rfl rfl (xm_lt ml_90 rfl) ?_
        refine xi_iload_n (pc' := 4) (x := 1) kc_90_3 rfl rfl ?_
        refine xi_iff (pc' := 7) kc_90_4 rfl rfl ?_
        refine xi_iload_n (pc' := 8) (x := 1) kc_90_7 rfl rfl ?_
        refine xi_aload_n (pc' := 9) (x := 0) kc_90_8 rfl rfl ?_
        refine xi_getfield (pc' := 12) (v := .ref 94) kc_90_9 rfl rfl rfl A12 rfl ?_
        obtain ⟨y45, A45, hy45, ry45⟩ := xk_arr K.1 xD_94
        refine xi_arraylength (pc' := 13) (n := 7) (v := 7) kc_90_12 rfl (xl_lenI (by decide) (by decide) A45 hy45) rfl ?_
        refine xi_cmf (pc' := 16) kc_90_13 rfl rfl ?_
        refine xi_aload_n (pc' := 17) (x := 0) kc_90_16 rfl rfl ?_
        refine xi_getfield (pc' := 20) (v := .ref 94) kc_90_17 rfl rfl rfl A12 rfl ?_
        refine xi_iload_n (pc' := 21) (x := 1) kc_90_20 rfl rfl ?_
        refine xi_dup2 (pc' := 22) kc_90_21 rfl ⟨rfl, rfl⟩ ?_
        obtain ⟨v46, ev46, bv46, dv46⟩ := xj_get hy45 ry45 (i := 1) (by decide) (by decide)
        refine xi_iaload (pc' := 23) (v := v46) kc_90_22 rfl A45 (by decide) rfl (xi_in (by decide) (by rw [hy45]; decide)) ev46 ?_
        refine xi_iconst (pc' := 24) (v := 1) kc_90_23 rfl rfl ?_
        obtain ⟨v47, ev47⟩ : ∃ q : Int32, (v46 : Int32) + 1 = q := ⟨_, rfl⟩
        have rv47 := xc_rng v47
        refine xi_iadd (pc' := 25) (v := v47) kc_90_24 rfl ev47 ?_
        obtain ⟨y48, s48, hy48, ry48⟩ := xj_set (v := v47) hy45 ry45 1 (by first | omega | decide) (by first | omega | decide)
        refine xi_iastore (pc' := 26) (x' := y48) kc_90_25 rfl A45 rfl (xi_in (by decide) (by rw [hy45]; decide)) s48 (fun hh48 eh48 => ?_)
        have K49 := xk_pa K (xk_wa rfl) xD_94 hy48 ry48 eh48
        refine xi_iload_n (pc' := 27) (x := (-1)) kc_90_26 rfl rfl ?_
        refine xi_ireturn kc_90_27 mr_90 rfl ?_
        show xw J ov 99 103 (19, [(0, .ref 0), (1, .int a2), (2, .int a4), (3, .int a6), (4, .int 0)], [.int (-1)], hh48) _
        refine xi_ireturn kc_103_19 mr_103 rfl ?_
        show xw J ov 100 195 (437, [(4, .int x4), (3, .ref 167), (2, .ref 115), (1, .ref 0), (0, .ref 1000000)], [.int (-1)], hh48) _
        refine xi_aload_n (pc' := 438) (x := 115) kc_195_437 rfl rfl ?_
        refine xi_aload_n (pc' := 439) (x := 1000000) kc_195_438 rfl rfl ?_
        refine xi_iload (pc' := 441) (x := x4) kc_195_439 rfl rfl ?_
        refine xi_iconst (pc' := 442) (v := 1) kc_195_441 rfl rfl ?_
        refine xi_iadd (pc' := 443) (v := v1) kc_195_442 rfl ev1 ?_
        refine xi_ialoadO (pc' := 444) (v := a2) kc_195_443 rfl (by decide) hov0 (xi_in (by omega) (by omega)) ea2 ?_
        refine xi_aload_n (pc' := 445) (x := 1000000) kc_195_444 rfl rfl ?_
        refine xi_iload (pc' := 447) (x := x4) kc_195_445 rfl rfl ?_
        refine xi_iconst (pc' := 448) (v := 2) kc_195_447 rfl rfl ?_
        refine xi_iadd (pc' := 449) (v := v3) kc_195_448 rfl ev3 ?_
        refine xi_ialoadO (pc' := 450) (v := a4) kc_195_449 rfl (by decide) hov0 (xi_in (by omega) (by omega)) ea4 ?_
        refine xi_aload_n (pc' := 451) (x := 1000000) kc_195_450 rfl rfl ?_
        refine xi_iload (pc' := 453) (x := x4) kc_195_451 rfl rfl ?_
        refine xi_iconst (pc' := 454) (v := 3) kc_195_453 rfl rfl ?_
        refine xi_iadd (pc' := 455) (v := v5) kc_195_454 rfl ev5 ?_
        refine xi_ialoadO (pc' := 456) (v := a6) kc_195_455 rfl (by decide) hov0 (xi_in (by omega) (by omega)) ea6 ?_
        refine xi_aload_n (pc' := 457) (x := 1000000) kc_195_456 rfl rfl ?_
        refine xi_iload (pc' := 459) (x := x4) kc_195_457 rfl rfl ?_
        refine xi_iconst (pc' := 460) (v := 4) kc_195_459 rfl rfl ?_
        refine xi_iadd (pc' := 461) (v := v7) kc_195_460 rfl ev7 ?_
        refine xi_ialoadO (pc' := 462) (v := a8) kc_195_461 rfl (by decide) hov0 (xi_in (by omega) (by omega)) ea8 ?_
        refine xi_ift (pc' := 469) kc_195_462 rfl (xc_eq_t (X := a8.toInt) (Y := 0) rfl (by decide) (by omega)) ?_
        refine xi_iconst (pc' := 470) (v := 0) kc_195_469 rfl rfl ?_
        obtain ⟨u50, u51, u52, u53, u54, u55, u56, u57, u58, u59, u60, u61, u62, bu50, bu51, bu52, bu53, bu54, bu55, bu56, bu57, bu58, bu59, bu60, bu61, bu62, A63⟩ := xq_115 K.1
        have A64 := ((eh48.2.1 115 (by decide)).trans A63)
        refine xi_virtual (mj := 23) (as := [.int a2, .int a4, .int a6, .int 0]) (st1 := [.int (-1)]) (lv0 := [(0, .ref 115), (1, .int a2), (2, .int a4), (3, .int a6), (4, .int 0)]) kc_195_470 rfl rfl rfl rfl rfl A64 (Nat.le_of_ble_eq_true rfl) (hJ _ _ _ _ (by decide)) (xm_le ml_23 rfl) rfl ?_
        refine xi_aload_n (pc' := 1) (x := 115) kc_23_0 rfl rfl ?_
        refine xi_iconst (pc' := 2) (v := 0) kc_23_1 rfl rfl ?_
        refine xi_putfield (pc' := 5) (fs' := [.int 0, .int u51, .ref 116, .ref 117, .ref 118, .ref 119, .ref 120, .ref 121, .ref 122, .ref 123, .ref 124, .ref 125, .ref 126, .ref 127, .ref 128, .ref 129, .int u52, .ref 130, .int u53, .ref 131, .ref 132, .ref 133, .ref 134, .int u54, .ref 135, .ref 136, .ref 137, .ref 138, .ref 139, .ref 140, .ref 141, .ref 142, .int u55, .int u56, .int u57, .ref 143, .ref 144, .ref 145, .ref 146, .ref 147, .ref 148, .int u58, .ref 149, .ref 150, .ref 151, .int u59, .ref 152, .ref 153, .ref 154, .ref 155, .ref 156, .ref 157, .ref 158, .ref 159, .int u60, .ref 160, .int u61, .ref 161, .ref 162, .ref 163, .ref 164, .int u62, .ref 165, .ref 166]) kc_23_2 rfl rfl rfl A64 rfl rfl rfl (Nat.le_of_ble_eq_true rfl) rfl (fun hh66 eh65 => ?_)
        have K67 := xk_pf (k := 0) (v := 0) K49 (xk_wf rfl) xD_115 A64 rfl (by first | omega | decide) (by first | omega | decide) eh65 rfl
        refine xi_iload_n (pc' := 6) (x := a2) kc_23_5 rfl rfl ?_
        refine xi_static (mj := 24) (as := [.int a2]) (st1 := []) (lv0 := [(0, .int a2)]) kc_23_6 rfl rfl (Nat.le_of_ble_eq_true rfl) rfl rfl (Nat.le_of_ble_eq_true rfl) (hJ _ _ _ _ (by decide)) (xm_le ml_24 rfl) rfl ?_
        refine xi_iload_n (pc' := 1) (x := a2) kc_24_0 rfl rfl ?_
        refine xi_iconst (pc' := 2) (v := 0) kc_24_1 rfl rfl ?_
        refine xi_bipush (pc' := 4) (v := 11) kc_24_2 rfl rfl ?_
        refine xi_static (mj := 11) (as := [.int a2, .int 0, .int 11]) (st1 := []) (lv0 := [(0, .int a2), (1, .int 0), (2, .int 11)]) kc_24_4 rfl rfl (Nat.le_of_ble_eq_true rfl) rfl rfl (Nat.le_of_ble_eq_true rfl) (hJ _ _ _ _ (by decide)) (xm_le ml_11 rfl) rfl ?_
        refine xi_iload_n (pc' := 1) (x := a2) kc_11_0 rfl rfl ?_
        refine xi_iload_n (pc' := 2) (x := 0) kc_11_1 rfl rfl ?_
        refine xi_cmf (pc' := 5) kc_11_2 rfl (xc_lt_f (X := a2.toInt) (Y := 0) rfl (by decide) (by omega)) ?_
        refine xi_iload_n (pc' := 6) (x := a2) kc_11_5 rfl rfl ?_
        refine xi_iload_n (pc' := 7) (x := 11) kc_11_6 rfl rfl ?_
        refine xi_cmt (pc' := 14) kc_11_7 rfl (xc_gt_t (X := a2.toInt) (Y := 11) rfl (by decide) (by omega)) ?_
        refine xi_iconst (pc' := 15) (v := 0) kc_11_14 rfl rfl ?_
        refine xi_ireturn kc_11_15 mr_11 rfl ?_
        show xw J ov 98 24 (7, [(0, .int a2)], [.int 0], hh66) _
        refine xi_ireturn kc_24_7 mr_24 rfl ?_
        show xw J ov 99 23 (9, [(0, .ref 115), (1, .int a2), (2, .int a4), (3, .int a6), (4, .int 0)], [.int 0], hh66) _
        refine xi_ift (pc' := 19) kc_23_9 rfl rfl ?_
        refine xi_aload_n (pc' := 20) (x := 115) kc_23_19 rfl rfl ?_
        refine xi_iconst (pc' := 21) (v := (-1)) kc_23_20 rfl rfl ?_
        refine xi_virtual (mj := 12) (as := [.int (-1)]) (st1 := []) (lv0 := [(0, .ref 115), (1, .int (-1))]) kc_23_21 rfl rfl rfl rfl rfl eh65.1 (Nat.le_of_ble_eq_true rfl) (hJ _ _ _ _ (by decide)) (xm_le ml_12 rfl) rfl ?_
        refine xi_aload_n (pc' := 1) (x := 115) kc_12_0 rfl rfl ?_
        refine xi_getfield (pc' := 4) (v := .ref 140) kc_12_1 rfl rfl rfl eh65.1 rfl ?_
        refine xi_iload_n (pc' := 5) (x := (-1)) kc_12_4 rfl rfl ?_
        refine xi_ineg (pc' := 6) (v := 1) kc_12_5 rfl rfl ?_
        refine xi_dup2 (pc' := 7) kc_12_6 rfl ⟨rfl, rfl⟩ ?_
        obtain ⟨y68, A68, hy68, ry68⟩ := xk_arr K.1 xD_140
        obtain ⟨v69, ev69, bv69, dv69⟩ := xj_get hy68 ry68 (i := 1) (by decide) (by decide)
        have A70 := ((eh65.2.1 140 (by decide)).trans ((eh48.2.1 140 (by decide)).trans A68))
        refine xi_iaload (pc' := 8) (v := v69) kc_12_7 rfl A70 (by decide) rfl (xi_in (by decide) (by rw [hy68]; decide)) ev69 ?_
        refine xi_iconst (pc' := 9) (v := 1) kc_12_8 rfl rfl ?_
        obtain ⟨v71, ev71⟩ : ∃ q : Int32, (v69 : Int32) + 1 = q := ⟨_, rfl⟩
        have rv71 := xc_rng v71
        refine xi_iadd (pc' := 10) (v := v71) kc_12_9 rfl ev71 ?_
        obtain ⟨y72, s72, hy72, ry72⟩ := xj_set (v := v71) hy68 ry68 1 (by first | omega | decide) (by first | omega | decide)
        refine xi_iastore (pc' := 11) (x' := y72) kc_12_10 rfl A70 rfl (xi_in (by decide) (by rw [hy68]; decide)) s72 (fun hh72 eh72 => ?_)
        have K73 := xk_pa K67 (xk_wa rfl) xD_140 hy72 ry72 eh72
        refine xi_iload_n (pc' := 12) (x := (-1)) kc_12_11 rfl rfl ?_
        refine xi_ireturn kc_12_12 mr_12 rfl ?_
        show xw J ov 99 23 (24, [(0, .ref 115), (1, .int a2), (2, .int a4), (3, .int a6), (4, .int 0)], [.int (-1)], hh72) _
        refine xi_ireturn kc_23_24 mr_23 rfl ?_
        show xw J ov 100 195 (473, [(4, .int x4), (3, .ref 167), (2, .ref 115), (1, .ref 0), (0, .ref 1000000)], [.int (-1), .int (-1)], hh72) _
        refine xi_cmt (pc' := 1501) kc_195_473 rfl rfl ?_
        obtain ⟨v74, ev74⟩ : ∃ q : Int32, x4 + 6 = q := ⟨_, rfl⟩
        have zv74 : v74.toInt = (x4.toInt + 6) := by rw [← ev74]; exact (xz_add (X := x4.toInt) (Y := 6) rfl (by decide) (by omega) (by omega)).trans (by omega)
        refine xi_iinc (pc' := 1504) (x := x4) (v := v74) (lv' := [(4, .int v74), (3, .ref 167), (2, .ref 115), (1, .ref 0), (0, .ref 1000000)]) kc_195_1501 rfl rfl ev74 rfl (xm_lt ml_195 rfl) ?_
        refine xi_goto (pc' := 23) kc_195_1504 rfl ?_
        exact kk v74 hh72 (by omega) K73 (xGR_kept I (fun c hc => ((eh72.2.1 c (Ne.symm (xk_nc hc rfl))).trans ((eh65.2.1 c (Ne.symm (xk_nc hc rfl))).trans (eh48.2.1 c (Ne.symm (xk_nc hc rfl)))))) ((eh72.2.1 125 (by decide)).trans ((eh65.2.1 125 (by decide)).trans (eh48.2.1 125 (by decide)))))
      · refine xi_cmf (pc' := 10) kc_104_7 rfl (xc_ge_f (X := a2.toInt) (Y := 12) rfl (by decide) (by omega)) ?_
        refine xi_iconst (pc' := 11) (v := 1) kc_104_10 rfl rfl ?_
        refine xi_goto (pc' := 15) kc_104_11 rfl ?_
        refine xi_ireturn kc_104_15 mr_104 rfl ?_
        show xw J ov 99 103 (4, [(0, .ref 0), (1, .int a2), (2, .int a4), (3, .int a6), (4, .int 0)], [.int 1], h) _
        refine xi_iff (pc' := 7) kc_103_4 rfl rfl ?_
        refine xi_iload_n (pc' := 8) (x := a4) kc_103_7 rfl rfl ?_
        refine xi_static (mj := 89) (as := [.int a4]) (st1 := []) (lv0 := [(0, .int a4)]) kc_103_8 rfl rfl (Nat.le_of_ble_eq_true rfl) rfl rfl (Nat.le_of_ble_eq_true rfl) (hJ _ _ _ _ (by decide)) (xm_le ml_89 rfl) rfl ?_
        refine xi_iload_n (pc' := 1) (x := a4) kc_89_0 rfl rfl ?_
        by_cases c75 : a4.toInt < 0
        · refine xi_ift (pc' := 14) kc_89_1 rfl (xc_lt_t (X := a4.toInt) (Y := 0) rfl (by decide) (by omega)) ?_
          refine xi_iconst (pc' := 15) (v := 0) kc_89_14 rfl rfl ?_
          refine xi_ireturn kc_89_15 mr_89 rfl ?_
          show xw J ov 99 103 (11, [(0, .ref 0), (1, .int a2), (2, .int a4), (3, .int a6), (4, .int 0)], [.int 0], h) _
          refine xi_iff (pc' := 14) kc_103_11 rfl rfl ?_
          refine xi_aload_n (pc' := 15) (x := 0) kc_103_14 rfl rfl ?_
          refine xi_iconst (pc' := 16) (v := (-1)) kc_103_15 rfl rfl ?_
          refine xi_virtual (mj := 90) (as := [.int (-1)]) (st1 := []) (lv0 := [(0, .ref 0), (1, .int (-1))]) kc_103_16 rfl rfl rfl rfl rfl A12 (Nat.le_of_ble_eq_true rfl) (hJ _ _ _ _ (by decide)) (xm_le ml_90 rfl) rfl ?_
          refine xi_iload_n (pc' := 1) (x := (-1)) kc_90_0 rfl rfl ?_
          refine xi_ineg (pc' := 2) (v := 1) kc_90_1 rfl rfl ?_
          refine xi_istore_n (pc' := 3) (lv' := [(2, .int 1), (0, .ref 0), (1, .int (-1))]) kc_90_2 rfl rfl (xm_lt ml_90 rfl) ?_
          refine xi_iload_n (pc' := 4) (x := 1) kc_90_3 rfl rfl ?_
          refine xi_iff (pc' := 7) kc_90_4 rfl rfl ?_
          refine xi_iload_n (pc' := 8) (x := 1) kc_90_7 rfl rfl ?_
          refine xi_aload_n (pc' := 9) (x := 0) kc_90_8 rfl rfl ?_
          refine xi_getfield (pc' := 12) (v := .ref 94) kc_90_9 rfl rfl rfl A12 rfl ?_
          obtain ⟨y76, A76, hy76, ry76⟩ := xk_arr K.1 xD_94
          refine xi_arraylength (pc' := 13) (n := 7) (v := 7) kc_90_12 rfl (xl_lenI (by decide) (by decide) A76 hy76) rfl ?_
          refine xi_cmf (pc' := 16) kc_90_13 rfl rfl ?_
          refine xi_aload_n (pc' := 17) (x := 0) kc_90_16 rfl rfl ?_
          refine xi_getfield (pc' := 20) (v := .ref 94) kc_90_17 rfl rfl rfl A12 rfl ?_
          refine xi_iload_n (pc' := 21) (x := 1) kc_90_20 rfl rfl ?_
          refine xi_dup2 (pc' := 22) kc_90_21 rfl ⟨rfl, rfl⟩ ?_
          obtain ⟨v77, ev77, bv77, dv77⟩ := xj_get hy76 ry76 (i := 1) (by decide) (by decide)
          refine xi_iaload (pc' := 23) (v := v77) kc_90_22 rfl A76 (by decide) rfl (xi_in (by decide) (by rw [hy76]; decide)) ev77 ?_
          refine xi_iconst (pc' := 24) (v := 1) kc_90_23 rfl rfl ?_
          obtain ⟨v78, ev78⟩ : ∃ q : Int32, (v77 : Int32) + 1 = q := ⟨_, rfl⟩
          have rv78 := xc_rng v78
          refine xi_iadd (pc' := 25) (v := v78) kc_90_24 rfl ev78 ?_
          obtain ⟨y79, s79, hy79, ry79⟩ := xj_set (v := v78) hy76 ry76 1 (by first | omega | decide) (by first | omega | decide)
          refine xi_iastore (pc' := 26) (x' := y79) kc_90_25 rfl A76 rfl (xi_in (by decide) (by rw [hy76]; decide)) s79 (fun hh79 eh79 => ?_)
          have K80 := xk_pa K (xk_wa rfl) xD_94 hy79 ry79 eh79
          refine xi_iload_n (pc' := 27) (x := (-1)) kc_90_26 rfl rfl ?_
          refine xi_ireturn kc_90_27 mr_90 rfl ?_
          show xw J ov 99 103 (19, [(0, .ref 0), (1, .int a2), (2, .int a4), (3, .int a6), (4, .int 0)], [.int (-1)], hh79) _
          refine xi_ireturn kc_103_19 mr_103 rfl ?_
          show xw J ov 100 195 (437, [(4, .int x4), (3, .ref 167), (2, .ref 115), (1, .ref 0), (0, .ref 1000000)], [.int (-1)], hh79) _
          refine xi_aload_n (pc' := 438) (x := 115) kc_195_437 rfl rfl ?_
          refine xi_aload_n (pc' := 439) (x := 1000000) kc_195_438 rfl rfl ?_
          refine xi_iload (pc' := 441) (x := x4) kc_195_439 rfl rfl ?_
          refine xi_iconst (pc' := 442) (v := 1) kc_195_441 rfl rfl ?_
          refine xi_iadd (pc' := 443) (v := v1) kc_195_442 rfl ev1 ?_
          refine xi_ialoadO (pc' := 444) (v := a2) kc_195_443 rfl (by decide) hov0 (xi_in (by omega) (by omega)) ea2 ?_
          refine xi_aload_n (pc' := 445) (x := 1000000) kc_195_444 rfl rfl ?_
          refine xi_iload (pc' := 447) (x := x4) kc_195_445 rfl rfl ?_
          refine xi_iconst (pc' := 448) (v := 2) kc_195_447 rfl rfl ?_
          refine xi_iadd (pc' := 449) (v := v3) kc_195_448 rfl ev3 ?_
          refine xi_ialoadO (pc' := 450) (v := a4) kc_195_449 rfl (by decide) hov0 (xi_in (by omega) (by omega)) ea4 ?_
          refine xi_aload_n (pc' := 451) (x := 1000000) kc_195_450 rfl rfl ?_
          refine xi_iload (pc' := 453) (x := x4) kc_195_451 rfl rfl ?_
          refine xi_iconst (pc' := 454) (v := 3) kc_195_453 rfl rfl ?_
          refine xi_iadd (pc' := 455) (v := v5) kc_195_454 rfl ev5 ?_
          refine xi_ialoadO (pc' := 456) (v := a6) kc_195_455 rfl (by decide) hov0 (xi_in (by omega) (by omega)) ea6 ?_
          refine xi_aload_n (pc' := 457) (x := 1000000) kc_195_456 rfl rfl ?_
          refine xi_iload (pc' := 459) (x := x4) kc_195_457 rfl rfl ?_
          refine xi_iconst (pc' := 460) (v := 4) kc_195_459 rfl rfl ?_
          refine xi_iadd (pc' := 461) (v := v7) kc_195_460 rfl ev7 ?_
          refine xi_ialoadO (pc' := 462) (v := a8) kc_195_461 rfl (by decide) hov0 (xi_in (by omega) (by omega)) ea8 ?_
          refine xi_ift (pc' := 469) kc_195_462 rfl (xc_eq_t (X := a8.toInt) (Y := 0) rfl (by decide) (by omega)) ?_
          refine xi_iconst (pc' := 470) (v := 0) kc_195_469 rfl rfl ?_
          obtain ⟨u81, u82, u83, u84, u85, u86, u87, u88, u89, u90, u91, u92, u93, bu81, bu82, bu83, bu84, bu85, bu86, bu87, bu88, bu89, bu90, bu91, bu92, bu93, A94⟩ := xq_115 K.1
          have A95 := ((eh79.2.1 115 (by decide)).trans A94)
          refine xi_virtual (mj := 23) (as := [.int a2, .int a4, .int a6, .int 0]) (st1 := [.int (-1)]) (lv0 := [(0, .ref 115), (1, .int a2), (2, .int a4), (3, .int a6), (4, .int 0)]) kc_195_470 rfl rfl rfl rfl rfl A95 (Nat.le_of_ble_eq_true rfl) (hJ _ _ _ _ (by decide)) (xm_le ml_23 rfl) rfl ?_
          refine xi_aload_n (pc' := 1) (x := 115) kc_23_0 rfl rfl ?_
          refine xi_iconst (pc' := 2) (v := 0) kc_23_1 rfl rfl ?_
          refine xi_putfield (pc' := 5) (fs' := [.int 0, .int u82, .ref 116, .ref 117, .ref 118, .ref 119, .ref 120, .ref 121, .ref 122, .ref 123, .ref 124, .ref 125, .ref 126, .ref 127, .ref 128, .ref 129, .int u83, .ref 130, .int u84, .ref 131, .ref 132, .ref 133, .ref 134, .int u85, .ref 135, .ref 136, .ref 137, .ref 138, .ref 139, .ref 140, .ref 141, .ref 142, .int u86, .int u87, .int u88, .ref 143, .ref 144, .ref 145, .ref 146, .ref 147, .ref 148, .int u89, .ref 149, .ref 150, .ref 151, .int u90, .ref 152, .ref 153, .ref 154, .ref 155, .ref 156, .ref 157, .ref 158, .ref 159, .int u91, .ref 160, .int u92, .ref 161, .ref 162, .ref 163, .ref 164, .int u93, .ref 165, .ref 166]) kc_23_2 rfl rfl rfl A95 rfl rfl rfl (Nat.le_of_ble_eq_true rfl) rfl (fun hh97 eh96 => ?_)
          have K98 := xk_pf (k := 0) (v := 0) K80 (xk_wf rfl) xD_115 A95 rfl (by first | omega | decide) (by first | omega | decide) eh96 rfl
          refine xi_iload_n (pc' := 6) (x := a2) kc_23_5 rfl rfl ?_
          refine xi_static (mj := 24) (as := [.int a2]) (st1 := []) (lv0 := [(0, .int a2)]) kc_23_6 rfl rfl (Nat.le_of_ble_eq_true rfl) rfl rfl (Nat.le_of_ble_eq_true rfl) (hJ _ _ _ _ (by decide)) (xm_le ml_24 rfl) rfl ?_
          refine xi_iload_n (pc' := 1) (x := a2) kc_24_0 rfl rfl ?_
          refine xi_iconst (pc' := 2) (v := 0) kc_24_1 rfl rfl ?_
          refine xi_bipush (pc' := 4) (v := 11) kc_24_2 rfl rfl ?_
          refine xi_static (mj := 11) (as := [.int a2, .int 0, .int 11]) (st1 := []) (lv0 := [(0, .int a2), (1, .int 0), (2, .int 11)]) kc_24_4 rfl rfl (Nat.le_of_ble_eq_true rfl) rfl rfl (Nat.le_of_ble_eq_true rfl) (hJ _ _ _ _ (by decide)) (xm_le ml_11 rfl) rfl ?_
          refine xi_iload_n (pc' := 1) (x := a2) kc_11_0 rfl rfl ?_
          refine xi_iload_n (pc' := 2) (x := 0) kc_11_1 rfl rfl ?_
          refine xi_cmf (pc' := 5) kc_11_2 rfl (xc_lt_f (X := a2.toInt) (Y := 0) rfl (by decide) (by omega)) ?_
          refine xi_iload_n (pc' := 6) (x := a2) kc_11_5 rfl rfl ?_
          refine xi_iload_n (pc' := 7) (x := 11) kc_11_6 rfl rfl ?_
          refine xi_cmf (pc' := 10) kc_11_7 rfl (xc_gt_f (X := a2.toInt) (Y := 11) rfl (by decide) (by omega)) ?_
          refine xi_iconst (pc' := 11) (v := 1) kc_11_10 rfl rfl ?_
          refine xi_goto (pc' := 15) kc_11_11 rfl ?_
          refine xi_ireturn kc_11_15 mr_11 rfl ?_
          show xw J ov 98 24 (7, [(0, .int a2)], [.int 1], hh97) _
          refine xi_ireturn kc_24_7 mr_24 rfl ?_
          show xw J ov 99 23 (9, [(0, .ref 115), (1, .int a2), (2, .int a4), (3, .int a6), (4, .int 0)], [.int 1], hh97) _
          refine xi_iff (pc' := 12) kc_23_9 rfl rfl ?_
          refine xi_iload_n (pc' := 13) (x := a4) kc_23_12 rfl rfl ?_
          refine xi_static (mj := 10) (as := [.int a4]) (st1 := []) (lv0 := [(0, .int a4)]) kc_23_13 rfl rfl (Nat.le_of_ble_eq_true rfl) rfl rfl (Nat.le_of_ble_eq_true rfl) (hJ _ _ _ _ (by decide)) (xm_le ml_10 rfl) rfl ?_
          refine xi_iload_n (pc' := 1) (x := a4) kc_10_0 rfl rfl ?_
          refine xi_iconst (pc' := 2) (v := 0) kc_10_1 rfl rfl ?_
          refine xi_iconst (pc' := 3) (v := 5) kc_10_2 rfl rfl ?_
          refine xi_static (mj := 11) (as := [.int a4, .int 0, .int 5]) (st1 := []) (lv0 := [(0, .int a4), (1, .int 0), (2, .int 5)]) kc_10_3 rfl rfl (Nat.le_of_ble_eq_true rfl) rfl rfl (Nat.le_of_ble_eq_true rfl) (hJ _ _ _ _ (by decide)) (xm_le ml_11 rfl) rfl ?_
          refine xi_iload_n (pc' := 1) (x := a4) kc_11_0 rfl rfl ?_
          refine xi_iload_n (pc' := 2) (x := 0) kc_11_1 rfl rfl ?_
          refine xi_cmt (pc' := 14) kc_11_2 rfl (xc_lt_t (X := a4.toInt) (Y := 0) rfl (by decide) (by omega)) ?_
          refine xi_iconst (pc' := 15) (v := 0) kc_11_14 rfl rfl ?_
          refine xi_ireturn kc_11_15 mr_11 rfl ?_
          show xw J ov 98 10 (6, [(0, .int a4)], [.int 0], hh97) _
          refine xi_ireturn kc_10_6 mr_10 rfl ?_
          show xw J ov 99 23 (16, [(0, .ref 115), (1, .int a2), (2, .int a4), (3, .int a6), (4, .int 0)], [.int 0], hh97) _
          refine xi_iff (pc' := 19) kc_23_16 rfl rfl ?_
          refine xi_aload_n (pc' := 20) (x := 115) kc_23_19 rfl rfl ?_
          refine xi_iconst (pc' := 21) (v := (-1)) kc_23_20 rfl rfl ?_
          refine xi_virtual (mj := 12) (as := [.int (-1)]) (st1 := []) (lv0 := [(0, .ref 115), (1, .int (-1))]) kc_23_21 rfl rfl rfl rfl rfl eh96.1 (Nat.le_of_ble_eq_true rfl) (hJ _ _ _ _ (by decide)) (xm_le ml_12 rfl) rfl ?_
          refine xi_aload_n (pc' := 1) (x := 115) kc_12_0 rfl rfl ?_
          refine xi_getfield (pc' := 4) (v := .ref 140) kc_12_1 rfl rfl rfl eh96.1 rfl ?_
          refine xi_iload_n (pc' := 5) (x := (-1)) kc_12_4 rfl rfl ?_
          refine xi_ineg (pc' := 6) (v := 1) kc_12_5 rfl rfl ?_
          refine xi_dup2 (pc' := 7) kc_12_6 rfl ⟨rfl, rfl⟩ ?_
          obtain ⟨y99, A99, hy99, ry99⟩ := xk_arr K.1 xD_140
          obtain ⟨v100, ev100, bv100, dv100⟩ := xj_get hy99 ry99 (i := 1) (by decide) (by decide)
          have A101 := ((eh96.2.1 140 (by decide)).trans ((eh79.2.1 140 (by decide)).trans A99))
          refine xi_iaload (pc' := 8) (v := v100) kc_12_7 rfl A101 (by decide) rfl (xi_in (by decide) (by rw [hy99]; decide)) ev100 ?_
          refine xi_iconst (pc' := 9) (v := 1) kc_12_8 rfl rfl ?_
          obtain ⟨v102, ev102⟩ : ∃ q : Int32, (v100 : Int32) + 1 = q := ⟨_, rfl⟩
          have rv102 := xc_rng v102
          refine xi_iadd (pc' := 10) (v := v102) kc_12_9 rfl ev102 ?_
          obtain ⟨y103, s103, hy103, ry103⟩ := xj_set (v := v102) hy99 ry99 1 (by first | omega | decide) (by first | omega | decide)
          refine xi_iastore (pc' := 11) (x' := y103) kc_12_10 rfl A101 rfl (xi_in (by decide) (by rw [hy99]; decide)) s103 (fun hh103 eh103 => ?_)
          have K104 := xk_pa K98 (xk_wa rfl) xD_140 hy103 ry103 eh103
          refine xi_iload_n (pc' := 12) (x := (-1)) kc_12_11 rfl rfl ?_
          refine xi_ireturn kc_12_12 mr_12 rfl ?_
          show xw J ov 99 23 (24, [(0, .ref 115), (1, .int a2), (2, .int a4), (3, .int a6), (4, .int 0)], [.int (-1)], hh103) _
          refine xi_ireturn kc_23_24 mr_23 rfl ?_
          show xw J ov 100 195 (473, [(4, .int x4), (3, .ref 167), (2, .ref 115), (1, .ref 0), (0, .ref 1000000)], [.int (-1), .int (-1)], hh103) _
          refine xi_cmt (pc' := 1501) kc_195_473 rfl rfl ?_
          obtain ⟨v105, ev105⟩ : ∃ q : Int32, x4 + 6 = q := ⟨_, rfl⟩
          have zv105 : v105.toInt = (x4.toInt + 6) := by rw [← ev105]; exact (xz_add (X := x4.toInt) (Y := 6) rfl (by decide) (by omega) (by omega)).trans (by omega)
          refine xi_iinc (pc' := 1504) (x := x4) (v := v105) (lv' := [(4, .int v105), (3, .ref 167), (2, .ref 115), (1, .ref 0), (0, .ref 1000000)]) kc_195_1501 rfl rfl ev105 rfl (xm_lt ml_195 rfl) ?_
          refine xi_goto (pc' := 23) kc_195_1504 rfl ?_
          exact kk v105 hh103 (by omega) K104 (xGR_kept I (fun c hc => ((eh103.2.1 c (Ne.symm (xk_nc hc rfl))).trans ((eh96.2.1 c (Ne.symm (xk_nc hc rfl))).trans (eh79.2.1 c (Ne.symm (xk_nc hc rfl)))))) ((eh103.2.1 125 (by decide)).trans ((eh96.2.1 125 (by decide)).trans (eh79.2.1 125 (by decide)))))
        · refine xi_iff (pc' := 4) kc_89_1 rfl (xc_lt_f (X := a4.toInt) (Y := 0) rfl (by decide) (by omega)) ?_
          refine xi_iload_n (pc' := 5) (x := a4) kc_89_4 rfl rfl ?_
          refine xi_bipush (pc' := 7) (v := 6) kc_89_5 rfl rfl ?_
          by_cases c106 : 6 ≤ a4.toInt
          · refine xi_cmt (pc' := 14) kc_89_7 rfl (xc_ge_t (X := a4.toInt) (Y := 6) rfl (by decide) (by omega)) ?_
            refine xi_iconst (pc' := 15) (v := 0) kc_89_14 rfl rfl ?_
            refine xi_ireturn kc_89_15 mr_89 rfl ?_
            show xw J ov 99 103 (11, [(0, .ref 0), (1, .int a2), (2, .int a4), (3, .int a6), (4, .int 0)], [.int 0], h) _
            refine xi_iff (pc' := 14) kc_103_11 rfl rfl ?_
            refine xi_aload_n (pc' := 15) (x := 0) kc_103_14 rfl rfl ?_
            refine xi_iconst (pc' := 16) (v := (-1)) kc_103_15 rfl rfl ?_
            refine xi_virtual (mj := 90) (as := [.int (-1)]) (st1 := []) (lv0 := [(0, .ref 0), (1, .int (-1))]) kc_103_16 rfl rfl rfl rfl rfl A12 (Nat.le_of_ble_eq_true rfl) (hJ _ _ _ _ (by decide)) (xm_le ml_90 rfl) rfl ?_
            refine xi_iload_n (pc' := 1) (x := (-1)) kc_90_0 rfl rfl ?_
            refine xi_ineg (pc' := 2) (v := 1) kc_90_1 rfl rfl ?_
            refine xi_istore_n (pc' := 3) (lv' := [(2, .int 1), (0, .ref 0), (1, .int (-1))]) kc_90_2 rfl rfl (xm_lt ml_90 rfl) ?_
            refine xi_iload_n (pc' := 4) (x := 1) kc_90_3 rfl rfl ?_
            refine xi_iff (pc' := 7) kc_90_4 rfl rfl ?_
            refine xi_iload_n (pc' := 8) (x := 1) kc_90_7 rfl rfl ?_
            refine xi_aload_n (pc' := 9) (x := 0) kc_90_8 rfl rfl ?_
            refine xi_getfield (pc' := 12) (v := .ref 94) kc_90_9 rfl rfl rfl A12 rfl ?_
            obtain ⟨y107, A107, hy107, ry107⟩ := xk_arr K.1 xD_94
            refine xi_arraylength (pc' := 13) (n := 7) (v := 7) kc_90_12 rfl (xl_lenI (by decide) (by decide) A107 hy107) rfl ?_
            refine xi_cmf (pc' := 16) kc_90_13 rfl rfl ?_
            refine xi_aload_n (pc' := 17) (x := 0) kc_90_16 rfl rfl ?_
            refine xi_getfield (pc' := 20) (v := .ref 94) kc_90_17 rfl rfl rfl A12 rfl ?_
            refine xi_iload_n (pc' := 21) (x := 1) kc_90_20 rfl rfl ?_
            refine xi_dup2 (pc' := 22) kc_90_21 rfl ⟨rfl, rfl⟩ ?_
            obtain ⟨v108, ev108, bv108, dv108⟩ := xj_get hy107 ry107 (i := 1) (by decide) (by decide)
            refine xi_iaload (pc' := 23) (v := v108) kc_90_22 rfl A107 (by decide) rfl (xi_in (by decide) (by rw [hy107]; decide)) ev108 ?_
            refine xi_iconst (pc' := 24) (v := 1) kc_90_23 rfl rfl ?_
            obtain ⟨v109, ev109⟩ : ∃ q : Int32, (v108 : Int32) + 1 = q := ⟨_, rfl⟩
            have rv109 := xc_rng v109
            refine xi_iadd (pc' := 25) (v := v109) kc_90_24 rfl ev109 ?_
            obtain ⟨y110, s110, hy110, ry110⟩ := xj_set (v := v109) hy107 ry107 1 (by first | omega | decide) (by first | omega | decide)
            refine xi_iastore (pc' := 26) (x' := y110) kc_90_25 rfl A107 rfl (xi_in (by decide) (by rw [hy107]; decide)) s110 (fun hh110 eh110 => ?_)
            have K111 := xk_pa K (xk_wa rfl) xD_94 hy110 ry110 eh110
            refine xi_iload_n (pc' := 27) (x := (-1)) kc_90_26 rfl rfl ?_
            refine xi_ireturn kc_90_27 mr_90 rfl ?_
            show xw J ov 99 103 (19, [(0, .ref 0), (1, .int a2), (2, .int a4), (3, .int a6), (4, .int 0)], [.int (-1)], hh110) _
            refine xi_ireturn kc_103_19 mr_103 rfl ?_
            show xw J ov 100 195 (437, [(4, .int x4), (3, .ref 167), (2, .ref 115), (1, .ref 0), (0, .ref 1000000)], [.int (-1)], hh110) _
            refine xi_aload_n (pc' := 438) (x := 115) kc_195_437 rfl rfl ?_
            refine xi_aload_n (pc' := 439) (x := 1000000) kc_195_438 rfl rfl ?_
            refine xi_iload (pc' := 441) (x := x4) kc_195_439 rfl rfl ?_
            refine xi_iconst (pc' := 442) (v := 1) kc_195_441 rfl rfl ?_
            refine xi_iadd (pc' := 443) (v := v1) kc_195_442 rfl ev1 ?_
            refine xi_ialoadO (pc' := 444) (v := a2) kc_195_443 rfl (by decide) hov0 (xi_in (by omega) (by omega)) ea2 ?_
            refine xi_aload_n (pc' := 445) (x := 1000000) kc_195_444 rfl rfl ?_
            refine xi_iload (pc' := 447) (x := x4) kc_195_445 rfl rfl ?_
            refine xi_iconst (pc' := 448) (v := 2) kc_195_447 rfl rfl ?_
            refine xi_iadd (pc' := 449) (v := v3) kc_195_448 rfl ev3 ?_
            refine xi_ialoadO (pc' := 450) (v := a4) kc_195_449 rfl (by decide) hov0 (xi_in (by omega) (by omega)) ea4 ?_
            refine xi_aload_n (pc' := 451) (x := 1000000) kc_195_450 rfl rfl ?_
            refine xi_iload (pc' := 453) (x := x4) kc_195_451 rfl rfl ?_
            refine xi_iconst (pc' := 454) (v := 3) kc_195_453 rfl rfl ?_
            refine xi_iadd (pc' := 455) (v := v5) kc_195_454 rfl ev5 ?_
            refine xi_ialoadO (pc' := 456) (v := a6) kc_195_455 rfl (by decide) hov0 (xi_in (by omega) (by omega)) ea6 ?_
            refine xi_aload_n (pc' := 457) (x := 1000000) kc_195_456 rfl rfl ?_
            refine xi_iload (pc' := 459) (x := x4) kc_195_457 rfl rfl ?_
            refine xi_iconst (pc' := 460) (v := 4) kc_195_459 rfl rfl ?_
            refine xi_iadd (pc' := 461) (v := v7) kc_195_460 rfl ev7 ?_
            refine xi_ialoadO (pc' := 462) (v := a8) kc_195_461 rfl (by decide) hov0 (xi_in (by omega) (by omega)) ea8 ?_
            refine xi_ift (pc' := 469) kc_195_462 rfl (xc_eq_t (X := a8.toInt) (Y := 0) rfl (by decide) (by omega)) ?_
            refine xi_iconst (pc' := 470) (v := 0) kc_195_469 rfl rfl ?_
            obtain ⟨u112, u113, u114, u115, u116, u117, u118, u119, u120, u121, u122, u123, u124, bu112, bu113, bu114, bu115, bu116, bu117, bu118, bu119, bu120, bu121, bu122, bu123, bu124, A125⟩ := xq_115 K.1
            have A126 := ((eh110.2.1 115 (by decide)).trans A125)
            refine xi_virtual (mj := 23) (as := [.int a2, .int a4, .int a6, .int 0]) (st1 := [.int (-1)]) (lv0 := [(0, .ref 115), (1, .int a2), (2, .int a4), (3, .int a6), (4, .int 0)]) kc_195_470 rfl rfl rfl rfl rfl A126 (Nat.le_of_ble_eq_true rfl) (hJ _ _ _ _ (by decide)) (xm_le ml_23 rfl) rfl ?_
            refine xi_aload_n (pc' := 1) (x := 115) kc_23_0 rfl rfl ?_
            refine xi_iconst (pc' := 2) (v := 0) kc_23_1 rfl rfl ?_
            refine xi_putfield (pc' := 5) (fs' := [.int 0, .int u113, .ref 116, .ref 117, .ref 118, .ref 119, .ref 120, .ref 121, .ref 122, .ref 123, .ref 124, .ref 125, .ref 126, .ref 127, .ref 128, .ref 129, .int u114, .ref 130, .int u115, .ref 131, .ref 132, .ref 133, .ref 134, .int u116, .ref 135, .ref 136, .ref 137, .ref 138, .ref 139, .ref 140, .ref 141, .ref 142, .int u117, .int u118, .int u119, .ref 143, .ref 144, .ref 145, .ref 146, .ref 147, .ref 148, .int u120, .ref 149, .ref 150, .ref 151, .int u121, .ref 152, .ref 153, .ref 154, .ref 155, .ref 156, .ref 157, .ref 158, .ref 159, .int u122, .ref 160, .int u123, .ref 161, .ref 162, .ref 163, .ref 164, .int u124, .ref 165, .ref 166]) kc_23_2 rfl rfl rfl A126 rfl rfl rfl (Nat.le_of_ble_eq_true rfl) rfl (fun hh128 eh127 => ?_)
            have K129 := xk_pf (k := 0) (v := 0) K111 (xk_wf rfl) xD_115 A126 rfl (by first | omega | decide) (by first | omega | decide) eh127 rfl
            refine xi_iload_n (pc' := 6) (x := a2) kc_23_5 rfl rfl ?_
            refine xi_static (mj := 24) (as := [.int a2]) (st1 := []) (lv0 := [(0, .int a2)]) kc_23_6 rfl rfl (Nat.le_of_ble_eq_true rfl) rfl rfl (Nat.le_of_ble_eq_true rfl) (hJ _ _ _ _ (by decide)) (xm_le ml_24 rfl) rfl ?_
            refine xi_iload_n (pc' := 1) (x := a2) kc_24_0 rfl rfl ?_
            refine xi_iconst (pc' := 2) (v := 0) kc_24_1 rfl rfl ?_
            refine xi_bipush (pc' := 4) (v := 11) kc_24_2 rfl rfl ?_
            refine xi_static (mj := 11) (as := [.int a2, .int 0, .int 11]) (st1 := []) (lv0 := [(0, .int a2), (1, .int 0), (2, .int 11)]) kc_24_4 rfl rfl (Nat.le_of_ble_eq_true rfl) rfl rfl (Nat.le_of_ble_eq_true rfl) (hJ _ _ _ _ (by decide)) (xm_le ml_11 rfl) rfl ?_
            refine xi_iload_n (pc' := 1) (x := a2) kc_11_0 rfl rfl ?_
            refine xi_iload_n (pc' := 2) (x := 0) kc_11_1 rfl rfl ?_
            refine xi_cmf (pc' := 5) kc_11_2 rfl (xc_lt_f (X := a2.toInt) (Y := 0) rfl (by decide) (by omega)) ?_
            refine xi_iload_n (pc' := 6) (x := a2) kc_11_5 rfl rfl ?_
            refine xi_iload_n (pc' := 7) (x := 11) kc_11_6 rfl rfl ?_
            refine xi_cmf (pc' := 10) kc_11_7 rfl (xc_gt_f (X := a2.toInt) (Y := 11) rfl (by decide) (by omega)) ?_
            refine xi_iconst (pc' := 11) (v := 1) kc_11_10 rfl rfl ?_
            refine xi_goto (pc' := 15) kc_11_11 rfl ?_
            refine xi_ireturn kc_11_15 mr_11 rfl ?_
            show xw J ov 98 24 (7, [(0, .int a2)], [.int 1], hh128) _
            refine xi_ireturn kc_24_7 mr_24 rfl ?_
            show xw J ov 99 23 (9, [(0, .ref 115), (1, .int a2), (2, .int a4), (3, .int a6), (4, .int 0)], [.int 1], hh128) _
            refine xi_iff (pc' := 12) kc_23_9 rfl rfl ?_
            refine xi_iload_n (pc' := 13) (x := a4) kc_23_12 rfl rfl ?_
            refine xi_static (mj := 10) (as := [.int a4]) (st1 := []) (lv0 := [(0, .int a4)]) kc_23_13 rfl rfl (Nat.le_of_ble_eq_true rfl) rfl rfl (Nat.le_of_ble_eq_true rfl) (hJ _ _ _ _ (by decide)) (xm_le ml_10 rfl) rfl ?_
            refine xi_iload_n (pc' := 1) (x := a4) kc_10_0 rfl rfl ?_
            refine xi_iconst (pc' := 2) (v := 0) kc_10_1 rfl rfl ?_
            refine xi_iconst (pc' := 3) (v := 5) kc_10_2 rfl rfl ?_
            refine xi_static (mj := 11) (as := [.int a4, .int 0, .int 5]) (st1 := []) (lv0 := [(0, .int a4), (1, .int 0), (2, .int 5)]) kc_10_3 rfl rfl (Nat.le_of_ble_eq_true rfl) rfl rfl (Nat.le_of_ble_eq_true rfl) (hJ _ _ _ _ (by decide)) (xm_le ml_11 rfl) rfl ?_
            refine xi_iload_n (pc' := 1) (x := a4) kc_11_0 rfl rfl ?_
            refine xi_iload_n (pc' := 2) (x := 0) kc_11_1 rfl rfl ?_
            refine xi_cmf (pc' := 5) kc_11_2 rfl (xc_lt_f (X := a4.toInt) (Y := 0) rfl (by decide) (by omega)) ?_
            refine xi_iload_n (pc' := 6) (x := a4) kc_11_5 rfl rfl ?_
            refine xi_iload_n (pc' := 7) (x := 5) kc_11_6 rfl rfl ?_
            refine xi_cmt (pc' := 14) kc_11_7 rfl (xc_gt_t (X := a4.toInt) (Y := 5) rfl (by decide) (by omega)) ?_
            refine xi_iconst (pc' := 15) (v := 0) kc_11_14 rfl rfl ?_
            refine xi_ireturn kc_11_15 mr_11 rfl ?_
            show xw J ov 98 10 (6, [(0, .int a4)], [.int 0], hh128) _
            refine xi_ireturn kc_10_6 mr_10 rfl ?_
            show xw J ov 99 23 (16, [(0, .ref 115), (1, .int a2), (2, .int a4), (3, .int a6), (4, .int 0)], [.int 0], hh128) _
            refine xi_iff (pc' := 19) kc_23_16 rfl rfl ?_
            refine xi_aload_n (pc' := 20) (x := 115) kc_23_19 rfl rfl ?_
            refine xi_iconst (pc' := 21) (v := (-1)) kc_23_20 rfl rfl ?_
            refine xi_virtual (mj := 12) (as := [.int (-1)]) (st1 := []) (lv0 := [(0, .ref 115), (1, .int (-1))]) kc_23_21 rfl rfl rfl rfl rfl eh127.1 (Nat.le_of_ble_eq_true rfl) (hJ _ _ _ _ (by decide)) (xm_le ml_12 rfl) rfl ?_
            refine xi_aload_n (pc' := 1) (x := 115) kc_12_0 rfl rfl ?_
            refine xi_getfield (pc' := 4) (v := .ref 140) kc_12_1 rfl rfl rfl eh127.1 rfl ?_
            refine xi_iload_n (pc' := 5) (x := (-1)) kc_12_4 rfl rfl ?_
            refine xi_ineg (pc' := 6) (v := 1) kc_12_5 rfl rfl ?_
            refine xi_dup2 (pc' := 7) kc_12_6 rfl ⟨rfl, rfl⟩ ?_
            obtain ⟨y130, A130, hy130, ry130⟩ := xk_arr K.1 xD_140
            obtain ⟨v131, ev131, bv131, dv131⟩ := xj_get hy130 ry130 (i := 1) (by decide) (by decide)
            have A132 := ((eh127.2.1 140 (by decide)).trans ((eh110.2.1 140 (by decide)).trans A130))
            refine xi_iaload (pc' := 8) (v := v131) kc_12_7 rfl A132 (by decide) rfl (xi_in (by decide) (by rw [hy130]; decide)) ev131 ?_
            refine xi_iconst (pc' := 9) (v := 1) kc_12_8 rfl rfl ?_
            obtain ⟨v133, ev133⟩ : ∃ q : Int32, (v131 : Int32) + 1 = q := ⟨_, rfl⟩
            have rv133 := xc_rng v133
            refine xi_iadd (pc' := 10) (v := v133) kc_12_9 rfl ev133 ?_
            obtain ⟨y134, s134, hy134, ry134⟩ := xj_set (v := v133) hy130 ry130 1 (by first | omega | decide) (by first | omega | decide)
            refine xi_iastore (pc' := 11) (x' := y134) kc_12_10 rfl A132 rfl (xi_in (by decide) (by rw [hy130]; decide)) s134 (fun hh134 eh134 => ?_)
            have K135 := xk_pa K129 (xk_wa rfl) xD_140 hy134 ry134 eh134
            refine xi_iload_n (pc' := 12) (x := (-1)) kc_12_11 rfl rfl ?_
            refine xi_ireturn kc_12_12 mr_12 rfl ?_
            show xw J ov 99 23 (24, [(0, .ref 115), (1, .int a2), (2, .int a4), (3, .int a6), (4, .int 0)], [.int (-1)], hh134) _
            refine xi_ireturn kc_23_24 mr_23 rfl ?_
            show xw J ov 100 195 (473, [(4, .int x4), (3, .ref 167), (2, .ref 115), (1, .ref 0), (0, .ref 1000000)], [.int (-1), .int (-1)], hh134) _
            refine xi_cmt (pc' := 1501) kc_195_473 rfl rfl ?_
            obtain ⟨v136, ev136⟩ : ∃ q : Int32, x4 + 6 = q := ⟨_, rfl⟩
            have zv136 : v136.toInt = (x4.toInt + 6) := by rw [← ev136]; exact (xz_add (X := x4.toInt) (Y := 6) rfl (by decide) (by omega) (by omega)).trans (by omega)
            refine xi_iinc (pc' := 1504) (x := x4) (v := v136) (lv' := [(4, .int v136), (3, .ref 167), (2, .ref 115), (1, .ref 0), (0, .ref 1000000)]) kc_195_1501 rfl rfl ev136 rfl (xm_lt ml_195 rfl) ?_
            refine xi_goto (pc' := 23) kc_195_1504 rfl ?_
            exact kk v136 hh134 (by omega) K135 (xGR_kept I (fun c hc => ((eh134.2.1 c (Ne.symm (xk_nc hc rfl))).trans ((eh127.2.1 c (Ne.symm (xk_nc hc rfl))).trans (eh110.2.1 c (Ne.symm (xk_nc hc rfl)))))) ((eh134.2.1 125 (by decide)).trans ((eh127.2.1 125 (by decide)).trans (eh110.2.1 125 (by decide)))))
          · refine xi_cmf (pc' := 10) kc_89_7 rfl (xc_ge_f (X := a4.toInt) (Y := 6) rfl (by decide) (by omega)) ?_
            refine xi_iconst (pc' := 11) (v := 1) kc_89_10 rfl rfl ?_
            refine xi_goto (pc' := 15) kc_89_11 rfl ?_
            refine xi_ireturn kc_89_15 mr_89 rfl ?_
            show xw J ov 99 103 (11, [(0, .ref 0), (1, .int a2), (2, .int a4), (3, .int a6), (4, .int 0)], [.int 1], h) _
            refine xi_ift (pc' := 20) kc_103_11 rfl rfl ?_
            refine xi_iload_n (pc' := 21) (x := a6) kc_103_20 rfl rfl ?_
            by_cases c137 : 0 ≤ a6.toInt
            · refine xi_ift (pc' := 31) kc_103_21 rfl (xc_ge_t (X := a6.toInt) (Y := 0) rfl (by decide) (by omega)) ?_
              refine xi_iload_n (pc' := 32) (x := a6) kc_103_31 rfl rfl ?_
              refine xi_bipush (pc' := 34) (v := 100) kc_103_32 rfl rfl ?_
              by_cases c138 : a6.toInt ≤ 100
              · refine xi_cmt (pc' := 44) kc_103_34 rfl (xc_le_t (X := a6.toInt) (Y := 100) rfl (by decide) (by omega)) ?_
                refine xi_aload_n (pc' := 45) (x := 0) kc_103_44 rfl rfl ?_
                refine xi_getfield (pc' := 48) (v := .ref 66) kc_103_45 rfl rfl rfl A12 rfl ?_
                obtain ⟨u140, wl139, bu140, A141⟩ := xq_66 K.1
                refine xi_virtual (mj := 91) (as := []) (st1 := []) (lv0 := [(0, .ref 66)]) kc_103_48 rfl rfl rfl rfl rfl A141 (Nat.le_of_ble_eq_true rfl) (hJ _ _ _ _ (by decide)) (xm_le ml_91 rfl) rfl ?_
                refine xi_aload_n (pc' := 1) (x := 66) kc_91_0 rfl rfl ?_
                refine xi_lconst (pc' := 2) (v := 0) kc_91_1 rfl rfl ?_
                refine xi_putfield (pc' := 5) (fs' := [.ref 1, .ref 67, .ref 70, .ref 71, .ref 72, .ref 73, .ref 74, .long 0, .int u140]) kc_91_2 rfl rfl rfl A141 rfl rfl rfl (Nat.le_of_ble_eq_true rfl) rfl (fun hh143 eh142 => ?_)
                have K144 := xk_pl (k := 7) (v := 0) K (xk_wf rfl) xD_66 A141 rfl eh142 rfl
                refine xi_return kc_91_5 mr_91 ?_
                show xw J ov 99 103 (51, [(0, .ref 0), (1, .int a2), (2, .int a4), (3, .int a6), (4, .int 0)], [], hh143) _
                refine xi_aload_n (pc' := 52) (x := 0) kc_103_51 rfl rfl ?_
                have A145 := ((eh142.2.1 0 (by decide)).trans A12)
                refine xi_getfield (pc' := 55) (v := .ref 1) kc_103_52 rfl rfl rfl A145 rfl ?_
                obtain ⟨u146, u147, bu146, bu147, A148⟩ := xq_1 K.1
                have A149 := ((eh142.2.1 1 (by decide)).trans A148)
                refine xi_getfield (pc' := 58) (v := .ref 3) kc_103_55 rfl rfl rfl A149 rfl ?_
                refine xi_iload_n (pc' := 59) (x := a2) kc_103_58 rfl rfl ?_
                have A150 := xk_ex K.1 xD_3
                obtain ⟨pt151, ept151, mpt151⟩ := xR_3 (i := a2) (by omega) (by omega)
                have A152 := ((eh142.2.1 3 (by decide)).trans A150)
                refine xj_aaload (pc' := 60) (b := pt151) kc_103_59 rfl A152 rfl (xi_in (n := 12) (by omega) (by omega)) ept151 ?_
                refine xi_astore (pc' := 62) (lv' := [(5, .ref pt151), (0, .ref 0), (1, .int a2), (2, .int a4), (3, .int a6), (4, .int 0)]) kc_103_60 rfl rfl (xm_lt ml_103 rfl) ?_
                refine xi_aload (pc' := 64) (x := pt151) kc_103_62 rfl rfl ?_
                obtain ⟨u153, u154, u155, u156, pt157, bu153, bu154, bu155, bu156, mpt157, A158⟩ := xg_wall K.1 mpt151
                obtain ⟨y159, A159, hy159, ry159⟩ := xk_arr K.1 xD_125
                have HG160 : y159.getD (Int32.toNatClampNeg a2) 0 = u153 := xGR_ld (Lo := [some 29, some 31, some 33, some 35, some 37, some 39, some 41, some 43, some 45, some 47, some 49, some 51]) I rfl ept151 (by omega) (by show _ < ((12 : Nat) : Int); omega) A158 rfl A159
                have bHG160 : (-9) ≤ u153.toInt ∧ u153.toInt ≤ 5 := by rw [← HG160]; exact ry159 _ (xj_nat (n := 12) (by omega) (by omega))
                have A161 := ((eh142.2.1 pt151 (Ne.symm (xk_nc mpt151 rfl))).trans A158)
                refine xi_virtual (mj := 105) (as := []) (st1 := []) (lv0 := [(0, .ref pt151)]) kc_103_64 rfl rfl rfl rfl rfl A161 (Nat.le_of_ble_eq_true rfl) (hJ _ _ _ _ (by decide)) (xm_le ml_105 rfl) rfl ?_
                refine xi_aload_n (pc' := 1) (x := pt151) kc_105_0 rfl rfl ?_
                refine xi_getfield (pc' := 4) (v := .int u153) kc_105_1 rfl rfl rfl A161 rfl ?_
                refine xi_static (mj := 89) (as := [.int u153]) (st1 := []) (lv0 := [(0, .int u153)]) kc_105_4 rfl rfl (Nat.le_of_ble_eq_true rfl) rfl rfl (Nat.le_of_ble_eq_true rfl) (hJ _ _ _ _ (by decide)) (xm_le ml_89 rfl) rfl ?_
                refine xi_iload_n (pc' := 1) (x := u153) kc_89_0 rfl rfl ?_
                by_cases c162 : u153.toInt < 0
                · refine xi_ift (pc' := 14) kc_89_1 rfl (xc_lt_t (X := u153.toInt) (Y := 0) rfl (by decide) (by omega)) ?_
                  refine xi_iconst (pc' := 15) (v := 0) kc_89_14 rfl rfl ?_
                  refine xi_ireturn kc_89_15 mr_89 rfl ?_
                  show xw J ov 98 105 (7, [(0, .ref pt151)], [.int 0], hh143) _
                  refine xi_ireturn kc_105_7 mr_105 rfl ?_
                  show xw J ov 99 103 (67, [(5, .ref pt151), (0, .ref 0), (1, .int a2), (2, .int a4), (3, .int a6), (4, .int 0)], [.int 0], hh143) _
                  refine xi_ift (pc' := 74) kc_103_67 rfl rfl ?_
                  refine xi_iconst (pc' := 75) (v := 1) kc_103_74 rfl rfl ?_
                  refine xi_istore (pc' := 77) (lv' := [(6, .int 1), (5, .ref pt151), (0, .ref 0), (1, .int a2), (2, .int a4), (3, .int a6), (4, .int 0)]) kc_103_75 rfl rfl (xm_lt ml_103 rfl) ?_
                  refine xi_aload (pc' := 79) (x := pt151) kc_103_77 rfl rfl ?_
                  refine xi_iload_n (pc' := 80) (x := a4) kc_103_79 rfl rfl ?_
                  refine xi_putfield (pc' := 83) (fs' := [.int a4, .int u154, .int u155, .int u156, .ref pt157]) kc_103_80 rfl rfl rfl A161 rfl rfl rfl (Nat.le_of_ble_eq_true rfl) rfl (fun hh164 eh163 => ?_)
                  obtain ⟨ds165, Dds165, dds165_0, dds165_1, dds165_2, dds165_3⟩ := xGo_wall mpt151
                  have K166 := xk_pf (k := 0) (v := a4) K144 (xk_gf mpt151 rfl) Dds165 A161 dds165_0 (by first | omega | decide) (by first | omega | decide) eh163 rfl
                  refine xi_aload (pc' := 85) (x := pt151) kc_103_83 rfl rfl ?_
                  refine xi_iload_n (pc' := 86) (x := a6) kc_103_85 rfl rfl ?_
                  refine xi_putfield (pc' := 89) (fs' := [.int a4, .int a6, .int u155, .int u156, .ref pt157]) kc_103_86 rfl rfl rfl eh163.1 rfl rfl rfl (Nat.le_of_ble_eq_true rfl) rfl (fun hh168 eh167 => ?_)
                  obtain ⟨ds169, Dds169, dds169_0, dds169_1, dds169_2, dds169_3⟩ := xGo_wall mpt151
                  have K170 := xk_pf (k := 1) (v := a6) K166 (xk_gf mpt151 rfl) Dds169 eh163.1 dds169_1 (by first | omega | decide) (by first | omega | decide) eh167 rfl
                  refine xi_aload (pc' := 91) (x := pt151) kc_103_89 rfl rfl ?_
                  refine xi_iload (pc' := 93) (x := 0) kc_103_91 rfl rfl ?_
                  refine xi_putfield (pc' := 96) (fs' := [.int a4, .int a6, .int 0, .int u156, .ref pt157]) kc_103_93 rfl rfl rfl eh167.1 rfl rfl rfl (Nat.le_of_ble_eq_true rfl) rfl (fun hh172 eh171 => ?_)
                  obtain ⟨ds173, Dds173, dds173_0, dds173_1, dds173_2, dds173_3⟩ := xGo_wall mpt151
                  have K174 := xk_pf (k := 2) (v := 0) K170 (xk_gf mpt151 rfl) Dds173 eh167.1 dds173_2 (by first | omega | decide) (by first | omega | decide) eh171 rfl
                  refine xi_iload (pc' := 98) (x := 1) kc_103_96 rfl rfl ?_
                  refine xi_ireturn kc_103_98 mr_103 rfl ?_
                  show xw J ov 100 195 (437, [(4, .int x4), (3, .ref 167), (2, .ref 115), (1, .ref 0), (0, .ref 1000000)], [.int 1], hh172) _
                  refine xi_aload_n (pc' := 438) (x := 115) kc_195_437 rfl rfl ?_
                  refine xi_aload_n (pc' := 439) (x := 1000000) kc_195_438 rfl rfl ?_
                  refine xi_iload (pc' := 441) (x := x4) kc_195_439 rfl rfl ?_
                  refine xi_iconst (pc' := 442) (v := 1) kc_195_441 rfl rfl ?_
                  refine xi_iadd (pc' := 443) (v := v1) kc_195_442 rfl ev1 ?_
                  refine xi_ialoadO (pc' := 444) (v := a2) kc_195_443 rfl (by decide) hov0 (xi_in (by omega) (by omega)) ea2 ?_
                  refine xi_aload_n (pc' := 445) (x := 1000000) kc_195_444 rfl rfl ?_
                  refine xi_iload (pc' := 447) (x := x4) kc_195_445 rfl rfl ?_
                  refine xi_iconst (pc' := 448) (v := 2) kc_195_447 rfl rfl ?_
                  refine xi_iadd (pc' := 449) (v := v3) kc_195_448 rfl ev3 ?_
                  refine xi_ialoadO (pc' := 450) (v := a4) kc_195_449 rfl (by decide) hov0 (xi_in (by omega) (by omega)) ea4 ?_
                  refine xi_aload_n (pc' := 451) (x := 1000000) kc_195_450 rfl rfl ?_
                  refine xi_iload (pc' := 453) (x := x4) kc_195_451 rfl rfl ?_
                  refine xi_iconst (pc' := 454) (v := 3) kc_195_453 rfl rfl ?_
                  refine xi_iadd (pc' := 455) (v := v5) kc_195_454 rfl ev5 ?_
                  refine xi_ialoadO (pc' := 456) (v := a6) kc_195_455 rfl (by decide) hov0 (xi_in (by omega) (by omega)) ea6 ?_
                  refine xi_aload_n (pc' := 457) (x := 1000000) kc_195_456 rfl rfl ?_
                  refine xi_iload (pc' := 459) (x := x4) kc_195_457 rfl rfl ?_
                  refine xi_iconst (pc' := 460) (v := 4) kc_195_459 rfl rfl ?_
                  refine xi_iadd (pc' := 461) (v := v7) kc_195_460 rfl ev7 ?_
                  refine xi_ialoadO (pc' := 462) (v := a8) kc_195_461 rfl (by decide) hov0 (xi_in (by omega) (by omega)) ea8 ?_
                  refine xi_ift (pc' := 469) kc_195_462 rfl (xc_eq_t (X := a8.toInt) (Y := 0) rfl (by decide) (by omega)) ?_
                  refine xi_iconst (pc' := 470) (v := 0) kc_195_469 rfl rfl ?_
                  obtain ⟨u175, u176, u177, u178, u179, u180, u181, u182, u183, u184, u185, u186, u187, bu175, bu176, bu177, bu178, bu179, bu180, bu181, bu182, bu183, bu184, bu185, bu186, bu187, A188⟩ := xq_115 K.1
                  have A189 := ((eh171.2.1 115 (xk_nc mpt151 rfl)).trans ((eh167.2.1 115 (xk_nc mpt151 rfl)).trans ((eh163.2.1 115 (xk_nc mpt151 rfl)).trans ((eh142.2.1 115 (by decide)).trans A188))))
                  refine xi_virtual (mj := 23) (as := [.int a2, .int a4, .int a6, .int 0]) (st1 := [.int 1]) (lv0 := [(0, .ref 115), (1, .int a2), (2, .int a4), (3, .int a6), (4, .int 0)]) kc_195_470 rfl rfl rfl rfl rfl A189 (Nat.le_of_ble_eq_true rfl) (hJ _ _ _ _ (by decide)) (xm_le ml_23 rfl) rfl ?_
                  refine xi_aload_n (pc' := 1) (x := 115) kc_23_0 rfl rfl ?_
                  refine xi_iconst (pc' := 2) (v := 0) kc_23_1 rfl rfl ?_
                  refine xi_putfield (pc' := 5) (fs' := [.int 0, .int u176, .ref 116, .ref 117, .ref 118, .ref 119, .ref 120, .ref 121, .ref 122, .ref 123, .ref 124, .ref 125, .ref 126, .ref 127, .ref 128, .ref 129, .int u177, .ref 130, .int u178, .ref 131, .ref 132, .ref 133, .ref 134, .int u179, .ref 135, .ref 136, .ref 137, .ref 138, .ref 139, .ref 140, .ref 141, .ref 142, .int u180, .int u181, .int u182, .ref 143, .ref 144, .ref 145, .ref 146, .ref 147, .ref 148, .int u183, .ref 149, .ref 150, .ref 151, .int u184, .ref 152, .ref 153, .ref 154, .ref 155, .ref 156, .ref 157, .ref 158, .ref 159, .int u185, .ref 160, .int u186, .ref 161, .ref 162, .ref 163, .ref 164, .int u187, .ref 165, .ref 166]) kc_23_2 rfl rfl rfl A189 rfl rfl rfl (Nat.le_of_ble_eq_true rfl) rfl (fun hh191 eh190 => ?_)
                  have K192 := xk_pf (k := 0) (v := 0) K174 (xk_wf rfl) xD_115 A189 rfl (by first | omega | decide) (by first | omega | decide) eh190 rfl
                  refine xi_iload_n (pc' := 6) (x := a2) kc_23_5 rfl rfl ?_
                  refine xi_static (mj := 24) (as := [.int a2]) (st1 := []) (lv0 := [(0, .int a2)]) kc_23_6 rfl rfl (Nat.le_of_ble_eq_true rfl) rfl rfl (Nat.le_of_ble_eq_true rfl) (hJ _ _ _ _ (by decide)) (xm_le ml_24 rfl) rfl ?_
                  refine xi_iload_n (pc' := 1) (x := a2) kc_24_0 rfl rfl ?_
                  refine xi_iconst (pc' := 2) (v := 0) kc_24_1 rfl rfl ?_
                  refine xi_bipush (pc' := 4) (v := 11) kc_24_2 rfl rfl ?_
                  refine xi_static (mj := 11) (as := [.int a2, .int 0, .int 11]) (st1 := []) (lv0 := [(0, .int a2), (1, .int 0), (2, .int 11)]) kc_24_4 rfl rfl (Nat.le_of_ble_eq_true rfl) rfl rfl (Nat.le_of_ble_eq_true rfl) (hJ _ _ _ _ (by decide)) (xm_le ml_11 rfl) rfl ?_
                  refine xi_iload_n (pc' := 1) (x := a2) kc_11_0 rfl rfl ?_
                  refine xi_iload_n (pc' := 2) (x := 0) kc_11_1 rfl rfl ?_
                  refine xi_cmf (pc' := 5) kc_11_2 rfl (xc_lt_f (X := a2.toInt) (Y := 0) rfl (by decide) (by omega)) ?_
                  refine xi_iload_n (pc' := 6) (x := a2) kc_11_5 rfl rfl ?_
                  refine xi_iload_n (pc' := 7) (x := 11) kc_11_6 rfl rfl ?_
                  refine xi_cmf (pc' := 10) kc_11_7 rfl (xc_gt_f (X := a2.toInt) (Y := 11) rfl (by decide) (by omega)) ?_
                  refine xi_iconst (pc' := 11) (v := 1) kc_11_10 rfl rfl ?_
                  refine xi_goto (pc' := 15) kc_11_11 rfl ?_
                  refine xi_ireturn kc_11_15 mr_11 rfl ?_
                  show xw J ov 98 24 (7, [(0, .int a2)], [.int 1], hh191) _
                  refine xi_ireturn kc_24_7 mr_24 rfl ?_
                  show xw J ov 99 23 (9, [(0, .ref 115), (1, .int a2), (2, .int a4), (3, .int a6), (4, .int 0)], [.int 1], hh191) _
                  refine xi_iff (pc' := 12) kc_23_9 rfl rfl ?_
                  refine xi_iload_n (pc' := 13) (x := a4) kc_23_12 rfl rfl ?_
                  refine xi_static (mj := 10) (as := [.int a4]) (st1 := []) (lv0 := [(0, .int a4)]) kc_23_13 rfl rfl (Nat.le_of_ble_eq_true rfl) rfl rfl (Nat.le_of_ble_eq_true rfl) (hJ _ _ _ _ (by decide)) (xm_le ml_10 rfl) rfl ?_
                  refine xi_iload_n (pc' := 1) (x := a4) kc_10_0 rfl rfl ?_
                  refine xi_iconst (pc' := 2) (v := 0) kc_10_1 rfl rfl ?_
                  refine xi_iconst (pc' := 3) (v := 5) kc_10_2 rfl rfl ?_
                  refine xi_static (mj := 11) (as := [.int a4, .int 0, .int 5]) (st1 := []) (lv0 := [(0, .int a4), (1, .int 0), (2, .int 5)]) kc_10_3 rfl rfl (Nat.le_of_ble_eq_true rfl) rfl rfl (Nat.le_of_ble_eq_true rfl) (hJ _ _ _ _ (by decide)) (xm_le ml_11 rfl) rfl ?_
                  refine xi_iload_n (pc' := 1) (x := a4) kc_11_0 rfl rfl ?_
                  refine xi_iload_n (pc' := 2) (x := 0) kc_11_1 rfl rfl ?_
                  refine xi_cmf (pc' := 5) kc_11_2 rfl (xc_lt_f (X := a4.toInt) (Y := 0) rfl (by decide) (by omega)) ?_
                  refine xi_iload_n (pc' := 6) (x := a4) kc_11_5 rfl rfl ?_
                  refine xi_iload_n (pc' := 7) (x := 5) kc_11_6 rfl rfl ?_
                  refine xi_cmf (pc' := 10) kc_11_7 rfl (xc_gt_f (X := a4.toInt) (Y := 5) rfl (by decide) (by omega)) ?_
                  refine xi_iconst (pc' := 11) (v := 1) kc_11_10 rfl rfl ?_
                  refine xi_goto (pc' := 15) kc_11_11 rfl ?_
                  refine xi_ireturn kc_11_15 mr_11 rfl ?_
                  show xw J ov 98 10 (6, [(0, .int a4)], [.int 1], hh191) _
                  refine xi_ireturn kc_10_6 mr_10 rfl ?_
                  show xw J ov 99 23 (16, [(0, .ref 115), (1, .int a2), (2, .int a4), (3, .int a6), (4, .int 0)], [.int 1], hh191) _
                  refine xi_ift (pc' := 25) kc_23_16 rfl rfl ?_
                  refine xi_iload_n (pc' := 26) (x := a6) kc_23_25 rfl rfl ?_
                  refine xi_ift (pc' := 36) kc_23_26 rfl (xc_ge_t (X := a6.toInt) (Y := 0) rfl (by decide) (by omega)) ?_
                  refine xi_iload_n (pc' := 37) (x := a6) kc_23_36 rfl rfl ?_
                  refine xi_bipush (pc' := 39) (v := 100) kc_23_37 rfl rfl ?_
                  refine xi_cmt (pc' := 49) kc_23_39 rfl (xc_le_t (X := a6.toInt) (Y := 100) rfl (by decide) (by omega)) ?_
                  refine xi_aload_n (pc' := 50) (x := 115) kc_23_49 rfl rfl ?_
                  refine xi_getfield (pc' := 53) (v := .ref 125) kc_23_50 rfl rfl rfl eh190.1 rfl ?_
                  refine xi_iload_n (pc' := 54) (x := a2) kc_23_53 rfl rfl ?_
                  have A193 := ((eh190.2.1 125 (by decide)).trans ((eh171.2.1 125 (xk_nc mpt151 rfl)).trans ((eh167.2.1 125 (xk_nc mpt151 rfl)).trans ((eh163.2.1 125 (xk_nc mpt151 rfl)).trans ((eh142.2.1 125 (by decide)).trans A159)))))
                  refine xi_iaload (pc' := 55) (v := u153) kc_23_54 rfl A193 (by decide) rfl (xi_in (by omega) (by rw [hy159]; omega)) HG160 ?_
                  refine xi_ift (pc' := 62) kc_23_55 rfl (xc_lt_t (X := u153.toInt) (Y := 0) rfl (by decide) (by omega)) ?_
                  refine xi_iconst (pc' := 63) (v := 0) kc_23_62 rfl rfl ?_
                  refine xi_istore (pc' := 65) (lv' := [(5, .int 0), (0, .ref 115), (1, .int a2), (2, .int a4), (3, .int a6), (4, .int 0)]) kc_23_63 rfl rfl (xm_lt ml_23 rfl) ?_
                  refine xi_aload_n (pc' := 66) (x := 115) kc_23_65 rfl rfl ?_
                  refine xi_getfield (pc' := 69) (v := .ref 125) kc_23_66 rfl rfl rfl eh190.1 rfl ?_
                  refine xi_iload_n (pc' := 70) (x := a2) kc_23_69 rfl rfl ?_
                  refine xi_iload_n (pc' := 71) (x := a4) kc_23_70 rfl rfl ?_
                  obtain ⟨y194, s194, hy194, ry194⟩ := xj_set (v := a4) hy159 ry159 a2 (by first | omega | decide) (by first | omega | decide)
                  refine xi_iastore (pc' := 72) (x' := y194) kc_23_71 rfl A193 rfl (xi_in (by omega) (by rw [hy159]; omega)) s194 (fun hh194 eh194 => ?_)
                  have K195 := xk_pa K192 (xk_wa rfl) xD_125 hy194 ry194 eh194
                  refine xi_aload_n (pc' := 73) (x := 115) kc_23_72 rfl rfl ?_
                  have A196 := ((eh194.2.1 115 (by decide)).trans eh190.1)
                  refine xi_getfield (pc' := 76) (v := .ref 126) kc_23_73 rfl rfl rfl A196 rfl ?_
                  refine xi_iload_n (pc' := 77) (x := a2) kc_23_76 rfl rfl ?_
                  refine xi_iload_n (pc' := 78) (x := a6) kc_23_77 rfl rfl ?_
                  obtain ⟨y197, A197, hy197, ry197⟩ := xk_arr K.1 xD_126
                  have A198 := ((eh194.2.1 126 (by decide)).trans ((eh190.2.1 126 (by decide)).trans ((eh171.2.1 126 (xk_nc mpt151 rfl)).trans ((eh167.2.1 126 (xk_nc mpt151 rfl)).trans ((eh163.2.1 126 (xk_nc mpt151 rfl)).trans ((eh142.2.1 126 (by decide)).trans A197))))))
                  obtain ⟨y199, s199, hy199, ry199⟩ := xj_set (v := a6) hy197 ry197 a2 (by first | omega | decide) (by first | omega | decide)
                  refine xi_iastore (pc' := 79) (x' := y199) kc_23_78 rfl A198 rfl (xi_in (by omega) (by rw [hy197]; omega)) s199 (fun hh199 eh199 => ?_)
                  have K200 := xk_pa K195 (xk_wa rfl) xD_126 hy199 ry199 eh199
                  refine xi_aload_n (pc' := 80) (x := 115) kc_23_79 rfl rfl ?_
                  have A201 := ((eh199.2.1 115 (by decide)).trans A196)
                  refine xi_getfield (pc' := 83) (v := .ref 127) kc_23_80 rfl rfl rfl A201 rfl ?_
                  refine xi_iload_n (pc' := 84) (x := a2) kc_23_83 rfl rfl ?_
                  refine xi_iload (pc' := 86) (x := 0) kc_23_84 rfl rfl ?_
                  obtain ⟨y202, A202, hy202, ry202⟩ := xk_arr K.1 xD_127
                  have A203 := ((eh199.2.1 127 (by decide)).trans ((eh194.2.1 127 (by decide)).trans ((eh190.2.1 127 (by decide)).trans ((eh171.2.1 127 (xk_nc mpt151 rfl)).trans ((eh167.2.1 127 (xk_nc mpt151 rfl)).trans ((eh163.2.1 127 (xk_nc mpt151 rfl)).trans ((eh142.2.1 127 (by decide)).trans A202)))))))
                  obtain ⟨y204, s204, hy204, ry204⟩ := xj_set (v := 0) hy202 ry202 a2 (by first | omega | decide) (by first | omega | decide)
                  refine xi_bastore (pc' := 87) (x' := y204) kc_23_86 rfl A203 rfl (xi_in (by omega) (by rw [hy202]; omega)) s204 (fun hh204 eh204 => ?_)
                  have K205 := xk_pa K200 (xk_wa rfl) xD_127 hy204 ry204 eh204
                  refine xi_aload_n (pc' := 88) (x := 115) kc_23_87 rfl rfl ?_
                  refine xi_iconst (pc' := 89) (v := 0) kc_23_88 rfl rfl ?_
                  have A206 := ((eh204.2.1 115 (by decide)).trans A201)
                  refine xi_putfield (pc' := 92) (fs' := [.int 0, .int u176, .ref 116, .ref 117, .ref 118, .ref 119, .ref 120, .ref 121, .ref 122, .ref 123, .ref 124, .ref 125, .ref 126, .ref 127, .ref 128, .ref 129, .int u177, .ref 130, .int u178, .ref 131, .ref 132, .ref 133, .ref 134, .int u179, .ref 135, .ref 136, .ref 137, .ref 138, .ref 139, .ref 140, .ref 141, .ref 142, .int u180, .int u181, .int u182, .ref 143, .ref 144, .ref 145, .ref 146, .ref 147, .ref 148, .int 0, .ref 149, .ref 150, .ref 151, .int u184, .ref 152, .ref 153, .ref 154, .ref 155, .ref 156, .ref 157, .ref 158, .ref 159, .int u185, .ref 160, .int u186, .ref 161, .ref 162, .ref 163, .ref 164, .int u187, .ref 165, .ref 166]) kc_23_89 rfl rfl rfl A206 rfl rfl rfl (Nat.le_of_ble_eq_true rfl) rfl (fun hh208 eh207 => ?_)
                  have K209 := xk_pf (k := 41) (v := 0) K205 (xk_wf rfl) xD_115 A206 rfl (by first | omega | decide) (by first | omega | decide) eh207 rfl
                  refine xi_iload (pc' := 94) (x := 0) kc_23_92 rfl rfl ?_
                  refine xi_ift (pc' := 101) kc_23_94 rfl rfl ?_
                  refine xi_iconst (pc' := 102) (v := 1) kc_23_101 rfl rfl ?_
                  refine xi_ireturn kc_23_102 mr_23 rfl ?_
                  show xw J ov 100 195 (473, [(4, .int x4), (3, .ref 167), (2, .ref 115), (1, .ref 0), (0, .ref 1000000)], [.int 1, .int 1], hh208) _
                  refine xi_cmt (pc' := 1501) kc_195_473 rfl rfl ?_
                  obtain ⟨v210, ev210⟩ : ∃ q : Int32, x4 + 6 = q := ⟨_, rfl⟩
                  have zv210 : v210.toInt = (x4.toInt + 6) := by rw [← ev210]; exact (xz_add (X := x4.toInt) (Y := 6) rfl (by decide) (by omega) (by omega)).trans (by omega)
                  refine xi_iinc (pc' := 1504) (x := x4) (v := v210) (lv' := [(4, .int v210), (3, .ref 167), (2, .ref 115), (1, .ref 0), (0, .ref 1000000)]) kc_195_1501 rfl rfl ev210 rfl (xm_lt ml_195 rfl) ?_
                  refine xi_goto (pc' := 23) kc_195_1504 rfl ?_
                  have A211 := ((eh207.2.1 pt151 (Ne.symm (xk_nc mpt151 rfl))).trans ((eh204.2.1 pt151 (Ne.symm (xk_nc mpt151 rfl))).trans ((eh199.2.1 pt151 (Ne.symm (xk_nc mpt151 rfl))).trans ((eh194.2.1 pt151 (Ne.symm (xk_nc mpt151 rfl))).trans ((eh190.2.1 pt151 (Ne.symm (xk_nc mpt151 rfl))).trans eh171.1)))))
                  have A212 := ((eh207.2.1 125 (by decide)).trans ((eh204.2.1 125 (by decide)).trans ((eh199.2.1 125 (by decide)).trans eh194.1)))
                  exact kk v210 hh208 (by omega) K209 (xGR_set (Lo := [some 29, some 31, some 33, some 35, some 37, some 39, some 41, some 43, some 45, some 47, some 49, some 51]) I (by decide) rfl ept151 (by omega) (by show _ < ((12 : Nat) : Int); omega) A159 (by rw [hy159]; decide) A211 rfl A212 s194 (fun c hc hne => ((eh207.2.1 c (Ne.symm (xk_nc hc rfl))).trans ((eh204.2.1 c (Ne.symm (xk_nc hc rfl))).trans ((eh199.2.1 c (Ne.symm (xk_nc hc rfl))).trans ((eh194.2.1 c (Ne.symm (xk_nc hc rfl))).trans ((eh190.2.1 c (Ne.symm (xk_nc hc rfl))).trans ((eh171.2.1 c hne).trans ((eh167.2.1 c hne).trans ((eh163.2.1 c hne).trans (eh142.2.1 c (Ne.symm (xk_nc hc rfl)))))))))))))
                · refine xi_iff (pc' := 4) kc_89_1 rfl (xc_lt_f (X := u153.toInt) (Y := 0) rfl (by decide) (by omega)) ?_
                  refine xi_iload_n (pc' := 5) (x := u153) kc_89_4 rfl rfl ?_
                  refine xi_bipush (pc' := 7) (v := 6) kc_89_5 rfl rfl ?_
                  refine xi_cmf (pc' := 10) kc_89_7 rfl (xc_ge_f (X := u153.toInt) (Y := 6) rfl (by decide) (by omega)) ?_
                  refine xi_iconst (pc' := 11) (v := 1) kc_89_10 rfl rfl ?_
                  refine xi_goto (pc' := 15) kc_89_11 rfl ?_
                  refine xi_ireturn kc_89_15 mr_89 rfl ?_
                  show xw J ov 98 105 (7, [(0, .ref pt151)], [.int 1], hh143) _
                  refine xi_ireturn kc_105_7 mr_105 rfl ?_
                  show xw J ov 99 103 (67, [(5, .ref pt151), (0, .ref 0), (1, .int a2), (2, .int a4), (3, .int a6), (4, .int 0)], [.int 1], hh143) _
                  refine xi_iff (pc' := 70) kc_103_67 rfl rfl ?_
                  refine xi_iconst (pc' := 71) (v := 0) kc_103_70 rfl rfl ?_
                  refine xi_goto (pc' := 75) kc_103_71 rfl ?_
                  refine xi_istore (pc' := 77) (lv' := [(6, .int 0), (5, .ref pt151), (0, .ref 0), (1, .int a2), (2, .int a4), (3, .int a6), (4, .int 0)]) kc_103_75 rfl rfl (xm_lt ml_103 rfl) ?_
                  refine xi_aload (pc' := 79) (x := pt151) kc_103_77 rfl rfl ?_
                  refine xi_iload_n (pc' := 80) (x := a4) kc_103_79 rfl rfl ?_
                  refine xi_putfield (pc' := 83) (fs' := [.int a4, .int u154, .int u155, .int u156, .ref pt157]) kc_103_80 rfl rfl rfl A161 rfl rfl rfl (Nat.le_of_ble_eq_true rfl) rfl (fun hh214 eh213 => ?_)
                  obtain ⟨ds215, Dds215, dds215_0, dds215_1, dds215_2, dds215_3⟩ := xGo_wall mpt151
                  have K216 := xk_pf (k := 0) (v := a4) K144 (xk_gf mpt151 rfl) Dds215 A161 dds215_0 (by first | omega | decide) (by first | omega | decide) eh213 rfl
                  refine xi_aload (pc' := 85) (x := pt151) kc_103_83 rfl rfl ?_
                  refine xi_iload_n (pc' := 86) (x := a6) kc_103_85 rfl rfl ?_
                  refine xi_putfield (pc' := 89) (fs' := [.int a4, .int a6, .int u155, .int u156, .ref pt157]) kc_103_86 rfl rfl rfl eh213.1 rfl rfl rfl (Nat.le_of_ble_eq_true rfl) rfl (fun hh218 eh217 => ?_)
                  obtain ⟨ds219, Dds219, dds219_0, dds219_1, dds219_2, dds219_3⟩ := xGo_wall mpt151
                  have K220 := xk_pf (k := 1) (v := a6) K216 (xk_gf mpt151 rfl) Dds219 eh213.1 dds219_1 (by first | omega | decide) (by first | omega | decide) eh217 rfl
                  refine xi_aload (pc' := 91) (x := pt151) kc_103_89 rfl rfl ?_
                  refine xi_iload (pc' := 93) (x := 0) kc_103_91 rfl rfl ?_
                  refine xi_putfield (pc' := 96) (fs' := [.int a4, .int a6, .int 0, .int u156, .ref pt157]) kc_103_93 rfl rfl rfl eh217.1 rfl rfl rfl (Nat.le_of_ble_eq_true rfl) rfl (fun hh222 eh221 => ?_)
                  obtain ⟨ds223, Dds223, dds223_0, dds223_1, dds223_2, dds223_3⟩ := xGo_wall mpt151
                  have K224 := xk_pf (k := 2) (v := 0) K220 (xk_gf mpt151 rfl) Dds223 eh217.1 dds223_2 (by first | omega | decide) (by first | omega | decide) eh221 rfl
                  refine xi_iload (pc' := 98) (x := 0) kc_103_96 rfl rfl ?_
                  refine xi_ireturn kc_103_98 mr_103 rfl ?_
                  show xw J ov 100 195 (437, [(4, .int x4), (3, .ref 167), (2, .ref 115), (1, .ref 0), (0, .ref 1000000)], [.int 0], hh222) _
                  refine xi_aload_n (pc' := 438) (x := 115) kc_195_437 rfl rfl ?_
                  refine xi_aload_n (pc' := 439) (x := 1000000) kc_195_438 rfl rfl ?_
                  refine xi_iload (pc' := 441) (x := x4) kc_195_439 rfl rfl ?_
                  refine xi_iconst (pc' := 442) (v := 1) kc_195_441 rfl rfl ?_
                  refine xi_iadd (pc' := 443) (v := v1) kc_195_442 rfl ev1 ?_
                  refine xi_ialoadO (pc' := 444) (v := a2) kc_195_443 rfl (by decide) hov0 (xi_in (by omega) (by omega)) ea2 ?_
                  refine xi_aload_n (pc' := 445) (x := 1000000) kc_195_444 rfl rfl ?_
                  refine xi_iload (pc' := 447) (x := x4) kc_195_445 rfl rfl ?_
                  refine xi_iconst (pc' := 448) (v := 2) kc_195_447 rfl rfl ?_
                  refine xi_iadd (pc' := 449) (v := v3) kc_195_448 rfl ev3 ?_
                  refine xi_ialoadO (pc' := 450) (v := a4) kc_195_449 rfl (by decide) hov0 (xi_in (by omega) (by omega)) ea4 ?_
                  refine xi_aload_n (pc' := 451) (x := 1000000) kc_195_450 rfl rfl ?_
                  refine xi_iload (pc' := 453) (x := x4) kc_195_451 rfl rfl ?_
                  refine xi_iconst (pc' := 454) (v := 3) kc_195_453 rfl rfl ?_
                  refine xi_iadd (pc' := 455) (v := v5) kc_195_454 rfl ev5 ?_
                  refine xi_ialoadO (pc' := 456) (v := a6) kc_195_455 rfl (by decide) hov0 (xi_in (by omega) (by omega)) ea6 ?_
                  refine xi_aload_n (pc' := 457) (x := 1000000) kc_195_456 rfl rfl ?_
                  refine xi_iload (pc' := 459) (x := x4) kc_195_457 rfl rfl ?_
                  refine xi_iconst (pc' := 460) (v := 4) kc_195_459 rfl rfl ?_
                  refine xi_iadd (pc' := 461) (v := v7) kc_195_460 rfl ev7 ?_
                  refine xi_ialoadO (pc' := 462) (v := a8) kc_195_461 rfl (by decide) hov0 (xi_in (by omega) (by omega)) ea8 ?_
                  refine xi_ift (pc' := 469) kc_195_462 rfl (xc_eq_t (X := a8.toInt) (Y := 0) rfl (by decide) (by omega)) ?_
                  refine xi_iconst (pc' := 470) (v := 0) kc_195_469 rfl rfl ?_
                  obtain ⟨u225, u226, u227, u228, u229, u230, u231, u232, u233, u234, u235, u236, u237, bu225, bu226, bu227, bu228, bu229, bu230, bu231, bu232, bu233, bu234, bu235, bu236, bu237, A238⟩ := xq_115 K.1
                  have A239 := ((eh221.2.1 115 (xk_nc mpt151 rfl)).trans ((eh217.2.1 115 (xk_nc mpt151 rfl)).trans ((eh213.2.1 115 (xk_nc mpt151 rfl)).trans ((eh142.2.1 115 (by decide)).trans A238))))
                  refine xi_virtual (mj := 23) (as := [.int a2, .int a4, .int a6, .int 0]) (st1 := [.int 0]) (lv0 := [(0, .ref 115), (1, .int a2), (2, .int a4), (3, .int a6), (4, .int 0)]) kc_195_470 rfl rfl rfl rfl rfl A239 (Nat.le_of_ble_eq_true rfl) (hJ _ _ _ _ (by decide)) (xm_le ml_23 rfl) rfl ?_
                  refine xi_aload_n (pc' := 1) (x := 115) kc_23_0 rfl rfl ?_
                  refine xi_iconst (pc' := 2) (v := 0) kc_23_1 rfl rfl ?_
                  refine xi_putfield (pc' := 5) (fs' := [.int 0, .int u226, .ref 116, .ref 117, .ref 118, .ref 119, .ref 120, .ref 121, .ref 122, .ref 123, .ref 124, .ref 125, .ref 126, .ref 127, .ref 128, .ref 129, .int u227, .ref 130, .int u228, .ref 131, .ref 132, .ref 133, .ref 134, .int u229, .ref 135, .ref 136, .ref 137, .ref 138, .ref 139, .ref 140, .ref 141, .ref 142, .int u230, .int u231, .int u232, .ref 143, .ref 144, .ref 145, .ref 146, .ref 147, .ref 148, .int u233, .ref 149, .ref 150, .ref 151, .int u234, .ref 152, .ref 153, .ref 154, .ref 155, .ref 156, .ref 157, .ref 158, .ref 159, .int u235, .ref 160, .int u236, .ref 161, .ref 162, .ref 163, .ref 164, .int u237, .ref 165, .ref 166]) kc_23_2 rfl rfl rfl A239 rfl rfl rfl (Nat.le_of_ble_eq_true rfl) rfl (fun hh241 eh240 => ?_)
                  have K242 := xk_pf (k := 0) (v := 0) K224 (xk_wf rfl) xD_115 A239 rfl (by first | omega | decide) (by first | omega | decide) eh240 rfl
                  refine xi_iload_n (pc' := 6) (x := a2) kc_23_5 rfl rfl ?_
                  refine xi_static (mj := 24) (as := [.int a2]) (st1 := []) (lv0 := [(0, .int a2)]) kc_23_6 rfl rfl (Nat.le_of_ble_eq_true rfl) rfl rfl (Nat.le_of_ble_eq_true rfl) (hJ _ _ _ _ (by decide)) (xm_le ml_24 rfl) rfl ?_
                  refine xi_iload_n (pc' := 1) (x := a2) kc_24_0 rfl rfl ?_
                  refine xi_iconst (pc' := 2) (v := 0) kc_24_1 rfl rfl ?_
                  refine xi_bipush (pc' := 4) (v := 11) kc_24_2 rfl rfl ?_
                  refine xi_static (mj := 11) (as := [.int a2, .int 0, .int 11]) (st1 := []) (lv0 := [(0, .int a2), (1, .int 0), (2, .int 11)]) kc_24_4 rfl rfl (Nat.le_of_ble_eq_true rfl) rfl rfl (Nat.le_of_ble_eq_true rfl) (hJ _ _ _ _ (by decide)) (xm_le ml_11 rfl) rfl ?_
                  refine xi_iload_n (pc' := 1) (x := a2) kc_11_0 rfl rfl ?_
                  refine xi_iload_n (pc' := 2) (x := 0) kc_11_1 rfl rfl ?_
                  refine xi_cmf (pc' := 5) kc_11_2 rfl (xc_lt_f (X := a2.toInt) (Y := 0) rfl (by decide) (by omega)) ?_
                  refine xi_iload_n (pc' := 6) (x := a2) kc_11_5 rfl rfl ?_
                  refine xi_iload_n (pc' := 7) (x := 11) kc_11_6 rfl rfl ?_
                  refine xi_cmf (pc' := 10) kc_11_7 rfl (xc_gt_f (X := a2.toInt) (Y := 11) rfl (by decide) (by omega)) ?_
                  refine xi_iconst (pc' := 11) (v := 1) kc_11_10 rfl rfl ?_
                  refine xi_goto (pc' := 15) kc_11_11 rfl ?_
                  refine xi_ireturn kc_11_15 mr_11 rfl ?_
                  show xw J ov 98 24 (7, [(0, .int a2)], [.int 1], hh241) _
                  refine xi_ireturn kc_24_7 mr_24 rfl ?_
                  show xw J ov 99 23 (9, [(0, .ref 115), (1, .int a2), (2, .int a4), (3, .int a6), (4, .int 0)], [.int 1], hh241) _
                  refine xi_iff (pc' := 12) kc_23_9 rfl rfl ?_
                  refine xi_iload_n (pc' := 13) (x := a4) kc_23_12 rfl rfl ?_
                  refine xi_static (mj := 10) (as := [.int a4]) (st1 := []) (lv0 := [(0, .int a4)]) kc_23_13 rfl rfl (Nat.le_of_ble_eq_true rfl) rfl rfl (Nat.le_of_ble_eq_true rfl) (hJ _ _ _ _ (by decide)) (xm_le ml_10 rfl) rfl ?_
                  refine xi_iload_n (pc' := 1) (x := a4) kc_10_0 rfl rfl ?_
                  refine xi_iconst (pc' := 2) (v := 0) kc_10_1 rfl rfl ?_
                  refine xi_iconst (pc' := 3) (v := 5) kc_10_2 rfl rfl ?_
                  refine xi_static (mj := 11) (as := [.int a4, .int 0, .int 5]) (st1 := []) (lv0 := [(0, .int a4), (1, .int 0), (2, .int 5)]) kc_10_3 rfl rfl (Nat.le_of_ble_eq_true rfl) rfl rfl (Nat.le_of_ble_eq_true rfl) (hJ _ _ _ _ (by decide)) (xm_le ml_11 rfl) rfl ?_
                  refine xi_iload_n (pc' := 1) (x := a4) kc_11_0 rfl rfl ?_
                  refine xi_iload_n (pc' := 2) (x := 0) kc_11_1 rfl rfl ?_
                  refine xi_cmf (pc' := 5) kc_11_2 rfl (xc_lt_f (X := a4.toInt) (Y := 0) rfl (by decide) (by omega)) ?_
                  refine xi_iload_n (pc' := 6) (x := a4) kc_11_5 rfl rfl ?_
                  refine xi_iload_n (pc' := 7) (x := 5) kc_11_6 rfl rfl ?_
                  refine xi_cmf (pc' := 10) kc_11_7 rfl (xc_gt_f (X := a4.toInt) (Y := 5) rfl (by decide) (by omega)) ?_
                  refine xi_iconst (pc' := 11) (v := 1) kc_11_10 rfl rfl ?_
                  refine xi_goto (pc' := 15) kc_11_11 rfl ?_
                  refine xi_ireturn kc_11_15 mr_11 rfl ?_
                  show xw J ov 98 10 (6, [(0, .int a4)], [.int 1], hh241) _
                  refine xi_ireturn kc_10_6 mr_10 rfl ?_
                  show xw J ov 99 23 (16, [(0, .ref 115), (1, .int a2), (2, .int a4), (3, .int a6), (4, .int 0)], [.int 1], hh241) _
                  refine xi_ift (pc' := 25) kc_23_16 rfl rfl ?_
                  refine xi_iload_n (pc' := 26) (x := a6) kc_23_25 rfl rfl ?_
                  refine xi_ift (pc' := 36) kc_23_26 rfl (xc_ge_t (X := a6.toInt) (Y := 0) rfl (by decide) (by omega)) ?_
                  refine xi_iload_n (pc' := 37) (x := a6) kc_23_36 rfl rfl ?_
                  refine xi_bipush (pc' := 39) (v := 100) kc_23_37 rfl rfl ?_
                  refine xi_cmt (pc' := 49) kc_23_39 rfl (xc_le_t (X := a6.toInt) (Y := 100) rfl (by decide) (by omega)) ?_
                  refine xi_aload_n (pc' := 50) (x := 115) kc_23_49 rfl rfl ?_
                  refine xi_getfield (pc' := 53) (v := .ref 125) kc_23_50 rfl rfl rfl eh240.1 rfl ?_
                  refine xi_iload_n (pc' := 54) (x := a2) kc_23_53 rfl rfl ?_
                  have A243 := ((eh240.2.1 125 (by decide)).trans ((eh221.2.1 125 (xk_nc mpt151 rfl)).trans ((eh217.2.1 125 (xk_nc mpt151 rfl)).trans ((eh213.2.1 125 (xk_nc mpt151 rfl)).trans ((eh142.2.1 125 (by decide)).trans A159)))))
                  refine xi_iaload (pc' := 55) (v := u153) kc_23_54 rfl A243 (by decide) rfl (xi_in (by omega) (by rw [hy159]; omega)) HG160 ?_
                  refine xi_iff (pc' := 58) kc_23_55 rfl (xc_lt_f (X := u153.toInt) (Y := 0) rfl (by decide) (by omega)) ?_
                  refine xi_iconst (pc' := 59) (v := 1) kc_23_58 rfl rfl ?_
                  refine xi_goto (pc' := 63) kc_23_59 rfl ?_
                  refine xi_istore (pc' := 65) (lv' := [(5, .int 1), (0, .ref 115), (1, .int a2), (2, .int a4), (3, .int a6), (4, .int 0)]) kc_23_63 rfl rfl (xm_lt ml_23 rfl) ?_
                  refine xi_aload_n (pc' := 66) (x := 115) kc_23_65 rfl rfl ?_
                  refine xi_getfield (pc' := 69) (v := .ref 125) kc_23_66 rfl rfl rfl eh240.1 rfl ?_
                  refine xi_iload_n (pc' := 70) (x := a2) kc_23_69 rfl rfl ?_
                  refine xi_iload_n (pc' := 71) (x := a4) kc_23_70 rfl rfl ?_
                  obtain ⟨y244, s244, hy244, ry244⟩ := xj_set (v := a4) hy159 ry159 a2 (by first | omega | decide) (by first | omega | decide)
                  refine xi_iastore (pc' := 72) (x' := y244) kc_23_71 rfl A243 rfl (xi_in (by omega) (by rw [hy159]; omega)) s244 (fun hh244 eh244 => ?_)
                  have K245 := xk_pa K242 (xk_wa rfl) xD_125 hy244 ry244 eh244
                  refine xi_aload_n (pc' := 73) (x := 115) kc_23_72 rfl rfl ?_
                  have A246 := ((eh244.2.1 115 (by decide)).trans eh240.1)
                  refine xi_getfield (pc' := 76) (v := .ref 126) kc_23_73 rfl rfl rfl A246 rfl ?_
                  refine xi_iload_n (pc' := 77) (x := a2) kc_23_76 rfl rfl ?_
                  refine xi_iload_n (pc' := 78) (x := a6) kc_23_77 rfl rfl ?_
                  obtain ⟨y247, A247, hy247, ry247⟩ := xk_arr K.1 xD_126
                  have A248 := ((eh244.2.1 126 (by decide)).trans ((eh240.2.1 126 (by decide)).trans ((eh221.2.1 126 (xk_nc mpt151 rfl)).trans ((eh217.2.1 126 (xk_nc mpt151 rfl)).trans ((eh213.2.1 126 (xk_nc mpt151 rfl)).trans ((eh142.2.1 126 (by decide)).trans A247))))))
                  obtain ⟨y249, s249, hy249, ry249⟩ := xj_set (v := a6) hy247 ry247 a2 (by first | omega | decide) (by first | omega | decide)
                  refine xi_iastore (pc' := 79) (x' := y249) kc_23_78 rfl A248 rfl (xi_in (by omega) (by rw [hy247]; omega)) s249 (fun hh249 eh249 => ?_)
                  have K250 := xk_pa K245 (xk_wa rfl) xD_126 hy249 ry249 eh249
                  refine xi_aload_n (pc' := 80) (x := 115) kc_23_79 rfl rfl ?_
                  have A251 := ((eh249.2.1 115 (by decide)).trans A246)
                  refine xi_getfield (pc' := 83) (v := .ref 127) kc_23_80 rfl rfl rfl A251 rfl ?_
                  refine xi_iload_n (pc' := 84) (x := a2) kc_23_83 rfl rfl ?_
                  refine xi_iload (pc' := 86) (x := 0) kc_23_84 rfl rfl ?_
                  obtain ⟨y252, A252, hy252, ry252⟩ := xk_arr K.1 xD_127
                  have A253 := ((eh249.2.1 127 (by decide)).trans ((eh244.2.1 127 (by decide)).trans ((eh240.2.1 127 (by decide)).trans ((eh221.2.1 127 (xk_nc mpt151 rfl)).trans ((eh217.2.1 127 (xk_nc mpt151 rfl)).trans ((eh213.2.1 127 (xk_nc mpt151 rfl)).trans ((eh142.2.1 127 (by decide)).trans A252)))))))
                  obtain ⟨y254, s254, hy254, ry254⟩ := xj_set (v := 0) hy252 ry252 a2 (by first | omega | decide) (by first | omega | decide)
                  refine xi_bastore (pc' := 87) (x' := y254) kc_23_86 rfl A253 rfl (xi_in (by omega) (by rw [hy252]; omega)) s254 (fun hh254 eh254 => ?_)
                  have K255 := xk_pa K250 (xk_wa rfl) xD_127 hy254 ry254 eh254
                  refine xi_aload_n (pc' := 88) (x := 115) kc_23_87 rfl rfl ?_
                  refine xi_iconst (pc' := 89) (v := 0) kc_23_88 rfl rfl ?_
                  have A256 := ((eh254.2.1 115 (by decide)).trans A251)
                  refine xi_putfield (pc' := 92) (fs' := [.int 0, .int u226, .ref 116, .ref 117, .ref 118, .ref 119, .ref 120, .ref 121, .ref 122, .ref 123, .ref 124, .ref 125, .ref 126, .ref 127, .ref 128, .ref 129, .int u227, .ref 130, .int u228, .ref 131, .ref 132, .ref 133, .ref 134, .int u229, .ref 135, .ref 136, .ref 137, .ref 138, .ref 139, .ref 140, .ref 141, .ref 142, .int u230, .int u231, .int u232, .ref 143, .ref 144, .ref 145, .ref 146, .ref 147, .ref 148, .int 0, .ref 149, .ref 150, .ref 151, .int u234, .ref 152, .ref 153, .ref 154, .ref 155, .ref 156, .ref 157, .ref 158, .ref 159, .int u235, .ref 160, .int u236, .ref 161, .ref 162, .ref 163, .ref 164, .int u237, .ref 165, .ref 166]) kc_23_89 rfl rfl rfl A256 rfl rfl rfl (Nat.le_of_ble_eq_true rfl) rfl (fun hh258 eh257 => ?_)
                  have K259 := xk_pf (k := 41) (v := 0) K255 (xk_wf rfl) xD_115 A256 rfl (by first | omega | decide) (by first | omega | decide) eh257 rfl
                  refine xi_iload (pc' := 94) (x := 1) kc_23_92 rfl rfl ?_
                  refine xi_iff (pc' := 97) kc_23_94 rfl rfl ?_
                  refine xi_iconst (pc' := 98) (v := 0) kc_23_97 rfl rfl ?_
                  refine xi_goto (pc' := 102) kc_23_98 rfl ?_
                  refine xi_ireturn kc_23_102 mr_23 rfl ?_
                  show xw J ov 100 195 (473, [(4, .int x4), (3, .ref 167), (2, .ref 115), (1, .ref 0), (0, .ref 1000000)], [.int 0, .int 0], hh258) _
                  refine xi_cmt (pc' := 1501) kc_195_473 rfl rfl ?_
                  obtain ⟨v260, ev260⟩ : ∃ q : Int32, x4 + 6 = q := ⟨_, rfl⟩
                  have zv260 : v260.toInt = (x4.toInt + 6) := by rw [← ev260]; exact (xz_add (X := x4.toInt) (Y := 6) rfl (by decide) (by omega) (by omega)).trans (by omega)
                  refine xi_iinc (pc' := 1504) (x := x4) (v := v260) (lv' := [(4, .int v260), (3, .ref 167), (2, .ref 115), (1, .ref 0), (0, .ref 1000000)]) kc_195_1501 rfl rfl ev260 rfl (xm_lt ml_195 rfl) ?_
                  refine xi_goto (pc' := 23) kc_195_1504 rfl ?_
                  have A261 := ((eh257.2.1 pt151 (Ne.symm (xk_nc mpt151 rfl))).trans ((eh254.2.1 pt151 (Ne.symm (xk_nc mpt151 rfl))).trans ((eh249.2.1 pt151 (Ne.symm (xk_nc mpt151 rfl))).trans ((eh244.2.1 pt151 (Ne.symm (xk_nc mpt151 rfl))).trans ((eh240.2.1 pt151 (Ne.symm (xk_nc mpt151 rfl))).trans eh221.1)))))
                  have A262 := ((eh257.2.1 125 (by decide)).trans ((eh254.2.1 125 (by decide)).trans ((eh249.2.1 125 (by decide)).trans eh244.1)))
                  exact kk v260 hh258 (by omega) K259 (xGR_set (Lo := [some 29, some 31, some 33, some 35, some 37, some 39, some 41, some 43, some 45, some 47, some 49, some 51]) I (by decide) rfl ept151 (by omega) (by show _ < ((12 : Nat) : Int); omega) A159 (by rw [hy159]; decide) A261 rfl A262 s244 (fun c hc hne => ((eh257.2.1 c (Ne.symm (xk_nc hc rfl))).trans ((eh254.2.1 c (Ne.symm (xk_nc hc rfl))).trans ((eh249.2.1 c (Ne.symm (xk_nc hc rfl))).trans ((eh244.2.1 c (Ne.symm (xk_nc hc rfl))).trans ((eh240.2.1 c (Ne.symm (xk_nc hc rfl))).trans ((eh221.2.1 c hne).trans ((eh217.2.1 c hne).trans ((eh213.2.1 c hne).trans (eh142.2.1 c (Ne.symm (xk_nc hc rfl)))))))))))))
              · refine xi_cmf (pc' := 37) kc_103_34 rfl (xc_le_f (X := a6.toInt) (Y := 100) rfl (by decide) (by omega)) ?_
                refine xi_aload_n (pc' := 38) (x := 0) kc_103_37 rfl rfl ?_
                refine xi_bipush (pc' := 40) (v := (-6)) kc_103_38 rfl rfl ?_
                refine xi_virtual (mj := 90) (as := [.int (-6)]) (st1 := []) (lv0 := [(0, .ref 0), (1, .int (-6))]) kc_103_40 rfl rfl rfl rfl rfl A12 (Nat.le_of_ble_eq_true rfl) (hJ _ _ _ _ (by decide)) (xm_le ml_90 rfl) rfl ?_
                refine xi_iload_n (pc' := 1) (x := (-6)) kc_90_0 rfl rfl ?_
                refine xi_ineg (pc' := 2) (v := 6) kc_90_1 rfl rfl ?_
                refine xi_istore_n (pc' := 3) (lv' := [(2, .int 6), (0, .ref 0), (1, .int (-6))]) kc_90_2 rfl rfl (xm_lt ml_90 rfl) ?_
                refine xi_iload_n (pc' := 4) (x := 6) kc_90_3 rfl rfl ?_
                refine xi_iff (pc' := 7) kc_90_4 rfl rfl ?_
                refine xi_iload_n (pc' := 8) (x := 6) kc_90_7 rfl rfl ?_
                refine xi_aload_n (pc' := 9) (x := 0) kc_90_8 rfl rfl ?_
                refine xi_getfield (pc' := 12) (v := .ref 94) kc_90_9 rfl rfl rfl A12 rfl ?_
                obtain ⟨y263, A263, hy263, ry263⟩ := xk_arr K.1 xD_94
                refine xi_arraylength (pc' := 13) (n := 7) (v := 7) kc_90_12 rfl (xl_lenI (by decide) (by decide) A263 hy263) rfl ?_
                refine xi_cmf (pc' := 16) kc_90_13 rfl rfl ?_
                refine xi_aload_n (pc' := 17) (x := 0) kc_90_16 rfl rfl ?_
                refine xi_getfield (pc' := 20) (v := .ref 94) kc_90_17 rfl rfl rfl A12 rfl ?_
                refine xi_iload_n (pc' := 21) (x := 6) kc_90_20 rfl rfl ?_
                refine xi_dup2 (pc' := 22) kc_90_21 rfl ⟨rfl, rfl⟩ ?_
                obtain ⟨v264, ev264, bv264, dv264⟩ := xj_get hy263 ry263 (i := 6) (by decide) (by decide)
                refine xi_iaload (pc' := 23) (v := v264) kc_90_22 rfl A263 (by decide) rfl (xi_in (by decide) (by rw [hy263]; decide)) ev264 ?_
                refine xi_iconst (pc' := 24) (v := 1) kc_90_23 rfl rfl ?_
                obtain ⟨v265, ev265⟩ : ∃ q : Int32, (v264 : Int32) + 1 = q := ⟨_, rfl⟩
                have rv265 := xc_rng v265
                refine xi_iadd (pc' := 25) (v := v265) kc_90_24 rfl ev265 ?_
                obtain ⟨y266, s266, hy266, ry266⟩ := xj_set (v := v265) hy263 ry263 6 (by first | omega | decide) (by first | omega | decide)
                refine xi_iastore (pc' := 26) (x' := y266) kc_90_25 rfl A263 rfl (xi_in (by decide) (by rw [hy263]; decide)) s266 (fun hh266 eh266 => ?_)
                have K267 := xk_pa K (xk_wa rfl) xD_94 hy266 ry266 eh266
                refine xi_iload_n (pc' := 27) (x := (-6)) kc_90_26 rfl rfl ?_
                refine xi_ireturn kc_90_27 mr_90 rfl ?_
                show xw J ov 99 103 (43, [(0, .ref 0), (1, .int a2), (2, .int a4), (3, .int a6), (4, .int 0)], [.int (-6)], hh266) _
                refine xi_ireturn kc_103_43 mr_103 rfl ?_
                show xw J ov 100 195 (437, [(4, .int x4), (3, .ref 167), (2, .ref 115), (1, .ref 0), (0, .ref 1000000)], [.int (-6)], hh266) _
                refine xi_aload_n (pc' := 438) (x := 115) kc_195_437 rfl rfl ?_
                refine xi_aload_n (pc' := 439) (x := 1000000) kc_195_438 rfl rfl ?_
                refine xi_iload (pc' := 441) (x := x4) kc_195_439 rfl rfl ?_
                refine xi_iconst (pc' := 442) (v := 1) kc_195_441 rfl rfl ?_
                refine xi_iadd (pc' := 443) (v := v1) kc_195_442 rfl ev1 ?_
                refine xi_ialoadO (pc' := 444) (v := a2) kc_195_443 rfl (by decide) hov0 (xi_in (by omega) (by omega)) ea2 ?_
                refine xi_aload_n (pc' := 445) (x := 1000000) kc_195_444 rfl rfl ?_
                refine xi_iload (pc' := 447) (x := x4) kc_195_445 rfl rfl ?_
                refine xi_iconst (pc' := 448) (v := 2) kc_195_447 rfl rfl ?_
                refine xi_iadd (pc' := 449) (v := v3) kc_195_448 rfl ev3 ?_
                refine xi_ialoadO (pc' := 450) (v := a4) kc_195_449 rfl (by decide) hov0 (xi_in (by omega) (by omega)) ea4 ?_
                refine xi_aload_n (pc' := 451) (x := 1000000) kc_195_450 rfl rfl ?_
                refine xi_iload (pc' := 453) (x := x4) kc_195_451 rfl rfl ?_
                refine xi_iconst (pc' := 454) (v := 3) kc_195_453 rfl rfl ?_
                refine xi_iadd (pc' := 455) (v := v5) kc_195_454 rfl ev5 ?_
                refine xi_ialoadO (pc' := 456) (v := a6) kc_195_455 rfl (by decide) hov0 (xi_in (by omega) (by omega)) ea6 ?_
                refine xi_aload_n (pc' := 457) (x := 1000000) kc_195_456 rfl rfl ?_
                refine xi_iload (pc' := 459) (x := x4) kc_195_457 rfl rfl ?_
                refine xi_iconst (pc' := 460) (v := 4) kc_195_459 rfl rfl ?_
                refine xi_iadd (pc' := 461) (v := v7) kc_195_460 rfl ev7 ?_
                refine xi_ialoadO (pc' := 462) (v := a8) kc_195_461 rfl (by decide) hov0 (xi_in (by omega) (by omega)) ea8 ?_
                refine xi_ift (pc' := 469) kc_195_462 rfl (xc_eq_t (X := a8.toInt) (Y := 0) rfl (by decide) (by omega)) ?_
                refine xi_iconst (pc' := 470) (v := 0) kc_195_469 rfl rfl ?_
                obtain ⟨u268, u269, u270, u271, u272, u273, u274, u275, u276, u277, u278, u279, u280, bu268, bu269, bu270, bu271, bu272, bu273, bu274, bu275, bu276, bu277, bu278, bu279, bu280, A281⟩ := xq_115 K.1
                have A282 := ((eh266.2.1 115 (by decide)).trans A281)
                refine xi_virtual (mj := 23) (as := [.int a2, .int a4, .int a6, .int 0]) (st1 := [.int (-6)]) (lv0 := [(0, .ref 115), (1, .int a2), (2, .int a4), (3, .int a6), (4, .int 0)]) kc_195_470 rfl rfl rfl rfl rfl A282 (Nat.le_of_ble_eq_true rfl) (hJ _ _ _ _ (by decide)) (xm_le ml_23 rfl) rfl ?_
                refine xi_aload_n (pc' := 1) (x := 115) kc_23_0 rfl rfl ?_
                refine xi_iconst (pc' := 2) (v := 0) kc_23_1 rfl rfl ?_
                refine xi_putfield (pc' := 5) (fs' := [.int 0, .int u269, .ref 116, .ref 117, .ref 118, .ref 119, .ref 120, .ref 121, .ref 122, .ref 123, .ref 124, .ref 125, .ref 126, .ref 127, .ref 128, .ref 129, .int u270, .ref 130, .int u271, .ref 131, .ref 132, .ref 133, .ref 134, .int u272, .ref 135, .ref 136, .ref 137, .ref 138, .ref 139, .ref 140, .ref 141, .ref 142, .int u273, .int u274, .int u275, .ref 143, .ref 144, .ref 145, .ref 146, .ref 147, .ref 148, .int u276, .ref 149, .ref 150, .ref 151, .int u277, .ref 152, .ref 153, .ref 154, .ref 155, .ref 156, .ref 157, .ref 158, .ref 159, .int u278, .ref 160, .int u279, .ref 161, .ref 162, .ref 163, .ref 164, .int u280, .ref 165, .ref 166]) kc_23_2 rfl rfl rfl A282 rfl rfl rfl (Nat.le_of_ble_eq_true rfl) rfl (fun hh284 eh283 => ?_)
                have K285 := xk_pf (k := 0) (v := 0) K267 (xk_wf rfl) xD_115 A282 rfl (by first | omega | decide) (by first | omega | decide) eh283 rfl
                refine xi_iload_n (pc' := 6) (x := a2) kc_23_5 rfl rfl ?_
                refine xi_static (mj := 24) (as := [.int a2]) (st1 := []) (lv0 := [(0, .int a2)]) kc_23_6 rfl rfl (Nat.le_of_ble_eq_true rfl) rfl rfl (Nat.le_of_ble_eq_true rfl) (hJ _ _ _ _ (by decide)) (xm_le ml_24 rfl) rfl ?_
                refine xi_iload_n (pc' := 1) (x := a2) kc_24_0 rfl rfl ?_
                refine xi_iconst (pc' := 2) (v := 0) kc_24_1 rfl rfl ?_
                refine xi_bipush (pc' := 4) (v := 11) kc_24_2 rfl rfl ?_
                refine xi_static (mj := 11) (as := [.int a2, .int 0, .int 11]) (st1 := []) (lv0 := [(0, .int a2), (1, .int 0), (2, .int 11)]) kc_24_4 rfl rfl (Nat.le_of_ble_eq_true rfl) rfl rfl (Nat.le_of_ble_eq_true rfl) (hJ _ _ _ _ (by decide)) (xm_le ml_11 rfl) rfl ?_
                refine xi_iload_n (pc' := 1) (x := a2) kc_11_0 rfl rfl ?_
                refine xi_iload_n (pc' := 2) (x := 0) kc_11_1 rfl rfl ?_
                refine xi_cmf (pc' := 5) kc_11_2 rfl (xc_lt_f (X := a2.toInt) (Y := 0) rfl (by decide) (by omega)) ?_
                refine xi_iload_n (pc' := 6) (x := a2) kc_11_5 rfl rfl ?_
                refine xi_iload_n (pc' := 7) (x := 11) kc_11_6 rfl rfl ?_
                refine xi_cmf (pc' := 10) kc_11_7 rfl (xc_gt_f (X := a2.toInt) (Y := 11) rfl (by decide) (by omega)) ?_
                refine xi_iconst (pc' := 11) (v := 1) kc_11_10 rfl rfl ?_
                refine xi_goto (pc' := 15) kc_11_11 rfl ?_
                refine xi_ireturn kc_11_15 mr_11 rfl ?_
                show xw J ov 98 24 (7, [(0, .int a2)], [.int 1], hh284) _
                refine xi_ireturn kc_24_7 mr_24 rfl ?_
                show xw J ov 99 23 (9, [(0, .ref 115), (1, .int a2), (2, .int a4), (3, .int a6), (4, .int 0)], [.int 1], hh284) _
                refine xi_iff (pc' := 12) kc_23_9 rfl rfl ?_
                refine xi_iload_n (pc' := 13) (x := a4) kc_23_12 rfl rfl ?_
                refine xi_static (mj := 10) (as := [.int a4]) (st1 := []) (lv0 := [(0, .int a4)]) kc_23_13 rfl rfl (Nat.le_of_ble_eq_true rfl) rfl rfl (Nat.le_of_ble_eq_true rfl) (hJ _ _ _ _ (by decide)) (xm_le ml_10 rfl) rfl ?_
                refine xi_iload_n (pc' := 1) (x := a4) kc_10_0 rfl rfl ?_
                refine xi_iconst (pc' := 2) (v := 0) kc_10_1 rfl rfl ?_
                refine xi_iconst (pc' := 3) (v := 5) kc_10_2 rfl rfl ?_
                refine xi_static (mj := 11) (as := [.int a4, .int 0, .int 5]) (st1 := []) (lv0 := [(0, .int a4), (1, .int 0), (2, .int 5)]) kc_10_3 rfl rfl (Nat.le_of_ble_eq_true rfl) rfl rfl (Nat.le_of_ble_eq_true rfl) (hJ _ _ _ _ (by decide)) (xm_le ml_11 rfl) rfl ?_
                refine xi_iload_n (pc' := 1) (x := a4) kc_11_0 rfl rfl ?_
                refine xi_iload_n (pc' := 2) (x := 0) kc_11_1 rfl rfl ?_
                refine xi_cmf (pc' := 5) kc_11_2 rfl (xc_lt_f (X := a4.toInt) (Y := 0) rfl (by decide) (by omega)) ?_
                refine xi_iload_n (pc' := 6) (x := a4) kc_11_5 rfl rfl ?_
                refine xi_iload_n (pc' := 7) (x := 5) kc_11_6 rfl rfl ?_
                refine xi_cmf (pc' := 10) kc_11_7 rfl (xc_gt_f (X := a4.toInt) (Y := 5) rfl (by decide) (by omega)) ?_
                refine xi_iconst (pc' := 11) (v := 1) kc_11_10 rfl rfl ?_
                refine xi_goto (pc' := 15) kc_11_11 rfl ?_
                refine xi_ireturn kc_11_15 mr_11 rfl ?_
                show xw J ov 98 10 (6, [(0, .int a4)], [.int 1], hh284) _
                refine xi_ireturn kc_10_6 mr_10 rfl ?_
                show xw J ov 99 23 (16, [(0, .ref 115), (1, .int a2), (2, .int a4), (3, .int a6), (4, .int 0)], [.int 1], hh284) _
                refine xi_ift (pc' := 25) kc_23_16 rfl rfl ?_
                refine xi_iload_n (pc' := 26) (x := a6) kc_23_25 rfl rfl ?_
                refine xi_ift (pc' := 36) kc_23_26 rfl (xc_ge_t (X := a6.toInt) (Y := 0) rfl (by decide) (by omega)) ?_
                refine xi_iload_n (pc' := 37) (x := a6) kc_23_36 rfl rfl ?_
                refine xi_bipush (pc' := 39) (v := 100) kc_23_37 rfl rfl ?_
                refine xi_cmf (pc' := 42) kc_23_39 rfl (xc_le_f (X := a6.toInt) (Y := 100) rfl (by decide) (by omega)) ?_
                refine xi_aload_n (pc' := 43) (x := 115) kc_23_42 rfl rfl ?_
                refine xi_bipush (pc' := 45) (v := (-6)) kc_23_43 rfl rfl ?_
                refine xi_virtual (mj := 12) (as := [.int (-6)]) (st1 := []) (lv0 := [(0, .ref 115), (1, .int (-6))]) kc_23_45 rfl rfl rfl rfl rfl eh283.1 (Nat.le_of_ble_eq_true rfl) (hJ _ _ _ _ (by decide)) (xm_le ml_12 rfl) rfl ?_
                refine xi_aload_n (pc' := 1) (x := 115) kc_12_0 rfl rfl ?_
                refine xi_getfield (pc' := 4) (v := .ref 140) kc_12_1 rfl rfl rfl eh283.1 rfl ?_
                refine xi_iload_n (pc' := 5) (x := (-6)) kc_12_4 rfl rfl ?_
                refine xi_ineg (pc' := 6) (v := 6) kc_12_5 rfl rfl ?_
                refine xi_dup2 (pc' := 7) kc_12_6 rfl ⟨rfl, rfl⟩ ?_
                obtain ⟨y286, A286, hy286, ry286⟩ := xk_arr K.1 xD_140
                obtain ⟨v287, ev287, bv287, dv287⟩ := xj_get hy286 ry286 (i := 6) (by decide) (by decide)
                have A288 := ((eh283.2.1 140 (by decide)).trans ((eh266.2.1 140 (by decide)).trans A286))
                refine xi_iaload (pc' := 8) (v := v287) kc_12_7 rfl A288 (by decide) rfl (xi_in (by decide) (by rw [hy286]; decide)) ev287 ?_
                refine xi_iconst (pc' := 9) (v := 1) kc_12_8 rfl rfl ?_
                obtain ⟨v289, ev289⟩ : ∃ q : Int32, (v287 : Int32) + 1 = q := ⟨_, rfl⟩
                have rv289 := xc_rng v289
                refine xi_iadd (pc' := 10) (v := v289) kc_12_9 rfl ev289 ?_
                obtain ⟨y290, s290, hy290, ry290⟩ := xj_set (v := v289) hy286 ry286 6 (by first | omega | decide) (by first | omega | decide)
                refine xi_iastore (pc' := 11) (x' := y290) kc_12_10 rfl A288 rfl (xi_in (by decide) (by rw [hy286]; decide)) s290 (fun hh290 eh290 => ?_)
                have K291 := xk_pa K285 (xk_wa rfl) xD_140 hy290 ry290 eh290
                refine xi_iload_n (pc' := 12) (x := (-6)) kc_12_11 rfl rfl ?_
                refine xi_ireturn kc_12_12 mr_12 rfl ?_
                show xw J ov 99 23 (48, [(0, .ref 115), (1, .int a2), (2, .int a4), (3, .int a6), (4, .int 0)], [.int (-6)], hh290) _
                refine xi_ireturn kc_23_48 mr_23 rfl ?_
                show xw J ov 100 195 (473, [(4, .int x4), (3, .ref 167), (2, .ref 115), (1, .ref 0), (0, .ref 1000000)], [.int (-6), .int (-6)], hh290) _
                refine xi_cmt (pc' := 1501) kc_195_473 rfl rfl ?_
                obtain ⟨v292, ev292⟩ : ∃ q : Int32, x4 + 6 = q := ⟨_, rfl⟩
                have zv292 : v292.toInt = (x4.toInt + 6) := by rw [← ev292]; exact (xz_add (X := x4.toInt) (Y := 6) rfl (by decide) (by omega) (by omega)).trans (by omega)
                refine xi_iinc (pc' := 1504) (x := x4) (v := v292) (lv' := [(4, .int v292), (3, .ref 167), (2, .ref 115), (1, .ref 0), (0, .ref 1000000)]) kc_195_1501 rfl rfl ev292 rfl (xm_lt ml_195 rfl) ?_
                refine xi_goto (pc' := 23) kc_195_1504 rfl ?_
                exact kk v292 hh290 (by omega) K291 (xGR_kept I (fun c hc => ((eh290.2.1 c (Ne.symm (xk_nc hc rfl))).trans ((eh283.2.1 c (Ne.symm (xk_nc hc rfl))).trans (eh266.2.1 c (Ne.symm (xk_nc hc rfl)))))) ((eh290.2.1 125 (by decide)).trans ((eh283.2.1 125 (by decide)).trans (eh266.2.1 125 (by decide)))))
            · refine xi_iff (pc' := 24) kc_103_21 rfl (xc_ge_f (X := a6.toInt) (Y := 0) rfl (by decide) (by omega)) ?_
              refine xi_aload_n (pc' := 25) (x := 0) kc_103_24 rfl rfl ?_
              refine xi_bipush (pc' := 27) (v := (-4)) kc_103_25 rfl rfl ?_
              refine xi_virtual (mj := 90) (as := [.int (-4)]) (st1 := []) (lv0 := [(0, .ref 0), (1, .int (-4))]) kc_103_27 rfl rfl rfl rfl rfl A12 (Nat.le_of_ble_eq_true rfl) (hJ _ _ _ _ (by decide)) (xm_le ml_90 rfl) rfl ?_
              refine xi_iload_n (pc' := 1) (x := (-4)) kc_90_0 rfl rfl ?_
              refine xi_ineg (pc' := 2) (v := 4) kc_90_1 rfl rfl ?_
              refine xi_istore_n (pc' := 3) (lv' := [(2, .int 4), (0, .ref 0), (1, .int (-4))]) kc_90_2 rfl rfl (xm_lt ml_90 rfl) ?_
              refine xi_iload_n (pc' := 4) (x := 4) kc_90_3 rfl rfl ?_
              refine xi_iff (pc' := 7) kc_90_4 rfl rfl ?_
              refine xi_iload_n (pc' := 8) (x := 4) kc_90_7 rfl rfl ?_
              refine xi_aload_n (pc' := 9) (x := 0) kc_90_8 rfl rfl ?_
              refine xi_getfield (pc' := 12) (v := .ref 94) kc_90_9 rfl rfl rfl A12 rfl ?_
              obtain ⟨y293, A293, hy293, ry293⟩ := xk_arr K.1 xD_94
              refine xi_arraylength (pc' := 13) (n := 7) (v := 7) kc_90_12 rfl (xl_lenI (by decide) (by decide) A293 hy293) rfl ?_
              refine xi_cmf (pc' := 16) kc_90_13 rfl rfl ?_
              refine xi_aload_n (pc' := 17) (x := 0) kc_90_16 rfl rfl ?_
              refine xi_getfield (pc' := 20) (v := .ref 94) kc_90_17 rfl rfl rfl A12 rfl ?_
              refine xi_iload_n (pc' := 21) (x := 4) kc_90_20 rfl rfl ?_
              refine xi_dup2 (pc' := 22) kc_90_21 rfl ⟨rfl, rfl⟩ ?_
              obtain ⟨v294, ev294, bv294, dv294⟩ := xj_get hy293 ry293 (i := 4) (by decide) (by decide)
              refine xi_iaload (pc' := 23) (v := v294) kc_90_22 rfl A293 (by decide) rfl (xi_in (by decide) (by rw [hy293]; decide)) ev294 ?_
              refine xi_iconst (pc' := 24) (v := 1) kc_90_23 rfl rfl ?_
              obtain ⟨v295, ev295⟩ : ∃ q : Int32, (v294 : Int32) + 1 = q := ⟨_, rfl⟩
              have rv295 := xc_rng v295
              refine xi_iadd (pc' := 25) (v := v295) kc_90_24 rfl ev295 ?_
              obtain ⟨y296, s296, hy296, ry296⟩ := xj_set (v := v295) hy293 ry293 4 (by first | omega | decide) (by first | omega | decide)
              refine xi_iastore (pc' := 26) (x' := y296) kc_90_25 rfl A293 rfl (xi_in (by decide) (by rw [hy293]; decide)) s296 (fun hh296 eh296 => ?_)
              have K297 := xk_pa K (xk_wa rfl) xD_94 hy296 ry296 eh296
              refine xi_iload_n (pc' := 27) (x := (-4)) kc_90_26 rfl rfl ?_
              refine xi_ireturn kc_90_27 mr_90 rfl ?_
              show xw J ov 99 103 (30, [(0, .ref 0), (1, .int a2), (2, .int a4), (3, .int a6), (4, .int 0)], [.int (-4)], hh296) _
              refine xi_ireturn kc_103_30 mr_103 rfl ?_
              show xw J ov 100 195 (437, [(4, .int x4), (3, .ref 167), (2, .ref 115), (1, .ref 0), (0, .ref 1000000)], [.int (-4)], hh296) _
              refine xi_aload_n (pc' := 438) (x := 115) kc_195_437 rfl rfl ?_
              refine xi_aload_n (pc' := 439) (x := 1000000) kc_195_438 rfl rfl ?_
              refine xi_iload (pc' := 441) (x := x4) kc_195_439 rfl rfl ?_
              refine xi_iconst (pc' := 442) (v := 1) kc_195_441 rfl rfl ?_
              refine xi_iadd (pc' := 443) (v := v1) kc_195_442 rfl ev1 ?_
              refine xi_ialoadO (pc' := 444) (v := a2) kc_195_443 rfl (by decide) hov0 (xi_in (by omega) (by omega)) ea2 ?_
              refine xi_aload_n (pc' := 445) (x := 1000000) kc_195_444 rfl rfl ?_
              refine xi_iload (pc' := 447) (x := x4) kc_195_445 rfl rfl ?_
              refine xi_iconst (pc' := 448) (v := 2) kc_195_447 rfl rfl ?_
              refine xi_iadd (pc' := 449) (v := v3) kc_195_448 rfl ev3 ?_
              refine xi_ialoadO (pc' := 450) (v := a4) kc_195_449 rfl (by decide) hov0 (xi_in (by omega) (by omega)) ea4 ?_
              refine xi_aload_n (pc' := 451) (x := 1000000) kc_195_450 rfl rfl ?_
              refine xi_iload (pc' := 453) (x := x4) kc_195_451 rfl rfl ?_
              refine xi_iconst (pc' := 454) (v := 3) kc_195_453 rfl rfl ?_
              refine xi_iadd (pc' := 455) (v := v5) kc_195_454 rfl ev5 ?_
              refine xi_ialoadO (pc' := 456) (v := a6) kc_195_455 rfl (by decide) hov0 (xi_in (by omega) (by omega)) ea6 ?_
              refine xi_aload_n (pc' := 457) (x := 1000000) kc_195_456 rfl rfl ?_
              refine xi_iload (pc' := 459) (x := x4) kc_195_457 rfl rfl ?_
              refine xi_iconst (pc' := 460) (v := 4) kc_195_459 rfl rfl ?_
              refine xi_iadd (pc' := 461) (v := v7) kc_195_460 rfl ev7 ?_
              refine xi_ialoadO (pc' := 462) (v := a8) kc_195_461 rfl (by decide) hov0 (xi_in (by omega) (by omega)) ea8 ?_
              refine xi_ift (pc' := 469) kc_195_462 rfl (xc_eq_t (X := a8.toInt) (Y := 0) rfl (by decide) (by omega)) ?_
              refine xi_iconst (pc' := 470) (v := 0) kc_195_469 rfl rfl ?_
              obtain ⟨u298, u299, u300, u301, u302, u303, u304, u305, u306, u307, u308, u309, u310, bu298, bu299, bu300, bu301, bu302, bu303, bu304, bu305, bu306, bu307, bu308, bu309, bu310, A311⟩ := xq_115 K.1
              have A312 := ((eh296.2.1 115 (by decide)).trans A311)
              refine xi_virtual (mj := 23) (as := [.int a2, .int a4, .int a6, .int 0]) (st1 := [.int (-4)]) (lv0 := [(0, .ref 115), (1, .int a2), (2, .int a4), (3, .int a6), (4, .int 0)]) kc_195_470 rfl rfl rfl rfl rfl A312 (Nat.le_of_ble_eq_true rfl) (hJ _ _ _ _ (by decide)) (xm_le ml_23 rfl) rfl ?_
              refine xi_aload_n (pc' := 1) (x := 115) kc_23_0 rfl rfl ?_
              refine xi_iconst (pc' := 2) (v := 0) kc_23_1 rfl rfl ?_
              refine xi_putfield (pc' := 5) (fs' := [.int 0, .int u299, .ref 116, .ref 117, .ref 118, .ref 119, .ref 120, .ref 121, .ref 122, .ref 123, .ref 124, .ref 125, .ref 126, .ref 127, .ref 128, .ref 129, .int u300, .ref 130, .int u301, .ref 131, .ref 132, .ref 133, .ref 134, .int u302, .ref 135, .ref 136, .ref 137, .ref 138, .ref 139, .ref 140, .ref 141, .ref 142, .int u303, .int u304, .int u305, .ref 143, .ref 144, .ref 145, .ref 146, .ref 147, .ref 148, .int u306, .ref 149, .ref 150, .ref 151, .int u307, .ref 152, .ref 153, .ref 154, .ref 155, .ref 156, .ref 157, .ref 158, .ref 159, .int u308, .ref 160, .int u309, .ref 161, .ref 162, .ref 163, .ref 164, .int u310, .ref 165, .ref 166]) kc_23_2 rfl rfl rfl A312 rfl rfl rfl (Nat.le_of_ble_eq_true rfl) rfl (fun hh314 eh313 => ?_)
              have K315 := xk_pf (k := 0) (v := 0) K297 (xk_wf rfl) xD_115 A312 rfl (by first | omega | decide) (by first | omega | decide) eh313 rfl
              refine xi_iload_n (pc' := 6) (x := a2) kc_23_5 rfl rfl ?_
              refine xi_static (mj := 24) (as := [.int a2]) (st1 := []) (lv0 := [(0, .int a2)]) kc_23_6 rfl rfl (Nat.le_of_ble_eq_true rfl) rfl rfl (Nat.le_of_ble_eq_true rfl) (hJ _ _ _ _ (by decide)) (xm_le ml_24 rfl) rfl ?_
              refine xi_iload_n (pc' := 1) (x := a2) kc_24_0 rfl rfl ?_
              refine xi_iconst (pc' := 2) (v := 0) kc_24_1 rfl rfl ?_
              refine xi_bipush (pc' := 4) (v := 11) kc_24_2 rfl rfl ?_
              refine xi_static (mj := 11) (as := [.int a2, .int 0, .int 11]) (st1 := []) (lv0 := [(0, .int a2), (1, .int 0), (2, .int 11)]) kc_24_4 rfl rfl (Nat.le_of_ble_eq_true rfl) rfl rfl (Nat.le_of_ble_eq_true rfl) (hJ _ _ _ _ (by decide)) (xm_le ml_11 rfl) rfl ?_
              refine xi_iload_n (pc' := 1) (x := a2) kc_11_0 rfl rfl ?_
              refine xi_iload_n (pc' := 2) (x := 0) kc_11_1 rfl rfl ?_
              refine xi_cmf (pc' := 5) kc_11_2 rfl (xc_lt_f (X := a2.toInt) (Y := 0) rfl (by decide) (by omega)) ?_
              refine xi_iload_n (pc' := 6) (x := a2) kc_11_5 rfl rfl ?_
              refine xi_iload_n (pc' := 7) (x := 11) kc_11_6 rfl rfl ?_
              refine xi_cmf (pc' := 10) kc_11_7 rfl (xc_gt_f (X := a2.toInt) (Y := 11) rfl (by decide) (by omega)) ?_
              refine xi_iconst (pc' := 11) (v := 1) kc_11_10 rfl rfl ?_
              refine xi_goto (pc' := 15) kc_11_11 rfl ?_
              refine xi_ireturn kc_11_15 mr_11 rfl ?_
              show xw J ov 98 24 (7, [(0, .int a2)], [.int 1], hh314) _
              refine xi_ireturn kc_24_7 mr_24 rfl ?_
              show xw J ov 99 23 (9, [(0, .ref 115), (1, .int a2), (2, .int a4), (3, .int a6), (4, .int 0)], [.int 1], hh314) _
              refine xi_iff (pc' := 12) kc_23_9 rfl rfl ?_
              refine xi_iload_n (pc' := 13) (x := a4) kc_23_12 rfl rfl ?_
              refine xi_static (mj := 10) (as := [.int a4]) (st1 := []) (lv0 := [(0, .int a4)]) kc_23_13 rfl rfl (Nat.le_of_ble_eq_true rfl) rfl rfl (Nat.le_of_ble_eq_true rfl) (hJ _ _ _ _ (by decide)) (xm_le ml_10 rfl) rfl ?_
              refine xi_iload_n (pc' := 1) (x := a4) kc_10_0 rfl rfl ?_
              refine xi_iconst (pc' := 2) (v := 0) kc_10_1 rfl rfl ?_
              refine xi_iconst (pc' := 3) (v := 5) kc_10_2 rfl rfl ?_
              refine xi_static (mj := 11) (as := [.int a4, .int 0, .int 5]) (st1 := []) (lv0 := [(0, .int a4), (1, .int 0), (2, .int 5)]) kc_10_3 rfl rfl (Nat.le_of_ble_eq_true rfl) rfl rfl (Nat.le_of_ble_eq_true rfl) (hJ _ _ _ _ (by decide)) (xm_le ml_11 rfl) rfl ?_
              refine xi_iload_n (pc' := 1) (x := a4) kc_11_0 rfl rfl ?_
              refine xi_iload_n (pc' := 2) (x := 0) kc_11_1 rfl rfl ?_
              refine xi_cmf (pc' := 5) kc_11_2 rfl (xc_lt_f (X := a4.toInt) (Y := 0) rfl (by decide) (by omega)) ?_
              refine xi_iload_n (pc' := 6) (x := a4) kc_11_5 rfl rfl ?_
              refine xi_iload_n (pc' := 7) (x := 5) kc_11_6 rfl rfl ?_
              refine xi_cmf (pc' := 10) kc_11_7 rfl (xc_gt_f (X := a4.toInt) (Y := 5) rfl (by decide) (by omega)) ?_
              refine xi_iconst (pc' := 11) (v := 1) kc_11_10 rfl rfl ?_
              refine xi_goto (pc' := 15) kc_11_11 rfl ?_
              refine xi_ireturn kc_11_15 mr_11 rfl ?_
              show xw J ov 98 10 (6, [(0, .int a4)], [.int 1], hh314) _
              refine xi_ireturn kc_10_6 mr_10 rfl ?_
              show xw J ov 99 23 (16, [(0, .ref 115), (1, .int a2), (2, .int a4), (3, .int a6), (4, .int 0)], [.int 1], hh314) _
              refine xi_ift (pc' := 25) kc_23_16 rfl rfl ?_
              refine xi_iload_n (pc' := 26) (x := a6) kc_23_25 rfl rfl ?_
              refine xi_iff (pc' := 29) kc_23_26 rfl (xc_ge_f (X := a6.toInt) (Y := 0) rfl (by decide) (by omega)) ?_
              refine xi_aload_n (pc' := 30) (x := 115) kc_23_29 rfl rfl ?_
              refine xi_bipush (pc' := 32) (v := (-4)) kc_23_30 rfl rfl ?_
              refine xi_virtual (mj := 12) (as := [.int (-4)]) (st1 := []) (lv0 := [(0, .ref 115), (1, .int (-4))]) kc_23_32 rfl rfl rfl rfl rfl eh313.1 (Nat.le_of_ble_eq_true rfl) (hJ _ _ _ _ (by decide)) (xm_le ml_12 rfl) rfl ?_
              refine xi_aload_n (pc' := 1) (x := 115) kc_12_0 rfl rfl ?_
              refine xi_getfield (pc' := 4) (v := .ref 140) kc_12_1 rfl rfl rfl eh313.1 rfl ?_
              refine xi_iload_n (pc' := 5) (x := (-4)) kc_12_4 rfl rfl ?_
              refine xi_ineg (pc' := 6) (v := 4) kc_12_5 rfl rfl ?_
              refine xi_dup2 (pc' := 7) kc_12_6 rfl ⟨rfl, rfl⟩ ?_
              obtain ⟨y316, A316, hy316, ry316⟩ := xk_arr K.1 xD_140
              obtain ⟨v317, ev317, bv317, dv317⟩ := xj_get hy316 ry316 (i := 4) (by decide) (by decide)
              have A318 := ((eh313.2.1 140 (by decide)).trans ((eh296.2.1 140 (by decide)).trans A316))
              refine xi_iaload (pc' := 8) (v := v317) kc_12_7 rfl A318 (by decide) rfl (xi_in (by decide) (by rw [hy316]; decide)) ev317 ?_
              refine xi_iconst (pc' := 9) (v := 1) kc_12_8 rfl rfl ?_
              obtain ⟨v319, ev319⟩ : ∃ q : Int32, (v317 : Int32) + 1 = q := ⟨_, rfl⟩
              have rv319 := xc_rng v319
              refine xi_iadd (pc' := 10) (v := v319) kc_12_9 rfl ev319 ?_
              obtain ⟨y320, s320, hy320, ry320⟩ := xj_set (v := v319) hy316 ry316 4 (by first | omega | decide) (by first | omega | decide)
              refine xi_iastore (pc' := 11) (x' := y320) kc_12_10 rfl A318 rfl (xi_in (by decide) (by rw [hy316]; decide)) s320 (fun hh320 eh320 => ?_)
              have K321 := xk_pa K315 (xk_wa rfl) xD_140 hy320 ry320 eh320
              refine xi_iload_n (pc' := 12) (x := (-4)) kc_12_11 rfl rfl ?_
              refine xi_ireturn kc_12_12 mr_12 rfl ?_
              show xw J ov 99 23 (35, [(0, .ref 115), (1, .int a2), (2, .int a4), (3, .int a6), (4, .int 0)], [.int (-4)], hh320) _
              refine xi_ireturn kc_23_35 mr_23 rfl ?_
              show xw J ov 100 195 (473, [(4, .int x4), (3, .ref 167), (2, .ref 115), (1, .ref 0), (0, .ref 1000000)], [.int (-4), .int (-4)], hh320) _
              refine xi_cmt (pc' := 1501) kc_195_473 rfl rfl ?_
              obtain ⟨v322, ev322⟩ : ∃ q : Int32, x4 + 6 = q := ⟨_, rfl⟩
              have zv322 : v322.toInt = (x4.toInt + 6) := by rw [← ev322]; exact (xz_add (X := x4.toInt) (Y := 6) rfl (by decide) (by omega) (by omega)).trans (by omega)
              refine xi_iinc (pc' := 1504) (x := x4) (v := v322) (lv' := [(4, .int v322), (3, .ref 167), (2, .ref 115), (1, .ref 0), (0, .ref 1000000)]) kc_195_1501 rfl rfl ev322 rfl (xm_lt ml_195 rfl) ?_
              refine xi_goto (pc' := 23) kc_195_1504 rfl ?_
              exact kk v322 hh320 (by omega) K321 (xGR_kept I (fun c hc => ((eh320.2.1 c (Ne.symm (xk_nc hc rfl))).trans ((eh313.2.1 c (Ne.symm (xk_nc hc rfl))).trans (eh296.2.1 c (Ne.symm (xk_nc hc rfl)))))) ((eh320.2.1 125 (by decide)).trans ((eh313.2.1 125 (by decide)).trans (eh296.2.1 125 (by decide)))))
  · refine xi_iff (pc' := 429) kc_195_426 rfl (xc_eq_f (X := a8.toInt) (Y := 0) rfl (by decide) (by omega)) ?_
    refine xi_iconst (pc' := 430) (v := 1) kc_195_429 rfl rfl ?_
    refine xi_goto (pc' := 434) kc_195_430 rfl ?_
    obtain ⟨u323, u324, bu323, bu324, A325⟩ := xq_0 K.1
    refine xi_virtual (mj := 103) (as := [.int a2, .int a4, .int a6, .int 1]) (st1 := []) (lv0 := [(0, .ref 0), (1, .int a2), (2, .int a4), (3, .int a6), (4, .int 1)]) kc_195_434 rfl rfl rfl rfl rfl A325 (Nat.le_of_ble_eq_true rfl) (hJ _ _ _ _ (by decide)) (xm_le ml_103 rfl) rfl ?_
    refine xi_iload_n (pc' := 1) (x := a2) kc_103_0 rfl rfl ?_
    refine xi_static (mj := 104) (as := [.int a2]) (st1 := []) (lv0 := [(0, .int a2)]) kc_103_1 rfl rfl (Nat.le_of_ble_eq_true rfl) rfl rfl (Nat.le_of_ble_eq_true rfl) (hJ _ _ _ _ (by decide)) (xm_le ml_104 rfl) rfl ?_
    refine xi_iload_n (pc' := 1) (x := a2) kc_104_0 rfl rfl ?_
    by_cases c326 : a2.toInt < 0
    · refine xi_ift (pc' := 14) kc_104_1 rfl (xc_lt_t (X := a2.toInt) (Y := 0) rfl (by decide) (by omega)) ?_
      refine xi_iconst (pc' := 15) (v := 0) kc_104_14 rfl rfl ?_
      refine xi_ireturn kc_104_15 mr_104 rfl ?_
      show xw J ov 99 103 (4, [(0, .ref 0), (1, .int a2), (2, .int a4), (3, .int a6), (4, .int 1)], [.int 0], h) _
      refine xi_ift (pc' := 14) kc_103_4 rfl rfl ?_
      refine xi_aload_n (pc' := 15) (x := 0) kc_103_14 rfl rfl ?_
      refine xi_iconst (pc' := 16) (v := (-1)) kc_103_15 rfl rfl ?_
      refine xi_virtual (mj := 90) (as := [.int (-1)]) (st1 := []) (lv0 := [(0, .ref 0), (1, .int (-1))]) kc_103_16 rfl rfl rfl rfl rfl A325 (Nat.le_of_ble_eq_true rfl) (hJ _ _ _ _ (by decide)) (xm_le ml_90 rfl) rfl ?_
      refine xi_iload_n (pc' := 1) (x := (-1)) kc_90_0 rfl rfl ?_
      refine xi_ineg (pc' := 2) (v := 1) kc_90_1 rfl rfl ?_
      refine xi_istore_n (pc' := 3) (lv' := [(2, .int 1), (0, .ref 0), (1, .int (-1))]) kc_90_2 rfl rfl (xm_lt ml_90 rfl) ?_
      refine xi_iload_n (pc' := 4) (x := 1) kc_90_3 rfl rfl ?_
      refine xi_iff (pc' := 7) kc_90_4 rfl rfl ?_
      refine xi_iload_n (pc' := 8) (x := 1) kc_90_7 rfl rfl ?_
      refine xi_aload_n (pc' := 9) (x := 0) kc_90_8 rfl rfl ?_
      refine xi_getfield (pc' := 12) (v := .ref 94) kc_90_9 rfl rfl rfl A325 rfl ?_
      obtain ⟨y327, A327, hy327, ry327⟩ := xk_arr K.1 xD_94
      refine xi_arraylength (pc' := 13) (n := 7) (v := 7) kc_90_12 rfl (xl_lenI (by decide) (by decide) A327 hy327) rfl ?_
      refine xi_cmf (pc' := 16) kc_90_13 rfl rfl ?_
      refine xi_aload_n (pc' := 17) (x := 0) kc_90_16 rfl rfl ?_
      refine xi_getfield (pc' := 20) (v := .ref 94) kc_90_17 rfl rfl rfl A325 rfl ?_
      refine xi_iload_n (pc' := 21) (x := 1) kc_90_20 rfl rfl ?_
      refine xi_dup2 (pc' := 22) kc_90_21 rfl ⟨rfl, rfl⟩ ?_
      obtain ⟨v328, ev328, bv328, dv328⟩ := xj_get hy327 ry327 (i := 1) (by decide) (by decide)
      refine xi_iaload (pc' := 23) (v := v328) kc_90_22 rfl A327 (by decide) rfl (xi_in (by decide) (by rw [hy327]; decide)) ev328 ?_
      refine xi_iconst (pc' := 24) (v := 1) kc_90_23 rfl rfl ?_
      obtain ⟨v329, ev329⟩ : ∃ q : Int32, (v328 : Int32) + 1 = q := ⟨_, rfl⟩
      have rv329 := xc_rng v329
      refine xi_iadd (pc' := 25) (v := v329) kc_90_24 rfl ev329 ?_
      obtain ⟨y330, s330, hy330, ry330⟩ := xj_set (v := v329) hy327 ry327 1 (by first | omega | decide) (by first | omega | decide)
      refine xi_iastore (pc' := 26) (x' := y330) kc_90_25 rfl A327 rfl (xi_in (by decide) (by rw [hy327]; decide)) s330 (fun hh330 eh330 => ?_)
      have K331 := xk_pa K (xk_wa rfl) xD_94 hy330 ry330 eh330
      refine xi_iload_n (pc' := 27) (x := (-1)) kc_90_26 rfl rfl ?_
      refine xi_ireturn kc_90_27 mr_90 rfl ?_
      show xw J ov 99 103 (19, [(0, .ref 0), (1, .int a2), (2, .int a4), (3, .int a6), (4, .int 1)], [.int (-1)], hh330) _
      refine xi_ireturn kc_103_19 mr_103 rfl ?_
      show xw J ov 100 195 (437, [(4, .int x4), (3, .ref 167), (2, .ref 115), (1, .ref 0), (0, .ref 1000000)], [.int (-1)], hh330) _
      refine xi_aload_n (pc' := 438) (x := 115) kc_195_437 rfl rfl ?_
      refine xi_aload_n (pc' := 439) (x := 1000000) kc_195_438 rfl rfl ?_
      refine xi_iload (pc' := 441) (x := x4) kc_195_439 rfl rfl ?_
      refine xi_iconst (pc' := 442) (v := 1) kc_195_441 rfl rfl ?_
      refine xi_iadd (pc' := 443) (v := v1) kc_195_442 rfl ev1 ?_
      refine xi_ialoadO (pc' := 444) (v := a2) kc_195_443 rfl (by decide) hov0 (xi_in (by omega) (by omega)) ea2 ?_
      refine xi_aload_n (pc' := 445) (x := 1000000) kc_195_444 rfl rfl ?_
      refine xi_iload (pc' := 447) (x := x4) kc_195_445 rfl rfl ?_
      refine xi_iconst (pc' := 448) (v := 2) kc_195_447 rfl rfl ?_
      refine xi_iadd (pc' := 449) (v := v3) kc_195_448 rfl ev3 ?_
      refine xi_ialoadO (pc' := 450) (v := a4) kc_195_449 rfl (by decide) hov0 (xi_in (by omega) (by omega)) ea4 ?_
      refine xi_aload_n (pc' := 451) (x := 1000000) kc_195_450 rfl rfl ?_
      refine xi_iload (pc' := 453) (x := x4) kc_195_451 rfl rfl ?_
      refine xi_iconst (pc' := 454) (v := 3) kc_195_453 rfl rfl ?_
      refine xi_iadd (pc' := 455) (v := v5) kc_195_454 rfl ev5 ?_
      refine xi_ialoadO (pc' := 456) (v := a6) kc_195_455 rfl (by decide) hov0 (xi_in (by omega) (by omega)) ea6 ?_
      refine xi_aload_n (pc' := 457) (x := 1000000) kc_195_456 rfl rfl ?_
      refine xi_iload (pc' := 459) (x := x4) kc_195_457 rfl rfl ?_
      refine xi_iconst (pc' := 460) (v := 4) kc_195_459 rfl rfl ?_
      refine xi_iadd (pc' := 461) (v := v7) kc_195_460 rfl ev7 ?_
      refine xi_ialoadO (pc' := 462) (v := a8) kc_195_461 rfl (by decide) hov0 (xi_in (by omega) (by omega)) ea8 ?_
      refine xi_iff (pc' := 465) kc_195_462 rfl (xc_eq_f (X := a8.toInt) (Y := 0) rfl (by decide) (by omega)) ?_
      refine xi_iconst (pc' := 466) (v := 1) kc_195_465 rfl rfl ?_
      refine xi_goto (pc' := 470) kc_195_466 rfl ?_
      obtain ⟨u332, u333, u334, u335, u336, u337, u338, u339, u340, u341, u342, u343, u344, bu332, bu333, bu334, bu335, bu336, bu337, bu338, bu339, bu340, bu341, bu342, bu343, bu344, A345⟩ := xq_115 K.1
      have A346 := ((eh330.2.1 115 (by decide)).trans A345)
      refine xi_virtual (mj := 23) (as := [.int a2, .int a4, .int a6, .int 1]) (st1 := [.int (-1)]) (lv0 := [(0, .ref 115), (1, .int a2), (2, .int a4), (3, .int a6), (4, .int 1)]) kc_195_470 rfl rfl rfl rfl rfl A346 (Nat.le_of_ble_eq_true rfl) (hJ _ _ _ _ (by decide)) (xm_le ml_23 rfl) rfl ?_
      refine xi_aload_n (pc' := 1) (x := 115) kc_23_0 rfl rfl ?_
      refine xi_iconst (pc' := 2) (v := 0) kc_23_1 rfl rfl ?_
      refine xi_putfield (pc' := 5) (fs' := [.int 0, .int u333, .ref 116, .ref 117, .ref 118, .ref 119, .ref 120, .ref 121, .ref 122, .ref 123, .ref 124, .ref 125, .ref 126, .ref 127, .ref 128, .ref 129, .int u334, .ref 130, .int u335, .ref 131, .ref 132, .ref 133, .ref 134, .int u336, .ref 135, .ref 136, .ref 137, .ref 138, .ref 139, .ref 140, .ref 141, .ref 142, .int u337, .int u338, .int u339, .ref 143, .ref 144, .ref 145, .ref 146, .ref 147, .ref 148, .int u340, .ref 149, .ref 150, .ref 151, .int u341, .ref 152, .ref 153, .ref 154, .ref 155, .ref 156, .ref 157, .ref 158, .ref 159, .int u342, .ref 160, .int u343, .ref 161, .ref 162, .ref 163, .ref 164, .int u344, .ref 165, .ref 166]) kc_23_2 rfl rfl rfl A346 rfl rfl rfl (Nat.le_of_ble_eq_true rfl) rfl (fun hh348 eh347 => ?_)
      have K349 := xk_pf (k := 0) (v := 0) K331 (xk_wf rfl) xD_115 A346 rfl (by first | omega | decide) (by first | omega | decide) eh347 rfl
      refine xi_iload_n (pc' := 6) (x := a2) kc_23_5 rfl rfl ?_
      refine xi_static (mj := 24) (as := [.int a2]) (st1 := []) (lv0 := [(0, .int a2)]) kc_23_6 rfl rfl (Nat.le_of_ble_eq_true rfl) rfl rfl (Nat.le_of_ble_eq_true rfl) (hJ _ _ _ _ (by decide)) (xm_le ml_24 rfl) rfl ?_
      refine xi_iload_n (pc' := 1) (x := a2) kc_24_0 rfl rfl ?_
      refine xi_iconst (pc' := 2) (v := 0) kc_24_1 rfl rfl ?_
      refine xi_bipush (pc' := 4) (v := 11) kc_24_2 rfl rfl ?_
      refine xi_static (mj := 11) (as := [.int a2, .int 0, .int 11]) (st1 := []) (lv0 := [(0, .int a2), (1, .int 0), (2, .int 11)]) kc_24_4 rfl rfl (Nat.le_of_ble_eq_true rfl) rfl rfl (Nat.le_of_ble_eq_true rfl) (hJ _ _ _ _ (by decide)) (xm_le ml_11 rfl) rfl ?_
      refine xi_iload_n (pc' := 1) (x := a2) kc_11_0 rfl rfl ?_
      refine xi_iload_n (pc' := 2) (x := 0) kc_11_1 rfl rfl ?_
      refine xi_cmt (pc' := 14) kc_11_2 rfl (xc_lt_t (X := a2.toInt) (Y := 0) rfl (by decide) (by omega)) ?_
      refine xi_iconst (pc' := 15) (v := 0) kc_11_14 rfl rfl ?_
      refine xi_ireturn kc_11_15 mr_11 rfl ?_
      show xw J ov 98 24 (7, [(0, .int a2)], [.int 0], hh348) _
      refine xi_ireturn kc_24_7 mr_24 rfl ?_
      show xw J ov 99 23 (9, [(0, .ref 115), (1, .int a2), (2, .int a4), (3, .int a6), (4, .int 1)], [.int 0], hh348) _
      refine xi_ift (pc' := 19) kc_23_9 rfl rfl ?_
      refine xi_aload_n (pc' := 20) (x := 115) kc_23_19 rfl rfl ?_
      refine xi_iconst (pc' := 21) (v := (-1)) kc_23_20 rfl rfl ?_
      refine xi_virtual (mj := 12) (as := [.int (-1)]) (st1 := []) (lv0 := [(0, .ref 115), (1, .int (-1))]) kc_23_21 rfl rfl rfl rfl rfl eh347.1 (Nat.le_of_ble_eq_true rfl) (hJ _ _ _ _ (by decide)) (xm_le ml_12 rfl) rfl ?_
      refine xi_aload_n (pc' := 1) (x := 115) kc_12_0 rfl rfl ?_
      refine xi_getfield (pc' := 4) (v := .ref 140) kc_12_1 rfl rfl rfl eh347.1 rfl ?_
      refine xi_iload_n (pc' := 5) (x := (-1)) kc_12_4 rfl rfl ?_
      refine xi_ineg (pc' := 6) (v := 1) kc_12_5 rfl rfl ?_
      refine xi_dup2 (pc' := 7) kc_12_6 rfl ⟨rfl, rfl⟩ ?_
      obtain ⟨y350, A350, hy350, ry350⟩ := xk_arr K.1 xD_140
      obtain ⟨v351, ev351, bv351, dv351⟩ := xj_get hy350 ry350 (i := 1) (by decide) (by decide)
      have A352 := ((eh347.2.1 140 (by decide)).trans ((eh330.2.1 140 (by decide)).trans A350))
      refine xi_iaload (pc' := 8) (v := v351) kc_12_7 rfl A352 (by decide) rfl (xi_in (by decide) (by rw [hy350]; decide)) ev351 ?_
      refine xi_iconst (pc' := 9) (v := 1) kc_12_8 rfl rfl ?_
      obtain ⟨v353, ev353⟩ : ∃ q : Int32, (v351 : Int32) + 1 = q := ⟨_, rfl⟩
      have rv353 := xc_rng v353
      refine xi_iadd (pc' := 10) (v := v353) kc_12_9 rfl ev353 ?_
      obtain ⟨y354, s354, hy354, ry354⟩ := xj_set (v := v353) hy350 ry350 1 (by first | omega | decide) (by first | omega | decide)
      refine xi_iastore (pc' := 11) (x' := y354) kc_12_10 rfl A352 rfl (xi_in (by decide) (by rw [hy350]; decide)) s354 (fun hh354 eh354 => ?_)
      have K355 := xk_pa K349 (xk_wa rfl) xD_140 hy354 ry354 eh354
      refine xi_iload_n (pc' := 12) (x := (-1)) kc_12_11 rfl rfl ?_
      refine xi_ireturn kc_12_12 mr_12 rfl ?_
      show xw J ov 99 23 (24, [(0, .ref 115), (1, .int a2), (2, .int a4), (3, .int a6), (4, .int 1)], [.int (-1)], hh354) _
      refine xi_ireturn kc_23_24 mr_23 rfl ?_
      show xw J ov 100 195 (473, [(4, .int x4), (3, .ref 167), (2, .ref 115), (1, .ref 0), (0, .ref 1000000)], [.int (-1), .int (-1)], hh354) _
      refine xi_cmt (pc' := 1501) kc_195_473 rfl rfl ?_
      obtain ⟨v356, ev356⟩ : ∃ q : Int32, x4 + 6 = q := ⟨_, rfl⟩
      have zv356 : v356.toInt = (x4.toInt + 6) := by rw [← ev356]; exact (xz_add (X := x4.toInt) (Y := 6) rfl (by decide) (by omega) (by omega)).trans (by omega)
      refine xi_iinc (pc' := 1504) (x := x4) (v := v356) (lv' := [(4, .int v356), (3, .ref 167), (2, .ref 115), (1, .ref 0), (0, .ref 1000000)]) kc_195_1501 rfl rfl ev356 rfl (xm_lt ml_195 rfl) ?_
      refine xi_goto (pc' := 23) kc_195_1504 rfl ?_
      exact kk v356 hh354 (by omega) K355 (xGR_kept I (fun c hc => ((eh354.2.1 c (Ne.symm (xk_nc hc rfl))).trans ((eh347.2.1 c (Ne.symm (xk_nc hc rfl))).trans (eh330.2.1 c (Ne.symm (xk_nc hc rfl)))))) ((eh354.2.1 125 (by decide)).trans ((eh347.2.1 125 (by decide)).trans (eh330.2.1 125 (by decide)))))
    · refine xi_iff (pc' := 4) kc_104_1 rfl (xc_lt_f (X := a2.toInt) (Y := 0) rfl (by decide) (by omega)) ?_
      refine xi_iload_n (pc' := 5) (x := a2) kc_104_4 rfl rfl ?_
      refine xi_bipush (pc' := 7) (v := 12) kc_104_5 rfl rfl ?_
      by_cases c357 : 12 ≤ a2.toInt
      · refine xi_cmt (pc' := 14) kc_104_7 rfl (xc_ge_t (X := a2.toInt) (Y := 12) rfl (by decide) (by omega)) ?_
        refine xi_iconst (pc' := 15) (v := 0) kc_104_14 rfl rfl ?_
        refine xi_ireturn kc_104_15 mr_104 rfl ?_
        show xw J ov 99 103 (4, [(0, .ref 0), (1, .int a2), (2, .int a4), (3, .int a6), (4, .int 1)], [.int 0], h) _
        refine xi_ift (pc' := 14) kc_103_4 rfl rfl ?_
        refine xi_aload_n (pc' := 15) (x := 0) kc_103_14 rfl rfl ?_
        refine xi_iconst (pc' := 16) (v := (-1)) kc_103_15 rfl rfl ?_
        refine xi_virtual (mj := 90) (as := [.int (-1)]) (st1 := []) (lv0 := [(0, .ref 0), (1, .int (-1))]) kc_103_16 rfl rfl rfl rfl rfl A325 (Nat.le_of_ble_eq_true rfl) (hJ _ _ _ _ (by decide)) (xm_le ml_90 rfl) rfl ?_
        refine xi_iload_n (pc' := 1) (x := (-1)) kc_90_0 rfl rfl ?_
        refine xi_ineg (pc' := 2) (v := 1) kc_90_1 rfl rfl ?_
        refine xi_istore_n (pc' := 3) (lv' := [(2, .int 1), (0, .ref 0), (1, .int (-1))]) kc_90_2 rfl rfl (xm_lt ml_90 rfl) ?_
        refine xi_iload_n (pc' := 4) (x := 1) kc_90_3 rfl rfl ?_
        refine xi_iff (pc' := 7) kc_90_4 rfl rfl ?_
        refine xi_iload_n (pc' := 8) (x := 1) kc_90_7 rfl rfl ?_
        refine xi_aload_n (pc' := 9) (x := 0) kc_90_8 rfl rfl ?_
        refine xi_getfield (pc' := 12) (v := .ref 94) kc_90_9 rfl rfl rfl A325 rfl ?_
        obtain ⟨y358, A358, hy358, ry358⟩ := xk_arr K.1 xD_94
        refine xi_arraylength (pc' := 13) (n := 7) (v := 7) kc_90_12 rfl (xl_lenI (by decide) (by decide) A358 hy358) rfl ?_
        refine xi_cmf (pc' := 16) kc_90_13 rfl rfl ?_
        refine xi_aload_n (pc' := 17) (x := 0) kc_90_16 rfl rfl ?_
        refine xi_getfield (pc' := 20) (v := .ref 94) kc_90_17 rfl rfl rfl A325 rfl ?_
        refine xi_iload_n (pc' := 21) (x := 1) kc_90_20 rfl rfl ?_
        refine xi_dup2 (pc' := 22) kc_90_21 rfl ⟨rfl, rfl⟩ ?_
        obtain ⟨v359, ev359, bv359, dv359⟩ := xj_get hy358 ry358 (i := 1) (by decide) (by decide)
        refine xi_iaload (pc' := 23) (v := v359) kc_90_22 rfl A358 (by decide) rfl (xi_in (by decide) (by rw [hy358]; decide)) ev359 ?_
        refine xi_iconst (pc' := 24) (v := 1) kc_90_23 rfl rfl ?_
        obtain ⟨v360, ev360⟩ : ∃ q : Int32, (v359 : Int32) + 1 = q := ⟨_, rfl⟩
        have rv360 := xc_rng v360
        refine xi_iadd (pc' := 25) (v := v360) kc_90_24 rfl ev360 ?_
        obtain ⟨y361, s361, hy361, ry361⟩ := xj_set (v := v360) hy358 ry358 1 (by first | omega | decide) (by first | omega | decide)
        refine xi_iastore (pc' := 26) (x' := y361) kc_90_25 rfl A358 rfl (xi_in (by decide) (by rw [hy358]; decide)) s361 (fun hh361 eh361 => ?_)
        have K362 := xk_pa K (xk_wa rfl) xD_94 hy361 ry361 eh361
        refine xi_iload_n (pc' := 27) (x := (-1)) kc_90_26 rfl rfl ?_
        refine xi_ireturn kc_90_27 mr_90 rfl ?_
        show xw J ov 99 103 (19, [(0, .ref 0), (1, .int a2), (2, .int a4), (3, .int a6), (4, .int 1)], [.int (-1)], hh361) _
        refine xi_ireturn kc_103_19 mr_103 rfl ?_
        show xw J ov 100 195 (437, [(4, .int x4), (3, .ref 167), (2, .ref 115), (1, .ref 0), (0, .ref 1000000)], [.int (-1)], hh361) _
        refine xi_aload_n (pc' := 438) (x := 115) kc_195_437 rfl rfl ?_
        refine xi_aload_n (pc' := 439) (x := 1000000) kc_195_438 rfl rfl ?_
        refine xi_iload (pc' := 441) (x := x4) kc_195_439 rfl rfl ?_
        refine xi_iconst (pc' := 442) (v := 1) kc_195_441 rfl rfl ?_
        refine xi_iadd (pc' := 443) (v := v1) kc_195_442 rfl ev1 ?_
        refine xi_ialoadO (pc' := 444) (v := a2) kc_195_443 rfl (by decide) hov0 (xi_in (by omega) (by omega)) ea2 ?_
        refine xi_aload_n (pc' := 445) (x := 1000000) kc_195_444 rfl rfl ?_
        refine xi_iload (pc' := 447) (x := x4) kc_195_445 rfl rfl ?_
        refine xi_iconst (pc' := 448) (v := 2) kc_195_447 rfl rfl ?_
        refine xi_iadd (pc' := 449) (v := v3) kc_195_448 rfl ev3 ?_
        refine xi_ialoadO (pc' := 450) (v := a4) kc_195_449 rfl (by decide) hov0 (xi_in (by omega) (by omega)) ea4 ?_
        refine xi_aload_n (pc' := 451) (x := 1000000) kc_195_450 rfl rfl ?_
        refine xi_iload (pc' := 453) (x := x4) kc_195_451 rfl rfl ?_
        refine xi_iconst (pc' := 454) (v := 3) kc_195_453 rfl rfl ?_
        refine xi_iadd (pc' := 455) (v := v5) kc_195_454 rfl ev5 ?_
        refine xi_ialoadO (pc' := 456) (v := a6) kc_195_455 rfl (by decide) hov0 (xi_in (by omega) (by omega)) ea6 ?_
        refine xi_aload_n (pc' := 457) (x := 1000000) kc_195_456 rfl rfl ?_
        refine xi_iload (pc' := 459) (x := x4) kc_195_457 rfl rfl ?_
        refine xi_iconst (pc' := 460) (v := 4) kc_195_459 rfl rfl ?_
        refine xi_iadd (pc' := 461) (v := v7) kc_195_460 rfl ev7 ?_
        refine xi_ialoadO (pc' := 462) (v := a8) kc_195_461 rfl (by decide) hov0 (xi_in (by omega) (by omega)) ea8 ?_
        refine xi_iff (pc' := 465) kc_195_462 rfl (xc_eq_f (X := a8.toInt) (Y := 0) rfl (by decide) (by omega)) ?_
        refine xi_iconst (pc' := 466) (v := 1) kc_195_465 rfl rfl ?_
        refine xi_goto (pc' := 470) kc_195_466 rfl ?_
        obtain ⟨u363, u364, u365, u366, u367, u368, u369, u370, u371, u372, u373, u374, u375, bu363, bu364, bu365, bu366, bu367, bu368, bu369, bu370, bu371, bu372, bu373, bu374, bu375, A376⟩ := xq_115 K.1
        have A377 := ((eh361.2.1 115 (by decide)).trans A376)
        refine xi_virtual (mj := 23) (as := [.int a2, .int a4, .int a6, .int 1]) (st1 := [.int (-1)]) (lv0 := [(0, .ref 115), (1, .int a2), (2, .int a4), (3, .int a6), (4, .int 1)]) kc_195_470 rfl rfl rfl rfl rfl A377 (Nat.le_of_ble_eq_true rfl) (hJ _ _ _ _ (by decide)) (xm_le ml_23 rfl) rfl ?_
        refine xi_aload_n (pc' := 1) (x := 115) kc_23_0 rfl rfl ?_
        refine xi_iconst (pc' := 2) (v := 0) kc_23_1 rfl rfl ?_
        refine xi_putfield (pc' := 5) (fs' := [.int 0, .int u364, .ref 116, .ref 117, .ref 118, .ref 119, .ref 120, .ref 121, .ref 122, .ref 123, .ref 124, .ref 125, .ref 126, .ref 127, .ref 128, .ref 129, .int u365, .ref 130, .int u366, .ref 131, .ref 132, .ref 133, .ref 134, .int u367, .ref 135, .ref 136, .ref 137, .ref 138, .ref 139, .ref 140, .ref 141, .ref 142, .int u368, .int u369, .int u370, .ref 143, .ref 144, .ref 145, .ref 146, .ref 147, .ref 148, .int u371, .ref 149, .ref 150, .ref 151, .int u372, .ref 152, .ref 153, .ref 154, .ref 155, .ref 156, .ref 157, .ref 158, .ref 159, .int u373, .ref 160, .int u374, .ref 161, .ref 162, .ref 163, .ref 164, .int u375, .ref 165, .ref 166]) kc_23_2 rfl rfl rfl A377 rfl rfl rfl (Nat.le_of_ble_eq_true rfl) rfl (fun hh379 eh378 => ?_)
        have K380 := xk_pf (k := 0) (v := 0) K362 (xk_wf rfl) xD_115 A377 rfl (by first | omega | decide) (by first | omega | decide) eh378 rfl
        refine xi_iload_n (pc' := 6) (x := a2) kc_23_5 rfl rfl ?_
        refine xi_static (mj := 24) (as := [.int a2]) (st1 := []) (lv0 := [(0, .int a2)]) kc_23_6 rfl rfl (Nat.le_of_ble_eq_true rfl) rfl rfl (Nat.le_of_ble_eq_true rfl) (hJ _ _ _ _ (by decide)) (xm_le ml_24 rfl) rfl ?_
        refine xi_iload_n (pc' := 1) (x := a2) kc_24_0 rfl rfl ?_
        refine xi_iconst (pc' := 2) (v := 0) kc_24_1 rfl rfl ?_
        refine xi_bipush (pc' := 4) (v := 11) kc_24_2 rfl rfl ?_
        refine xi_static (mj := 11) (as := [.int a2, .int 0, .int 11]) (st1 := []) (lv0 := [(0, .int a2), (1, .int 0), (2, .int 11)]) kc_24_4 rfl rfl (Nat.le_of_ble_eq_true rfl) rfl rfl (Nat.le_of_ble_eq_true rfl) (hJ _ _ _ _ (by decide)) (xm_le ml_11 rfl) rfl ?_
        refine xi_iload_n (pc' := 1) (x := a2) kc_11_0 rfl rfl ?_
        refine xi_iload_n (pc' := 2) (x := 0) kc_11_1 rfl rfl ?_
        refine xi_cmf (pc' := 5) kc_11_2 rfl (xc_lt_f (X := a2.toInt) (Y := 0) rfl (by decide) (by omega)) ?_
        refine xi_iload_n (pc' := 6) (x := a2) kc_11_5 rfl rfl ?_
        refine xi_iload_n (pc' := 7) (x := 11) kc_11_6 rfl rfl ?_
        refine xi_cmt (pc' := 14) kc_11_7 rfl (xc_gt_t (X := a2.toInt) (Y := 11) rfl (by decide) (by omega)) ?_
        refine xi_iconst (pc' := 15) (v := 0) kc_11_14 rfl rfl ?_
        refine xi_ireturn kc_11_15 mr_11 rfl ?_
        show xw J ov 98 24 (7, [(0, .int a2)], [.int 0], hh379) _
        refine xi_ireturn kc_24_7 mr_24 rfl ?_
        show xw J ov 99 23 (9, [(0, .ref 115), (1, .int a2), (2, .int a4), (3, .int a6), (4, .int 1)], [.int 0], hh379) _
        refine xi_ift (pc' := 19) kc_23_9 rfl rfl ?_
        refine xi_aload_n (pc' := 20) (x := 115) kc_23_19 rfl rfl ?_
        refine xi_iconst (pc' := 21) (v := (-1)) kc_23_20 rfl rfl ?_
        refine xi_virtual (mj := 12) (as := [.int (-1)]) (st1 := []) (lv0 := [(0, .ref 115), (1, .int (-1))]) kc_23_21 rfl rfl rfl rfl rfl eh378.1 (Nat.le_of_ble_eq_true rfl) (hJ _ _ _ _ (by decide)) (xm_le ml_12 rfl) rfl ?_
        refine xi_aload_n (pc' := 1) (x := 115) kc_12_0 rfl rfl ?_
        refine xi_getfield (pc' := 4) (v := .ref 140) kc_12_1 rfl rfl rfl eh378.1 rfl ?_
        refine xi_iload_n (pc' := 5) (x := (-1)) kc_12_4 rfl rfl ?_
        refine xi_ineg (pc' := 6) (v := 1) kc_12_5 rfl rfl ?_
        refine xi_dup2 (pc' := 7) kc_12_6 rfl ⟨rfl, rfl⟩ ?_
        obtain ⟨y381, A381, hy381, ry381⟩ := xk_arr K.1 xD_140
        obtain ⟨v382, ev382, bv382, dv382⟩ := xj_get hy381 ry381 (i := 1) (by decide) (by decide)
        have A383 := ((eh378.2.1 140 (by decide)).trans ((eh361.2.1 140 (by decide)).trans A381))
        refine xi_iaload (pc' := 8) (v := v382) kc_12_7 rfl A383 (by decide) rfl (xi_in (by decide) (by rw [hy381]; decide)) ev382 ?_
        refine xi_iconst (pc' := 9) (v := 1) kc_12_8 rfl rfl ?_
        obtain ⟨v384, ev384⟩ : ∃ q : Int32, (v382 : Int32) + 1 = q := ⟨_, rfl⟩
        have rv384 := xc_rng v384
        refine xi_iadd (pc' := 10) (v := v384) kc_12_9 rfl ev384 ?_
        obtain ⟨y385, s385, hy385, ry385⟩ := xj_set (v := v384) hy381 ry381 1 (by first | omega | decide) (by first | omega | decide)
        refine xi_iastore (pc' := 11) (x' := y385) kc_12_10 rfl A383 rfl (xi_in (by decide) (by rw [hy381]; decide)) s385 (fun hh385 eh385 => ?_)
        have K386 := xk_pa K380 (xk_wa rfl) xD_140 hy385 ry385 eh385
        refine xi_iload_n (pc' := 12) (x := (-1)) kc_12_11 rfl rfl ?_
        refine xi_ireturn kc_12_12 mr_12 rfl ?_
        show xw J ov 99 23 (24, [(0, .ref 115), (1, .int a2), (2, .int a4), (3, .int a6), (4, .int 1)], [.int (-1)], hh385) _
        refine xi_ireturn kc_23_24 mr_23 rfl ?_
        show xw J ov 100 195 (473, [(4, .int x4), (3, .ref 167), (2, .ref 115), (1, .ref 0), (0, .ref 1000000)], [.int (-1), .int (-1)], hh385) _
        refine xi_cmt (pc' := 1501) kc_195_473 rfl rfl ?_
        obtain ⟨v387, ev387⟩ : ∃ q : Int32, x4 + 6 = q := ⟨_, rfl⟩
        have zv387 : v387.toInt = (x4.toInt + 6) := by rw [← ev387]; exact (xz_add (X := x4.toInt) (Y := 6) rfl (by decide) (by omega) (by omega)).trans (by omega)
        refine xi_iinc (pc' := 1504) (x := x4) (v := v387) (lv' := [(4, .int v387), (3, .ref 167), (2, .ref 115), (1, .ref 0), (0, .ref 1000000)]) kc_195_1501 rfl rfl ev387 rfl (xm_lt ml_195 rfl) ?_
        refine xi_goto (pc' := 23) kc_195_1504 rfl ?_
        exact kk v387 hh385 (by omega) K386 (xGR_kept I (fun c hc => ((eh385.2.1 c (Ne.symm (xk_nc hc rfl))).trans ((eh378.2.1 c (Ne.symm (xk_nc hc rfl))).trans (eh361.2.1 c (Ne.symm (xk_nc hc rfl)))))) ((eh385.2.1 125 (by decide)).trans ((eh378.2.1 125 (by decide)).trans (eh361.2.1 125 (by decide)))))
      · refine xi_cmf (pc' := 10) kc_104_7 rfl (xc_ge_f (X := a2.toInt) (Y := 12) rfl (by decide) (by omega)) ?_
        refine xi_iconst (pc' := 11) (v := 1) kc_104_10 rfl rfl ?_
        refine xi_goto (pc' := 15) kc_104_11 rfl ?_
        refine xi_ireturn kc_104_15 mr_104 rfl ?_
        show xw J ov 99 103 (4, [(0, .ref 0), (1, .int a2), (2, .int a4), (3, .int a6), (4, .int 1)], [.int 1], h) _
        refine xi_iff (pc' := 7) kc_103_4 rfl rfl ?_
        refine xi_iload_n (pc' := 8) (x := a4) kc_103_7 rfl rfl ?_
        refine xi_static (mj := 89) (as := [.int a4]) (st1 := []) (lv0 := [(0, .int a4)]) kc_103_8 rfl rfl (Nat.le_of_ble_eq_true rfl) rfl rfl (Nat.le_of_ble_eq_true rfl) (hJ _ _ _ _ (by decide)) (xm_le ml_89 rfl) rfl ?_
        refine xi_iload_n (pc' := 1) (x := a4) kc_89_0 rfl rfl ?_
        by_cases c388 : a4.toInt < 0
        · refine xi_ift (pc' := 14) kc_89_1 rfl (xc_lt_t (X := a4.toInt) (Y := 0) rfl (by decide) (by omega)) ?_
          refine xi_iconst (pc' := 15) (v := 0) kc_89_14 rfl rfl ?_
          refine xi_ireturn kc_89_15 mr_89 rfl ?_
          show xw J ov 99 103 (11, [(0, .ref 0), (1, .int a2), (2, .int a4), (3, .int a6), (4, .int 1)], [.int 0], h) _
          refine xi_iff (pc' := 14) kc_103_11 rfl rfl ?_
          refine xi_aload_n (pc' := 15) (x := 0) kc_103_14 rfl rfl ?_
          refine xi_iconst (pc' := 16) (v := (-1)) kc_103_15 rfl rfl ?_
          refine xi_virtual (mj := 90) (as := [.int (-1)]) (st1 := []) (lv0 := [(0, .ref 0), (1, .int (-1))]) kc_103_16 rfl rfl rfl rfl rfl A325 (Nat.le_of_ble_eq_true rfl) (hJ _ _ _ _ (by decide)) (xm_le ml_90 rfl) rfl ?_
          refine xi_iload_n (pc' := 1) (x := (-1)) kc_90_0 rfl rfl ?_
          refine xi_ineg (pc' := 2) (v := 1) kc_90_1 rfl rfl ?_
          refine xi_istore_n (pc' := 3) (lv' := [(2, .int 1), (0, .ref 0), (1, .int (-1))]) kc_90_2 rfl rfl (xm_lt ml_90 rfl) ?_
          refine xi_iload_n (pc' := 4) (x := 1) kc_90_3 rfl rfl ?_
          refine xi_iff (pc' := 7) kc_90_4 rfl rfl ?_
          refine xi_iload_n (pc' := 8) (x := 1) kc_90_7 rfl rfl ?_
          refine xi_aload_n (pc' := 9) (x := 0) kc_90_8 rfl rfl ?_
          refine xi_getfield (pc' := 12) (v := .ref 94) kc_90_9 rfl rfl rfl A325 rfl ?_
          obtain ⟨y389, A389, hy389, ry389⟩ := xk_arr K.1 xD_94
          refine xi_arraylength (pc' := 13) (n := 7) (v := 7) kc_90_12 rfl (xl_lenI (by decide) (by decide) A389 hy389) rfl ?_
          refine xi_cmf (pc' := 16) kc_90_13 rfl rfl ?_
          refine xi_aload_n (pc' := 17) (x := 0) kc_90_16 rfl rfl ?_
          refine xi_getfield (pc' := 20) (v := .ref 94) kc_90_17 rfl rfl rfl A325 rfl ?_
          refine xi_iload_n (pc' := 21) (x := 1) kc_90_20 rfl rfl ?_
          refine xi_dup2 (pc' := 22) kc_90_21 rfl ⟨rfl, rfl⟩ ?_
          obtain ⟨v390, ev390, bv390, dv390⟩ := xj_get hy389 ry389 (i := 1) (by decide) (by decide)
          refine xi_iaload (pc' := 23) (v := v390) kc_90_22 rfl A389 (by decide) rfl (xi_in (by decide) (by rw [hy389]; decide)) ev390 ?_
          refine xi_iconst (pc' := 24) (v := 1) kc_90_23 rfl rfl ?_
          obtain ⟨v391, ev391⟩ : ∃ q : Int32, (v390 : Int32) + 1 = q := ⟨_, rfl⟩
          have rv391 := xc_rng v391
          refine xi_iadd (pc' := 25) (v := v391) kc_90_24 rfl ev391 ?_
          obtain ⟨y392, s392, hy392, ry392⟩ := xj_set (v := v391) hy389 ry389 1 (by first | omega | decide) (by first | omega | decide)
          refine xi_iastore (pc' := 26) (x' := y392) kc_90_25 rfl A389 rfl (xi_in (by decide) (by rw [hy389]; decide)) s392 (fun hh392 eh392 => ?_)
          have K393 := xk_pa K (xk_wa rfl) xD_94 hy392 ry392 eh392
          refine xi_iload_n (pc' := 27) (x := (-1)) kc_90_26 rfl rfl ?_
          refine xi_ireturn kc_90_27 mr_90 rfl ?_
          show xw J ov 99 103 (19, [(0, .ref 0), (1, .int a2), (2, .int a4), (3, .int a6), (4, .int 1)], [.int (-1)], hh392) _
          refine xi_ireturn kc_103_19 mr_103 rfl ?_
          show xw J ov 100 195 (437, [(4, .int x4), (3, .ref 167), (2, .ref 115), (1, .ref 0), (0, .ref 1000000)], [.int (-1)], hh392) _
          refine xi_aload_n (pc' := 438) (x := 115) kc_195_437 rfl rfl ?_
          refine xi_aload_n (pc' := 439) (x := 1000000) kc_195_438 rfl rfl ?_
          refine xi_iload (pc' := 441) (x := x4) kc_195_439 rfl rfl ?_
          refine xi_iconst (pc' := 442) (v := 1) kc_195_441 rfl rfl ?_
          refine xi_iadd (pc' := 443) (v := v1) kc_195_442 rfl ev1 ?_
          refine xi_ialoadO (pc' := 444) (v := a2) kc_195_443 rfl (by decide) hov0 (xi_in (by omega) (by omega)) ea2 ?_
          refine xi_aload_n (pc' := 445) (x := 1000000) kc_195_444 rfl rfl ?_
          refine xi_iload (pc' := 447) (x := x4) kc_195_445 rfl rfl ?_
          refine xi_iconst (pc' := 448) (v := 2) kc_195_447 rfl rfl ?_
          refine xi_iadd (pc' := 449) (v := v3) kc_195_448 rfl ev3 ?_
          refine xi_ialoadO (pc' := 450) (v := a4) kc_195_449 rfl (by decide) hov0 (xi_in (by omega) (by omega)) ea4 ?_
          refine xi_aload_n (pc' := 451) (x := 1000000) kc_195_450 rfl rfl ?_
          refine xi_iload (pc' := 453) (x := x4) kc_195_451 rfl rfl ?_
          refine xi_iconst (pc' := 454) (v := 3) kc_195_453 rfl rfl ?_
          refine xi_iadd (pc' := 455) (v := v5) kc_195_454 rfl ev5 ?_
          refine xi_ialoadO (pc' := 456) (v := a6) kc_195_455 rfl (by decide) hov0 (xi_in (by omega) (by omega)) ea6 ?_
          refine xi_aload_n (pc' := 457) (x := 1000000) kc_195_456 rfl rfl ?_
          refine xi_iload (pc' := 459) (x := x4) kc_195_457 rfl rfl ?_
          refine xi_iconst (pc' := 460) (v := 4) kc_195_459 rfl rfl ?_
          refine xi_iadd (pc' := 461) (v := v7) kc_195_460 rfl ev7 ?_
          refine xi_ialoadO (pc' := 462) (v := a8) kc_195_461 rfl (by decide) hov0 (xi_in (by omega) (by omega)) ea8 ?_
          refine xi_iff (pc' := 465) kc_195_462 rfl (xc_eq_f (X := a8.toInt) (Y := 0) rfl (by decide) (by omega)) ?_
          refine xi_iconst (pc' := 466) (v := 1) kc_195_465 rfl rfl ?_
          refine xi_goto (pc' := 470) kc_195_466 rfl ?_
          obtain ⟨u394, u395, u396, u397, u398, u399, u400, u401, u402, u403, u404, u405, u406, bu394, bu395, bu396, bu397, bu398, bu399, bu400, bu401, bu402, bu403, bu404, bu405, bu406, A407⟩ := xq_115 K.1
          have A408 := ((eh392.2.1 115 (by decide)).trans A407)
          refine xi_virtual (mj := 23) (as := [.int a2, .int a4, .int a6, .int 1]) (st1 := [.int (-1)]) (lv0 := [(0, .ref 115), (1, .int a2), (2, .int a4), (3, .int a6), (4, .int 1)]) kc_195_470 rfl rfl rfl rfl rfl A408 (Nat.le_of_ble_eq_true rfl) (hJ _ _ _ _ (by decide)) (xm_le ml_23 rfl) rfl ?_
          refine xi_aload_n (pc' := 1) (x := 115) kc_23_0 rfl rfl ?_
          refine xi_iconst (pc' := 2) (v := 0) kc_23_1 rfl rfl ?_
          refine xi_putfield (pc' := 5) (fs' := [.int 0, .int u395, .ref 116, .ref 117, .ref 118, .ref 119, .ref 120, .ref 121, .ref 122, .ref 123, .ref 124, .ref 125, .ref 126, .ref 127, .ref 128, .ref 129, .int u396, .ref 130, .int u397, .ref 131, .ref 132, .ref 133, .ref 134, .int u398, .ref 135, .ref 136, .ref 137, .ref 138, .ref 139, .ref 140, .ref 141, .ref 142, .int u399, .int u400, .int u401, .ref 143, .ref 144, .ref 145, .ref 146, .ref 147, .ref 148, .int u402, .ref 149, .ref 150, .ref 151, .int u403, .ref 152, .ref 153, .ref 154, .ref 155, .ref 156, .ref 157, .ref 158, .ref 159, .int u404, .ref 160, .int u405, .ref 161, .ref 162, .ref 163, .ref 164, .int u406, .ref 165, .ref 166]) kc_23_2 rfl rfl rfl A408 rfl rfl rfl (Nat.le_of_ble_eq_true rfl) rfl (fun hh410 eh409 => ?_)
          have K411 := xk_pf (k := 0) (v := 0) K393 (xk_wf rfl) xD_115 A408 rfl (by first | omega | decide) (by first | omega | decide) eh409 rfl
          refine xi_iload_n (pc' := 6) (x := a2) kc_23_5 rfl rfl ?_
          refine xi_static (mj := 24) (as := [.int a2]) (st1 := []) (lv0 := [(0, .int a2)]) kc_23_6 rfl rfl (Nat.le_of_ble_eq_true rfl) rfl rfl (Nat.le_of_ble_eq_true rfl) (hJ _ _ _ _ (by decide)) (xm_le ml_24 rfl) rfl ?_
          refine xi_iload_n (pc' := 1) (x := a2) kc_24_0 rfl rfl ?_
          refine xi_iconst (pc' := 2) (v := 0) kc_24_1 rfl rfl ?_
          refine xi_bipush (pc' := 4) (v := 11) kc_24_2 rfl rfl ?_
          refine xi_static (mj := 11) (as := [.int a2, .int 0, .int 11]) (st1 := []) (lv0 := [(0, .int a2), (1, .int 0), (2, .int 11)]) kc_24_4 rfl rfl (Nat.le_of_ble_eq_true rfl) rfl rfl (Nat.le_of_ble_eq_true rfl) (hJ _ _ _ _ (by decide)) (xm_le ml_11 rfl) rfl ?_
          refine xi_iload_n (pc' := 1) (x := a2) kc_11_0 rfl rfl ?_
          refine xi_iload_n (pc' := 2) (x := 0) kc_11_1 rfl rfl ?_
          refine xi_cmf (pc' := 5) kc_11_2 rfl (xc_lt_f (X := a2.toInt) (Y := 0) rfl (by decide) (by omega)) ?_
          refine xi_iload_n (pc' := 6) (x := a2) kc_11_5 rfl rfl ?_
          refine xi_iload_n (pc' := 7) (x := 11) kc_11_6 rfl rfl ?_
          refine xi_cmf (pc' := 10) kc_11_7 rfl (xc_gt_f (X := a2.toInt) (Y := 11) rfl (by decide) (by omega)) ?_
          refine xi_iconst (pc' := 11) (v := 1) kc_11_10 rfl rfl ?_
          refine xi_goto (pc' := 15) kc_11_11 rfl ?_
          refine xi_ireturn kc_11_15 mr_11 rfl ?_
          show xw J ov 98 24 (7, [(0, .int a2)], [.int 1], hh410) _
          refine xi_ireturn kc_24_7 mr_24 rfl ?_
          show xw J ov 99 23 (9, [(0, .ref 115), (1, .int a2), (2, .int a4), (3, .int a6), (4, .int 1)], [.int 1], hh410) _
          refine xi_iff (pc' := 12) kc_23_9 rfl rfl ?_
          refine xi_iload_n (pc' := 13) (x := a4) kc_23_12 rfl rfl ?_
          refine xi_static (mj := 10) (as := [.int a4]) (st1 := []) (lv0 := [(0, .int a4)]) kc_23_13 rfl rfl (Nat.le_of_ble_eq_true rfl) rfl rfl (Nat.le_of_ble_eq_true rfl) (hJ _ _ _ _ (by decide)) (xm_le ml_10 rfl) rfl ?_
          refine xi_iload_n (pc' := 1) (x := a4) kc_10_0 rfl rfl ?_
          refine xi_iconst (pc' := 2) (v := 0) kc_10_1 rfl rfl ?_
          refine xi_iconst (pc' := 3) (v := 5) kc_10_2 rfl rfl ?_
          refine xi_static (mj := 11) (as := [.int a4, .int 0, .int 5]) (st1 := []) (lv0 := [(0, .int a4), (1, .int 0), (2, .int 5)]) kc_10_3 rfl rfl (Nat.le_of_ble_eq_true rfl) rfl rfl (Nat.le_of_ble_eq_true rfl) (hJ _ _ _ _ (by decide)) (xm_le ml_11 rfl) rfl ?_
          refine xi_iload_n (pc' := 1) (x := a4) kc_11_0 rfl rfl ?_
          refine xi_iload_n (pc' := 2) (x := 0) kc_11_1 rfl rfl ?_
          refine xi_cmt (pc' := 14) kc_11_2 rfl (xc_lt_t (X := a4.toInt) (Y := 0) rfl (by decide) (by omega)) ?_
          refine xi_iconst (pc' := 15) (v := 0) kc_11_14 rfl rfl ?_
          refine xi_ireturn kc_11_15 mr_11 rfl ?_
          show xw J ov 98 10 (6, [(0, .int a4)], [.int 0], hh410) _
          refine xi_ireturn kc_10_6 mr_10 rfl ?_
          show xw J ov 99 23 (16, [(0, .ref 115), (1, .int a2), (2, .int a4), (3, .int a6), (4, .int 1)], [.int 0], hh410) _
          refine xi_iff (pc' := 19) kc_23_16 rfl rfl ?_
          refine xi_aload_n (pc' := 20) (x := 115) kc_23_19 rfl rfl ?_
          refine xi_iconst (pc' := 21) (v := (-1)) kc_23_20 rfl rfl ?_
          refine xi_virtual (mj := 12) (as := [.int (-1)]) (st1 := []) (lv0 := [(0, .ref 115), (1, .int (-1))]) kc_23_21 rfl rfl rfl rfl rfl eh409.1 (Nat.le_of_ble_eq_true rfl) (hJ _ _ _ _ (by decide)) (xm_le ml_12 rfl) rfl ?_
          refine xi_aload_n (pc' := 1) (x := 115) kc_12_0 rfl rfl ?_
          refine xi_getfield (pc' := 4) (v := .ref 140) kc_12_1 rfl rfl rfl eh409.1 rfl ?_
          refine xi_iload_n (pc' := 5) (x := (-1)) kc_12_4 rfl rfl ?_
          refine xi_ineg (pc' := 6) (v := 1) kc_12_5 rfl rfl ?_
          refine xi_dup2 (pc' := 7) kc_12_6 rfl ⟨rfl, rfl⟩ ?_
          obtain ⟨y412, A412, hy412, ry412⟩ := xk_arr K.1 xD_140
          obtain ⟨v413, ev413, bv413, dv413⟩ := xj_get hy412 ry412 (i := 1) (by decide) (by decide)
          have A414 := ((eh409.2.1 140 (by decide)).trans ((eh392.2.1 140 (by decide)).trans A412))
          refine xi_iaload (pc' := 8) (v := v413) kc_12_7 rfl A414 (by decide) rfl (xi_in (by decide) (by rw [hy412]; decide)) ev413 ?_
          refine xi_iconst (pc' := 9) (v := 1) kc_12_8 rfl rfl ?_
          obtain ⟨v415, ev415⟩ : ∃ q : Int32, (v413 : Int32) + 1 = q := ⟨_, rfl⟩
          have rv415 := xc_rng v415
          refine xi_iadd (pc' := 10) (v := v415) kc_12_9 rfl ev415 ?_
          obtain ⟨y416, s416, hy416, ry416⟩ := xj_set (v := v415) hy412 ry412 1 (by first | omega | decide) (by first | omega | decide)
          refine xi_iastore (pc' := 11) (x' := y416) kc_12_10 rfl A414 rfl (xi_in (by decide) (by rw [hy412]; decide)) s416 (fun hh416 eh416 => ?_)
          have K417 := xk_pa K411 (xk_wa rfl) xD_140 hy416 ry416 eh416
          refine xi_iload_n (pc' := 12) (x := (-1)) kc_12_11 rfl rfl ?_
          refine xi_ireturn kc_12_12 mr_12 rfl ?_
          show xw J ov 99 23 (24, [(0, .ref 115), (1, .int a2), (2, .int a4), (3, .int a6), (4, .int 1)], [.int (-1)], hh416) _
          refine xi_ireturn kc_23_24 mr_23 rfl ?_
          show xw J ov 100 195 (473, [(4, .int x4), (3, .ref 167), (2, .ref 115), (1, .ref 0), (0, .ref 1000000)], [.int (-1), .int (-1)], hh416) _
          refine xi_cmt (pc' := 1501) kc_195_473 rfl rfl ?_
          obtain ⟨v418, ev418⟩ : ∃ q : Int32, x4 + 6 = q := ⟨_, rfl⟩
          have zv418 : v418.toInt = (x4.toInt + 6) := by rw [← ev418]; exact (xz_add (X := x4.toInt) (Y := 6) rfl (by decide) (by omega) (by omega)).trans (by omega)
          refine xi_iinc (pc' := 1504) (x := x4) (v := v418) (lv' := [(4, .int v418), (3, .ref 167), (2, .ref 115), (1, .ref 0), (0, .ref 1000000)]) kc_195_1501 rfl rfl ev418 rfl (xm_lt ml_195 rfl) ?_
          refine xi_goto (pc' := 23) kc_195_1504 rfl ?_
          exact kk v418 hh416 (by omega) K417 (xGR_kept I (fun c hc => ((eh416.2.1 c (Ne.symm (xk_nc hc rfl))).trans ((eh409.2.1 c (Ne.symm (xk_nc hc rfl))).trans (eh392.2.1 c (Ne.symm (xk_nc hc rfl)))))) ((eh416.2.1 125 (by decide)).trans ((eh409.2.1 125 (by decide)).trans (eh392.2.1 125 (by decide)))))
        · refine xi_iff (pc' := 4) kc_89_1 rfl (xc_lt_f (X := a4.toInt) (Y := 0) rfl (by decide) (by omega)) ?_
          refine xi_iload_n (pc' := 5) (x := a4) kc_89_4 rfl rfl ?_
          refine xi_bipush (pc' := 7) (v := 6) kc_89_5 rfl rfl ?_
          by_cases c419 : 6 ≤ a4.toInt
          · refine xi_cmt (pc' := 14) kc_89_7 rfl (xc_ge_t (X := a4.toInt) (Y := 6) rfl (by decide) (by omega)) ?_
            refine xi_iconst (pc' := 15) (v := 0) kc_89_14 rfl rfl ?_
            refine xi_ireturn kc_89_15 mr_89 rfl ?_
            show xw J ov 99 103 (11, [(0, .ref 0), (1, .int a2), (2, .int a4), (3, .int a6), (4, .int 1)], [.int 0], h) _
            refine xi_iff (pc' := 14) kc_103_11 rfl rfl ?_
            refine xi_aload_n (pc' := 15) (x := 0) kc_103_14 rfl rfl ?_
            refine xi_iconst (pc' := 16) (v := (-1)) kc_103_15 rfl rfl ?_
            refine xi_virtual (mj := 90) (as := [.int (-1)]) (st1 := []) (lv0 := [(0, .ref 0), (1, .int (-1))]) kc_103_16 rfl rfl rfl rfl rfl A325 (Nat.le_of_ble_eq_true rfl) (hJ _ _ _ _ (by decide)) (xm_le ml_90 rfl) rfl ?_
            refine xi_iload_n (pc' := 1) (x := (-1)) kc_90_0 rfl rfl ?_
            refine xi_ineg (pc' := 2) (v := 1) kc_90_1 rfl rfl ?_
            refine xi_istore_n (pc' := 3) (lv' := [(2, .int 1), (0, .ref 0), (1, .int (-1))]) kc_90_2 rfl rfl (xm_lt ml_90 rfl) ?_
            refine xi_iload_n (pc' := 4) (x := 1) kc_90_3 rfl rfl ?_
            refine xi_iff (pc' := 7) kc_90_4 rfl rfl ?_
            refine xi_iload_n (pc' := 8) (x := 1) kc_90_7 rfl rfl ?_
            refine xi_aload_n (pc' := 9) (x := 0) kc_90_8 rfl rfl ?_
            refine xi_getfield (pc' := 12) (v := .ref 94) kc_90_9 rfl rfl rfl A325 rfl ?_
            obtain ⟨y420, A420, hy420, ry420⟩ := xk_arr K.1 xD_94
            refine xi_arraylength (pc' := 13) (n := 7) (v := 7) kc_90_12 rfl (xl_lenI (by decide) (by decide) A420 hy420) rfl ?_
            refine xi_cmf (pc' := 16) kc_90_13 rfl rfl ?_
            refine xi_aload_n (pc' := 17) (x := 0) kc_90_16 rfl rfl ?_
            refine xi_getfield (pc' := 20) (v := .ref 94) kc_90_17 rfl rfl rfl A325 rfl ?_
            refine xi_iload_n (pc' := 21) (x := 1) kc_90_20 rfl rfl ?_
            refine xi_dup2 (pc' := 22) kc_90_21 rfl ⟨rfl, rfl⟩ ?_
            obtain ⟨v421, ev421, bv421, dv421⟩ := xj_get hy420 ry420 (i := 1) (by decide) (by decide)
            refine xi_iaload (pc' := 23) (v := v421) kc_90_22 rfl A420 (by decide) rfl (xi_in (by decide) (by rw [hy420]; decide)) ev421 ?_
            refine xi_iconst (pc' := 24) (v := 1) kc_90_23 rfl rfl ?_
            obtain ⟨v422, ev422⟩ : ∃ q : Int32, (v421 : Int32) + 1 = q := ⟨_, rfl⟩
            have rv422 := xc_rng v422
            refine xi_iadd (pc' := 25) (v := v422) kc_90_24 rfl ev422 ?_
            obtain ⟨y423, s423, hy423, ry423⟩ := xj_set (v := v422) hy420 ry420 1 (by first | omega | decide) (by first | omega | decide)
            refine xi_iastore (pc' := 26) (x' := y423) kc_90_25 rfl A420 rfl (xi_in (by decide) (by rw [hy420]; decide)) s423 (fun hh423 eh423 => ?_)
            have K424 := xk_pa K (xk_wa rfl) xD_94 hy423 ry423 eh423
            refine xi_iload_n (pc' := 27) (x := (-1)) kc_90_26 rfl rfl ?_
            refine xi_ireturn kc_90_27 mr_90 rfl ?_
            show xw J ov 99 103 (19, [(0, .ref 0), (1, .int a2), (2, .int a4), (3, .int a6), (4, .int 1)], [.int (-1)], hh423) _
            refine xi_ireturn kc_103_19 mr_103 rfl ?_
            show xw J ov 100 195 (437, [(4, .int x4), (3, .ref 167), (2, .ref 115), (1, .ref 0), (0, .ref 1000000)], [.int (-1)], hh423) _
            refine xi_aload_n (pc' := 438) (x := 115) kc_195_437 rfl rfl ?_
            refine xi_aload_n (pc' := 439) (x := 1000000) kc_195_438 rfl rfl ?_
            refine xi_iload (pc' := 441) (x := x4) kc_195_439 rfl rfl ?_
            refine xi_iconst (pc' := 442) (v := 1) kc_195_441 rfl rfl ?_
            refine xi_iadd (pc' := 443) (v := v1) kc_195_442 rfl ev1 ?_
            refine xi_ialoadO (pc' := 444) (v := a2) kc_195_443 rfl (by decide) hov0 (xi_in (by omega) (by omega)) ea2 ?_
            refine xi_aload_n (pc' := 445) (x := 1000000) kc_195_444 rfl rfl ?_
            refine xi_iload (pc' := 447) (x := x4) kc_195_445 rfl rfl ?_
            refine xi_iconst (pc' := 448) (v := 2) kc_195_447 rfl rfl ?_
            refine xi_iadd (pc' := 449) (v := v3) kc_195_448 rfl ev3 ?_
            refine xi_ialoadO (pc' := 450) (v := a4) kc_195_449 rfl (by decide) hov0 (xi_in (by omega) (by omega)) ea4 ?_
            refine xi_aload_n (pc' := 451) (x := 1000000) kc_195_450 rfl rfl ?_
            refine xi_iload (pc' := 453) (x := x4) kc_195_451 rfl rfl ?_
            refine xi_iconst (pc' := 454) (v := 3) kc_195_453 rfl rfl ?_
            refine xi_iadd (pc' := 455) (v := v5) kc_195_454 rfl ev5 ?_
            refine xi_ialoadO (pc' := 456) (v := a6) kc_195_455 rfl (by decide) hov0 (xi_in (by omega) (by omega)) ea6 ?_
            refine xi_aload_n (pc' := 457) (x := 1000000) kc_195_456 rfl rfl ?_
            refine xi_iload (pc' := 459) (x := x4) kc_195_457 rfl rfl ?_
            refine xi_iconst (pc' := 460) (v := 4) kc_195_459 rfl rfl ?_
            refine xi_iadd (pc' := 461) (v := v7) kc_195_460 rfl ev7 ?_
            refine xi_ialoadO (pc' := 462) (v := a8) kc_195_461 rfl (by decide) hov0 (xi_in (by omega) (by omega)) ea8 ?_
            refine xi_iff (pc' := 465) kc_195_462 rfl (xc_eq_f (X := a8.toInt) (Y := 0) rfl (by decide) (by omega)) ?_
            refine xi_iconst (pc' := 466) (v := 1) kc_195_465 rfl rfl ?_
            refine xi_goto (pc' := 470) kc_195_466 rfl ?_
            obtain ⟨u425, u426, u427, u428, u429, u430, u431, u432, u433, u434, u435, u436, u437, bu425, bu426, bu427, bu428, bu429, bu430, bu431, bu432, bu433, bu434, bu435, bu436, bu437, A438⟩ := xq_115 K.1
            have A439 := ((eh423.2.1 115 (by decide)).trans A438)
            refine xi_virtual (mj := 23) (as := [.int a2, .int a4, .int a6, .int 1]) (st1 := [.int (-1)]) (lv0 := [(0, .ref 115), (1, .int a2), (2, .int a4), (3, .int a6), (4, .int 1)]) kc_195_470 rfl rfl rfl rfl rfl A439 (Nat.le_of_ble_eq_true rfl) (hJ _ _ _ _ (by decide)) (xm_le ml_23 rfl) rfl ?_
            refine xi_aload_n (pc' := 1) (x := 115) kc_23_0 rfl rfl ?_
            refine xi_iconst (pc' := 2) (v := 0) kc_23_1 rfl rfl ?_
            refine xi_putfield (pc' := 5) (fs' := [.int 0, .int u426, .ref 116, .ref 117, .ref 118, .ref 119, .ref 120, .ref 121, .ref 122, .ref 123, .ref 124, .ref 125, .ref 126, .ref 127, .ref 128, .ref 129, .int u427, .ref 130, .int u428, .ref 131, .ref 132, .ref 133, .ref 134, .int u429, .ref 135, .ref 136, .ref 137, .ref 138, .ref 139, .ref 140, .ref 141, .ref 142, .int u430, .int u431, .int u432, .ref 143, .ref 144, .ref 145, .ref 146, .ref 147, .ref 148, .int u433, .ref 149, .ref 150, .ref 151, .int u434, .ref 152, .ref 153, .ref 154, .ref 155, .ref 156, .ref 157, .ref 158, .ref 159, .int u435, .ref 160, .int u436, .ref 161, .ref 162, .ref 163, .ref 164, .int u437, .ref 165, .ref 166]) kc_23_2 rfl rfl rfl A439 rfl rfl rfl (Nat.le_of_ble_eq_true rfl) rfl (fun hh441 eh440 => ?_)
            have K442 := xk_pf (k := 0) (v := 0) K424 (xk_wf rfl) xD_115 A439 rfl (by first | omega | decide) (by first | omega | decide) eh440 rfl
            refine xi_iload_n (pc' := 6) (x := a2) kc_23_5 rfl rfl ?_
            refine xi_static (mj := 24) (as := [.int a2]) (st1 := []) (lv0 := [(0, .int a2)]) kc_23_6 rfl rfl (Nat.le_of_ble_eq_true rfl) rfl rfl (Nat.le_of_ble_eq_true rfl) (hJ _ _ _ _ (by decide)) (xm_le ml_24 rfl) rfl ?_
            refine xi_iload_n (pc' := 1) (x := a2) kc_24_0 rfl rfl ?_
            refine xi_iconst (pc' := 2) (v := 0) kc_24_1 rfl rfl ?_
            refine xi_bipush (pc' := 4) (v := 11) kc_24_2 rfl rfl ?_
            refine xi_static (mj := 11) (as := [.int a2, .int 0, .int 11]) (st1 := []) (lv0 := [(0, .int a2), (1, .int 0), (2, .int 11)]) kc_24_4 rfl rfl (Nat.le_of_ble_eq_true rfl) rfl rfl (Nat.le_of_ble_eq_true rfl) (hJ _ _ _ _ (by decide)) (xm_le ml_11 rfl) rfl ?_
            refine xi_iload_n (pc' := 1) (x := a2) kc_11_0 rfl rfl ?_
            refine xi_iload_n (pc' := 2) (x := 0) kc_11_1 rfl rfl ?_
            refine xi_cmf (pc' := 5) kc_11_2 rfl (xc_lt_f (X := a2.toInt) (Y := 0) rfl (by decide) (by omega)) ?_
            refine xi_iload_n (pc' := 6) (x := a2) kc_11_5 rfl rfl ?_
            refine xi_iload_n (pc' := 7) (x := 11) kc_11_6 rfl rfl ?_
            refine xi_cmf (pc' := 10) kc_11_7 rfl (xc_gt_f (X := a2.toInt) (Y := 11) rfl (by decide) (by omega)) ?_
            refine xi_iconst (pc' := 11) (v := 1) kc_11_10 rfl rfl ?_
            refine xi_goto (pc' := 15) kc_11_11 rfl ?_
            refine xi_ireturn kc_11_15 mr_11 rfl ?_
            show xw J ov 98 24 (7, [(0, .int a2)], [.int 1], hh441) _
            refine xi_ireturn kc_24_7 mr_24 rfl ?_
            show xw J ov 99 23 (9, [(0, .ref 115), (1, .int a2), (2, .int a4), (3, .int a6), (4, .int 1)], [.int 1], hh441) _
            refine xi_iff (pc' := 12) kc_23_9 rfl rfl ?_
            refine xi_iload_n (pc' := 13) (x := a4) kc_23_12 rfl rfl ?_
            refine xi_static (mj := 10) (as := [.int a4]) (st1 := []) (lv0 := [(0, .int a4)]) kc_23_13 rfl rfl (Nat.le_of_ble_eq_true rfl) rfl rfl (Nat.le_of_ble_eq_true rfl) (hJ _ _ _ _ (by decide)) (xm_le ml_10 rfl) rfl ?_
            refine xi_iload_n (pc' := 1) (x := a4) kc_10_0 rfl rfl ?_
            refine xi_iconst (pc' := 2) (v := 0) kc_10_1 rfl rfl ?_
            refine xi_iconst (pc' := 3) (v := 5) kc_10_2 rfl rfl ?_
            refine xi_static (mj := 11) (as := [.int a4, .int 0, .int 5]) (st1 := []) (lv0 := [(0, .int a4), (1, .int 0), (2, .int 5)]) kc_10_3 rfl rfl (Nat.le_of_ble_eq_true rfl) rfl rfl (Nat.le_of_ble_eq_true rfl) (hJ _ _ _ _ (by decide)) (xm_le ml_11 rfl) rfl ?_
            refine xi_iload_n (pc' := 1) (x := a4) kc_11_0 rfl rfl ?_
            refine xi_iload_n (pc' := 2) (x := 0) kc_11_1 rfl rfl ?_
            refine xi_cmf (pc' := 5) kc_11_2 rfl (xc_lt_f (X := a4.toInt) (Y := 0) rfl (by decide) (by omega)) ?_
            refine xi_iload_n (pc' := 6) (x := a4) kc_11_5 rfl rfl ?_
            refine xi_iload_n (pc' := 7) (x := 5) kc_11_6 rfl rfl ?_
            refine xi_cmt (pc' := 14) kc_11_7 rfl (xc_gt_t (X := a4.toInt) (Y := 5) rfl (by decide) (by omega)) ?_
            refine xi_iconst (pc' := 15) (v := 0) kc_11_14 rfl rfl ?_
            refine xi_ireturn kc_11_15 mr_11 rfl ?_
            show xw J ov 98 10 (6, [(0, .int a4)], [.int 0], hh441) _
            refine xi_ireturn kc_10_6 mr_10 rfl ?_
            show xw J ov 99 23 (16, [(0, .ref 115), (1, .int a2), (2, .int a4), (3, .int a6), (4, .int 1)], [.int 0], hh441) _
            refine xi_iff (pc' := 19) kc_23_16 rfl rfl ?_
            refine xi_aload_n (pc' := 20) (x := 115) kc_23_19 rfl rfl ?_
            refine xi_iconst (pc' := 21) (v := (-1)) kc_23_20 rfl rfl ?_
            refine xi_virtual (mj := 12) (as := [.int (-1)]) (st1 := []) (lv0 := [(0, .ref 115), (1, .int (-1))]) kc_23_21 rfl rfl rfl rfl rfl eh440.1 (Nat.le_of_ble_eq_true rfl) (hJ _ _ _ _ (by decide)) (xm_le ml_12 rfl) rfl ?_
            refine xi_aload_n (pc' := 1) (x := 115) kc_12_0 rfl rfl ?_
            refine xi_getfield (pc' := 4) (v := .ref 140) kc_12_1 rfl rfl rfl eh440.1 rfl ?_
            refine xi_iload_n (pc' := 5) (x := (-1)) kc_12_4 rfl rfl ?_
            refine xi_ineg (pc' := 6) (v := 1) kc_12_5 rfl rfl ?_
            refine xi_dup2 (pc' := 7) kc_12_6 rfl ⟨rfl, rfl⟩ ?_
            obtain ⟨y443, A443, hy443, ry443⟩ := xk_arr K.1 xD_140
            obtain ⟨v444, ev444, bv444, dv444⟩ := xj_get hy443 ry443 (i := 1) (by decide) (by decide)
            have A445 := ((eh440.2.1 140 (by decide)).trans ((eh423.2.1 140 (by decide)).trans A443))
            refine xi_iaload (pc' := 8) (v := v444) kc_12_7 rfl A445 (by decide) rfl (xi_in (by decide) (by rw [hy443]; decide)) ev444 ?_
            refine xi_iconst (pc' := 9) (v := 1) kc_12_8 rfl rfl ?_
            obtain ⟨v446, ev446⟩ : ∃ q : Int32, (v444 : Int32) + 1 = q := ⟨_, rfl⟩
            have rv446 := xc_rng v446
            refine xi_iadd (pc' := 10) (v := v446) kc_12_9 rfl ev446 ?_
            obtain ⟨y447, s447, hy447, ry447⟩ := xj_set (v := v446) hy443 ry443 1 (by first | omega | decide) (by first | omega | decide)
            refine xi_iastore (pc' := 11) (x' := y447) kc_12_10 rfl A445 rfl (xi_in (by decide) (by rw [hy443]; decide)) s447 (fun hh447 eh447 => ?_)
            have K448 := xk_pa K442 (xk_wa rfl) xD_140 hy447 ry447 eh447
            refine xi_iload_n (pc' := 12) (x := (-1)) kc_12_11 rfl rfl ?_
            refine xi_ireturn kc_12_12 mr_12 rfl ?_
            show xw J ov 99 23 (24, [(0, .ref 115), (1, .int a2), (2, .int a4), (3, .int a6), (4, .int 1)], [.int (-1)], hh447) _
            refine xi_ireturn kc_23_24 mr_23 rfl ?_
            show xw J ov 100 195 (473, [(4, .int x4), (3, .ref 167), (2, .ref 115), (1, .ref 0), (0, .ref 1000000)], [.int (-1), .int (-1)], hh447) _
            refine xi_cmt (pc' := 1501) kc_195_473 rfl rfl ?_
            obtain ⟨v449, ev449⟩ : ∃ q : Int32, x4 + 6 = q := ⟨_, rfl⟩
            have zv449 : v449.toInt = (x4.toInt + 6) := by rw [← ev449]; exact (xz_add (X := x4.toInt) (Y := 6) rfl (by decide) (by omega) (by omega)).trans (by omega)
            refine xi_iinc (pc' := 1504) (x := x4) (v := v449) (lv' := [(4, .int v449), (3, .ref 167), (2, .ref 115), (1, .ref 0), (0, .ref 1000000)]) kc_195_1501 rfl rfl ev449 rfl (xm_lt ml_195 rfl) ?_
            refine xi_goto (pc' := 23) kc_195_1504 rfl ?_
            exact kk v449 hh447 (by omega) K448 (xGR_kept I (fun c hc => ((eh447.2.1 c (Ne.symm (xk_nc hc rfl))).trans ((eh440.2.1 c (Ne.symm (xk_nc hc rfl))).trans (eh423.2.1 c (Ne.symm (xk_nc hc rfl)))))) ((eh447.2.1 125 (by decide)).trans ((eh440.2.1 125 (by decide)).trans (eh423.2.1 125 (by decide)))))
          · refine xi_cmf (pc' := 10) kc_89_7 rfl (xc_ge_f (X := a4.toInt) (Y := 6) rfl (by decide) (by omega)) ?_
            refine xi_iconst (pc' := 11) (v := 1) kc_89_10 rfl rfl ?_
            refine xi_goto (pc' := 15) kc_89_11 rfl ?_
            refine xi_ireturn kc_89_15 mr_89 rfl ?_
            show xw J ov 99 103 (11, [(0, .ref 0), (1, .int a2), (2, .int a4), (3, .int a6), (4, .int 1)], [.int 1], h) _
            refine xi_ift (pc' := 20) kc_103_11 rfl rfl ?_
            refine xi_iload_n (pc' := 21) (x := a6) kc_103_20 rfl rfl ?_
            by_cases c450 : 0 ≤ a6.toInt
            · refine xi_ift (pc' := 31) kc_103_21 rfl (xc_ge_t (X := a6.toInt) (Y := 0) rfl (by decide) (by omega)) ?_
              refine xi_iload_n (pc' := 32) (x := a6) kc_103_31 rfl rfl ?_
              refine xi_bipush (pc' := 34) (v := 100) kc_103_32 rfl rfl ?_
              by_cases c451 : a6.toInt ≤ 100
              · refine xi_cmt (pc' := 44) kc_103_34 rfl (xc_le_t (X := a6.toInt) (Y := 100) rfl (by decide) (by omega)) ?_
                refine xi_aload_n (pc' := 45) (x := 0) kc_103_44 rfl rfl ?_
                refine xi_getfield (pc' := 48) (v := .ref 66) kc_103_45 rfl rfl rfl A325 rfl ?_
                obtain ⟨u453, wl452, bu453, A454⟩ := xq_66 K.1
                refine xi_virtual (mj := 91) (as := []) (st1 := []) (lv0 := [(0, .ref 66)]) kc_103_48 rfl rfl rfl rfl rfl A454 (Nat.le_of_ble_eq_true rfl) (hJ _ _ _ _ (by decide)) (xm_le ml_91 rfl) rfl ?_
                refine xi_aload_n (pc' := 1) (x := 66) kc_91_0 rfl rfl ?_
                refine xi_lconst (pc' := 2) (v := 0) kc_91_1 rfl rfl ?_
                refine xi_putfield (pc' := 5) (fs' := [.ref 1, .ref 67, .ref 70, .ref 71, .ref 72, .ref 73, .ref 74, .long 0, .int u453]) kc_91_2 rfl rfl rfl A454 rfl rfl rfl (Nat.le_of_ble_eq_true rfl) rfl (fun hh456 eh455 => ?_)
                have K457 := xk_pl (k := 7) (v := 0) K (xk_wf rfl) xD_66 A454 rfl eh455 rfl
                refine xi_return kc_91_5 mr_91 ?_
                show xw J ov 99 103 (51, [(0, .ref 0), (1, .int a2), (2, .int a4), (3, .int a6), (4, .int 1)], [], hh456) _
                refine xi_aload_n (pc' := 52) (x := 0) kc_103_51 rfl rfl ?_
                have A458 := ((eh455.2.1 0 (by decide)).trans A325)
                refine xi_getfield (pc' := 55) (v := .ref 1) kc_103_52 rfl rfl rfl A458 rfl ?_
                obtain ⟨u459, u460, bu459, bu460, A461⟩ := xq_1 K.1
                have A462 := ((eh455.2.1 1 (by decide)).trans A461)
                refine xi_getfield (pc' := 58) (v := .ref 3) kc_103_55 rfl rfl rfl A462 rfl ?_
                refine xi_iload_n (pc' := 59) (x := a2) kc_103_58 rfl rfl ?_
                have A463 := xk_ex K.1 xD_3
                obtain ⟨pt464, ept464, mpt464⟩ := xR_3 (i := a2) (by omega) (by omega)
                have A465 := ((eh455.2.1 3 (by decide)).trans A463)
                refine xj_aaload (pc' := 60) (b := pt464) kc_103_59 rfl A465 rfl (xi_in (n := 12) (by omega) (by omega)) ept464 ?_
                refine xi_astore (pc' := 62) (lv' := [(5, .ref pt464), (0, .ref 0), (1, .int a2), (2, .int a4), (3, .int a6), (4, .int 1)]) kc_103_60 rfl rfl (xm_lt ml_103 rfl) ?_
                refine xi_aload (pc' := 64) (x := pt464) kc_103_62 rfl rfl ?_
                obtain ⟨u466, u467, u468, u469, pt470, bu466, bu467, bu468, bu469, mpt470, A471⟩ := xg_wall K.1 mpt464
                obtain ⟨y472, A472, hy472, ry472⟩ := xk_arr K.1 xD_125
                have HG473 : y472.getD (Int32.toNatClampNeg a2) 0 = u466 := xGR_ld (Lo := [some 29, some 31, some 33, some 35, some 37, some 39, some 41, some 43, some 45, some 47, some 49, some 51]) I rfl ept464 (by omega) (by show _ < ((12 : Nat) : Int); omega) A471 rfl A472
                have bHG473 : (-9) ≤ u466.toInt ∧ u466.toInt ≤ 5 := by rw [← HG473]; exact ry472 _ (xj_nat (n := 12) (by omega) (by omega))
                have A474 := ((eh455.2.1 pt464 (Ne.symm (xk_nc mpt464 rfl))).trans A471)
                refine xi_virtual (mj := 105) (as := []) (st1 := []) (lv0 := [(0, .ref pt464)]) kc_103_64 rfl rfl rfl rfl rfl A474 (Nat.le_of_ble_eq_true rfl) (hJ _ _ _ _ (by decide)) (xm_le ml_105 rfl) rfl ?_
                refine xi_aload_n (pc' := 1) (x := pt464) kc_105_0 rfl rfl ?_
                refine xi_getfield (pc' := 4) (v := .int u466) kc_105_1 rfl rfl rfl A474 rfl ?_
                refine xi_static (mj := 89) (as := [.int u466]) (st1 := []) (lv0 := [(0, .int u466)]) kc_105_4 rfl rfl (Nat.le_of_ble_eq_true rfl) rfl rfl (Nat.le_of_ble_eq_true rfl) (hJ _ _ _ _ (by decide)) (xm_le ml_89 rfl) rfl ?_
                refine xi_iload_n (pc' := 1) (x := u466) kc_89_0 rfl rfl ?_
                by_cases c475 : u466.toInt < 0
                · refine xi_ift (pc' := 14) kc_89_1 rfl (xc_lt_t (X := u466.toInt) (Y := 0) rfl (by decide) (by omega)) ?_
                  refine xi_iconst (pc' := 15) (v := 0) kc_89_14 rfl rfl ?_
                  refine xi_ireturn kc_89_15 mr_89 rfl ?_
                  show xw J ov 98 105 (7, [(0, .ref pt464)], [.int 0], hh456) _
                  refine xi_ireturn kc_105_7 mr_105 rfl ?_
                  show xw J ov 99 103 (67, [(5, .ref pt464), (0, .ref 0), (1, .int a2), (2, .int a4), (3, .int a6), (4, .int 1)], [.int 0], hh456) _
                  refine xi_ift (pc' := 74) kc_103_67 rfl rfl ?_
                  refine xi_iconst (pc' := 75) (v := 1) kc_103_74 rfl rfl ?_
                  refine xi_istore (pc' := 77) (lv' := [(6, .int 1), (5, .ref pt464), (0, .ref 0), (1, .int a2), (2, .int a4), (3, .int a6), (4, .int 1)]) kc_103_75 rfl rfl (xm_lt ml_103 rfl) ?_
                  refine xi_aload (pc' := 79) (x := pt464) kc_103_77 rfl rfl ?_
                  refine xi_iload_n (pc' := 80) (x := a4) kc_103_79 rfl rfl ?_
                  refine xi_putfield (pc' := 83) (fs' := [.int a4, .int u467, .int u468, .int u469, .ref pt470]) kc_103_80 rfl rfl rfl A474 rfl rfl rfl (Nat.le_of_ble_eq_true rfl) rfl (fun hh477 eh476 => ?_)
                  obtain ⟨ds478, Dds478, dds478_0, dds478_1, dds478_2, dds478_3⟩ := xGo_wall mpt464
                  have K479 := xk_pf (k := 0) (v := a4) K457 (xk_gf mpt464 rfl) Dds478 A474 dds478_0 (by first | omega | decide) (by first | omega | decide) eh476 rfl
                  refine xi_aload (pc' := 85) (x := pt464) kc_103_83 rfl rfl ?_
                  refine xi_iload_n (pc' := 86) (x := a6) kc_103_85 rfl rfl ?_
                  refine xi_putfield (pc' := 89) (fs' := [.int a4, .int a6, .int u468, .int u469, .ref pt470]) kc_103_86 rfl rfl rfl eh476.1 rfl rfl rfl (Nat.le_of_ble_eq_true rfl) rfl (fun hh481 eh480 => ?_)
                  obtain ⟨ds482, Dds482, dds482_0, dds482_1, dds482_2, dds482_3⟩ := xGo_wall mpt464
                  have K483 := xk_pf (k := 1) (v := a6) K479 (xk_gf mpt464 rfl) Dds482 eh476.1 dds482_1 (by first | omega | decide) (by first | omega | decide) eh480 rfl
                  refine xi_aload (pc' := 91) (x := pt464) kc_103_89 rfl rfl ?_
                  refine xi_iload (pc' := 93) (x := 1) kc_103_91 rfl rfl ?_
                  refine xi_putfield (pc' := 96) (fs' := [.int a4, .int a6, .int 1, .int u469, .ref pt470]) kc_103_93 rfl rfl rfl eh480.1 rfl rfl rfl (Nat.le_of_ble_eq_true rfl) rfl (fun hh485 eh484 => ?_)
                  obtain ⟨ds486, Dds486, dds486_0, dds486_1, dds486_2, dds486_3⟩ := xGo_wall mpt464
                  have K487 := xk_pf (k := 2) (v := 1) K483 (xk_gf mpt464 rfl) Dds486 eh480.1 dds486_2 (by first | omega | decide) (by first | omega | decide) eh484 rfl
                  refine xi_iload (pc' := 98) (x := 1) kc_103_96 rfl rfl ?_
                  refine xi_ireturn kc_103_98 mr_103 rfl ?_
                  show xw J ov 100 195 (437, [(4, .int x4), (3, .ref 167), (2, .ref 115), (1, .ref 0), (0, .ref 1000000)], [.int 1], hh485) _
                  refine xi_aload_n (pc' := 438) (x := 115) kc_195_437 rfl rfl ?_
                  refine xi_aload_n (pc' := 439) (x := 1000000) kc_195_438 rfl rfl ?_
                  refine xi_iload (pc' := 441) (x := x4) kc_195_439 rfl rfl ?_
                  refine xi_iconst (pc' := 442) (v := 1) kc_195_441 rfl rfl ?_
                  refine xi_iadd (pc' := 443) (v := v1) kc_195_442 rfl ev1 ?_
                  refine xi_ialoadO (pc' := 444) (v := a2) kc_195_443 rfl (by decide) hov0 (xi_in (by omega) (by omega)) ea2 ?_
                  refine xi_aload_n (pc' := 445) (x := 1000000) kc_195_444 rfl rfl ?_
                  refine xi_iload (pc' := 447) (x := x4) kc_195_445 rfl rfl ?_
                  refine xi_iconst (pc' := 448) (v := 2) kc_195_447 rfl rfl ?_
                  refine xi_iadd (pc' := 449) (v := v3) kc_195_448 rfl ev3 ?_
                  refine xi_ialoadO (pc' := 450) (v := a4) kc_195_449 rfl (by decide) hov0 (xi_in (by omega) (by omega)) ea4 ?_
                  refine xi_aload_n (pc' := 451) (x := 1000000) kc_195_450 rfl rfl ?_
                  refine xi_iload (pc' := 453) (x := x4) kc_195_451 rfl rfl ?_
                  refine xi_iconst (pc' := 454) (v := 3) kc_195_453 rfl rfl ?_
                  refine xi_iadd (pc' := 455) (v := v5) kc_195_454 rfl ev5 ?_
                  refine xi_ialoadO (pc' := 456) (v := a6) kc_195_455 rfl (by decide) hov0 (xi_in (by omega) (by omega)) ea6 ?_
                  refine xi_aload_n (pc' := 457) (x := 1000000) kc_195_456 rfl rfl ?_
                  refine xi_iload (pc' := 459) (x := x4) kc_195_457 rfl rfl ?_
                  refine xi_iconst (pc' := 460) (v := 4) kc_195_459 rfl rfl ?_
                  refine xi_iadd (pc' := 461) (v := v7) kc_195_460 rfl ev7 ?_
                  refine xi_ialoadO (pc' := 462) (v := a8) kc_195_461 rfl (by decide) hov0 (xi_in (by omega) (by omega)) ea8 ?_
                  refine xi_iff (pc' := 465) kc_195_462 rfl (xc_eq_f (X := a8.toInt) (Y := 0) rfl (by decide) (by omega)) ?_
                  refine xi_iconst (pc' := 466) (v := 1) kc_195_465 rfl rfl ?_
                  refine xi_goto (pc' := 470) kc_195_466 rfl ?_
                  obtain ⟨u488, u489, u490, u491, u492, u493, u494, u495, u496, u497, u498, u499, u500, bu488, bu489, bu490, bu491, bu492, bu493, bu494, bu495, bu496, bu497, bu498, bu499, bu500, A501⟩ := xq_115 K.1
                  have A502 := ((eh484.2.1 115 (xk_nc mpt464 rfl)).trans ((eh480.2.1 115 (xk_nc mpt464 rfl)).trans ((eh476.2.1 115 (xk_nc mpt464 rfl)).trans ((eh455.2.1 115 (by decide)).trans A501))))
                  refine xi_virtual (mj := 23) (as := [.int a2, .int a4, .int a6, .int 1]) (st1 := [.int 1]) (lv0 := [(0, .ref 115), (1, .int a2), (2, .int a4), (3, .int a6), (4, .int 1)]) kc_195_470 rfl rfl rfl rfl rfl A502 (Nat.le_of_ble_eq_true rfl) (hJ _ _ _ _ (by decide)) (xm_le ml_23 rfl) rfl ?_
                  refine xi_aload_n (pc' := 1) (x := 115) kc_23_0 rfl rfl ?_
                  refine xi_iconst (pc' := 2) (v := 0) kc_23_1 rfl rfl ?_
                  refine xi_putfield (pc' := 5) (fs' := [.int 0, .int u489, .ref 116, .ref 117, .ref 118, .ref 119, .ref 120, .ref 121, .ref 122, .ref 123, .ref 124, .ref 125, .ref 126, .ref 127, .ref 128, .ref 129, .int u490, .ref 130, .int u491, .ref 131, .ref 132, .ref 133, .ref 134, .int u492, .ref 135, .ref 136, .ref 137, .ref 138, .ref 139, .ref 140, .ref 141, .ref 142, .int u493, .int u494, .int u495, .ref 143, .ref 144, .ref 145, .ref 146, .ref 147, .ref 148, .int u496, .ref 149, .ref 150, .ref 151, .int u497, .ref 152, .ref 153, .ref 154, .ref 155, .ref 156, .ref 157, .ref 158, .ref 159, .int u498, .ref 160, .int u499, .ref 161, .ref 162, .ref 163, .ref 164, .int u500, .ref 165, .ref 166]) kc_23_2 rfl rfl rfl A502 rfl rfl rfl (Nat.le_of_ble_eq_true rfl) rfl (fun hh504 eh503 => ?_)
                  have K505 := xk_pf (k := 0) (v := 0) K487 (xk_wf rfl) xD_115 A502 rfl (by first | omega | decide) (by first | omega | decide) eh503 rfl
                  refine xi_iload_n (pc' := 6) (x := a2) kc_23_5 rfl rfl ?_
                  refine xi_static (mj := 24) (as := [.int a2]) (st1 := []) (lv0 := [(0, .int a2)]) kc_23_6 rfl rfl (Nat.le_of_ble_eq_true rfl) rfl rfl (Nat.le_of_ble_eq_true rfl) (hJ _ _ _ _ (by decide)) (xm_le ml_24 rfl) rfl ?_
                  refine xi_iload_n (pc' := 1) (x := a2) kc_24_0 rfl rfl ?_
                  refine xi_iconst (pc' := 2) (v := 0) kc_24_1 rfl rfl ?_
                  refine xi_bipush (pc' := 4) (v := 11) kc_24_2 rfl rfl ?_
                  refine xi_static (mj := 11) (as := [.int a2, .int 0, .int 11]) (st1 := []) (lv0 := [(0, .int a2), (1, .int 0), (2, .int 11)]) kc_24_4 rfl rfl (Nat.le_of_ble_eq_true rfl) rfl rfl (Nat.le_of_ble_eq_true rfl) (hJ _ _ _ _ (by decide)) (xm_le ml_11 rfl) rfl ?_
                  refine xi_iload_n (pc' := 1) (x := a2) kc_11_0 rfl rfl ?_
                  refine xi_iload_n (pc' := 2) (x := 0) kc_11_1 rfl rfl ?_
                  refine xi_cmf (pc' := 5) kc_11_2 rfl (xc_lt_f (X := a2.toInt) (Y := 0) rfl (by decide) (by omega)) ?_
                  refine xi_iload_n (pc' := 6) (x := a2) kc_11_5 rfl rfl ?_
                  refine xi_iload_n (pc' := 7) (x := 11) kc_11_6 rfl rfl ?_
                  refine xi_cmf (pc' := 10) kc_11_7 rfl (xc_gt_f (X := a2.toInt) (Y := 11) rfl (by decide) (by omega)) ?_
                  refine xi_iconst (pc' := 11) (v := 1) kc_11_10 rfl rfl ?_
                  refine xi_goto (pc' := 15) kc_11_11 rfl ?_
                  refine xi_ireturn kc_11_15 mr_11 rfl ?_
                  show xw J ov 98 24 (7, [(0, .int a2)], [.int 1], hh504) _
                  refine xi_ireturn kc_24_7 mr_24 rfl ?_
                  show xw J ov 99 23 (9, [(0, .ref 115), (1, .int a2), (2, .int a4), (3, .int a6), (4, .int 1)], [.int 1], hh504) _
                  refine xi_iff (pc' := 12) kc_23_9 rfl rfl ?_
                  refine xi_iload_n (pc' := 13) (x := a4) kc_23_12 rfl rfl ?_
                  refine xi_static (mj := 10) (as := [.int a4]) (st1 := []) (lv0 := [(0, .int a4)]) kc_23_13 rfl rfl (Nat.le_of_ble_eq_true rfl) rfl rfl (Nat.le_of_ble_eq_true rfl) (hJ _ _ _ _ (by decide)) (xm_le ml_10 rfl) rfl ?_
                  refine xi_iload_n (pc' := 1) (x := a4) kc_10_0 rfl rfl ?_
                  refine xi_iconst (pc' := 2) (v := 0) kc_10_1 rfl rfl ?_
                  refine xi_iconst (pc' := 3) (v := 5) kc_10_2 rfl rfl ?_
                  refine xi_static (mj := 11) (as := [.int a4, .int 0, .int 5]) (st1 := []) (lv0 := [(0, .int a4), (1, .int 0), (2, .int 5)]) kc_10_3 rfl rfl (Nat.le_of_ble_eq_true rfl) rfl rfl (Nat.le_of_ble_eq_true rfl) (hJ _ _ _ _ (by decide)) (xm_le ml_11 rfl) rfl ?_
                  refine xi_iload_n (pc' := 1) (x := a4) kc_11_0 rfl rfl ?_
                  refine xi_iload_n (pc' := 2) (x := 0) kc_11_1 rfl rfl ?_
                  refine xi_cmf (pc' := 5) kc_11_2 rfl (xc_lt_f (X := a4.toInt) (Y := 0) rfl (by decide) (by omega)) ?_
                  refine xi_iload_n (pc' := 6) (x := a4) kc_11_5 rfl rfl ?_
                  refine xi_iload_n (pc' := 7) (x := 5) kc_11_6 rfl rfl ?_
                  refine xi_cmf (pc' := 10) kc_11_7 rfl (xc_gt_f (X := a4.toInt) (Y := 5) rfl (by decide) (by omega)) ?_
                  refine xi_iconst (pc' := 11) (v := 1) kc_11_10 rfl rfl ?_
                  refine xi_goto (pc' := 15) kc_11_11 rfl ?_
                  refine xi_ireturn kc_11_15 mr_11 rfl ?_
                  show xw J ov 98 10 (6, [(0, .int a4)], [.int 1], hh504) _
                  refine xi_ireturn kc_10_6 mr_10 rfl ?_
                  show xw J ov 99 23 (16, [(0, .ref 115), (1, .int a2), (2, .int a4), (3, .int a6), (4, .int 1)], [.int 1], hh504) _
                  refine xi_ift (pc' := 25) kc_23_16 rfl rfl ?_
                  refine xi_iload_n (pc' := 26) (x := a6) kc_23_25 rfl rfl ?_
                  refine xi_ift (pc' := 36) kc_23_26 rfl (xc_ge_t (X := a6.toInt) (Y := 0) rfl (by decide) (by omega)) ?_
                  refine xi_iload_n (pc' := 37) (x := a6) kc_23_36 rfl rfl ?_
                  refine xi_bipush (pc' := 39) (v := 100) kc_23_37 rfl rfl ?_
                  refine xi_cmt (pc' := 49) kc_23_39 rfl (xc_le_t (X := a6.toInt) (Y := 100) rfl (by decide) (by omega)) ?_
                  refine xi_aload_n (pc' := 50) (x := 115) kc_23_49 rfl rfl ?_
                  refine xi_getfield (pc' := 53) (v := .ref 125) kc_23_50 rfl rfl rfl eh503.1 rfl ?_
                  refine xi_iload_n (pc' := 54) (x := a2) kc_23_53 rfl rfl ?_
                  have A506 := ((eh503.2.1 125 (by decide)).trans ((eh484.2.1 125 (xk_nc mpt464 rfl)).trans ((eh480.2.1 125 (xk_nc mpt464 rfl)).trans ((eh476.2.1 125 (xk_nc mpt464 rfl)).trans ((eh455.2.1 125 (by decide)).trans A472)))))
                  refine xi_iaload (pc' := 55) (v := u466) kc_23_54 rfl A506 (by decide) rfl (xi_in (by omega) (by rw [hy472]; omega)) HG473 ?_
                  refine xi_ift (pc' := 62) kc_23_55 rfl (xc_lt_t (X := u466.toInt) (Y := 0) rfl (by decide) (by omega)) ?_
                  refine xi_iconst (pc' := 63) (v := 0) kc_23_62 rfl rfl ?_
                  refine xi_istore (pc' := 65) (lv' := [(5, .int 0), (0, .ref 115), (1, .int a2), (2, .int a4), (3, .int a6), (4, .int 1)]) kc_23_63 rfl rfl (xm_lt ml_23 rfl) ?_
                  refine xi_aload_n (pc' := 66) (x := 115) kc_23_65 rfl rfl ?_
                  refine xi_getfield (pc' := 69) (v := .ref 125) kc_23_66 rfl rfl rfl eh503.1 rfl ?_
                  refine xi_iload_n (pc' := 70) (x := a2) kc_23_69 rfl rfl ?_
                  refine xi_iload_n (pc' := 71) (x := a4) kc_23_70 rfl rfl ?_
                  obtain ⟨y507, s507, hy507, ry507⟩ := xj_set (v := a4) hy472 ry472 a2 (by first | omega | decide) (by first | omega | decide)
                  refine xi_iastore (pc' := 72) (x' := y507) kc_23_71 rfl A506 rfl (xi_in (by omega) (by rw [hy472]; omega)) s507 (fun hh507 eh507 => ?_)
                  have K508 := xk_pa K505 (xk_wa rfl) xD_125 hy507 ry507 eh507
                  refine xi_aload_n (pc' := 73) (x := 115) kc_23_72 rfl rfl ?_
                  have A509 := ((eh507.2.1 115 (by decide)).trans eh503.1)
                  refine xi_getfield (pc' := 76) (v := .ref 126) kc_23_73 rfl rfl rfl A509 rfl ?_
                  refine xi_iload_n (pc' := 77) (x := a2) kc_23_76 rfl rfl ?_
                  refine xi_iload_n (pc' := 78) (x := a6) kc_23_77 rfl rfl ?_
                  obtain ⟨y510, A510, hy510, ry510⟩ := xk_arr K.1 xD_126
                  have A511 := ((eh507.2.1 126 (by decide)).trans ((eh503.2.1 126 (by decide)).trans ((eh484.2.1 126 (xk_nc mpt464 rfl)).trans ((eh480.2.1 126 (xk_nc mpt464 rfl)).trans ((eh476.2.1 126 (xk_nc mpt464 rfl)).trans ((eh455.2.1 126 (by decide)).trans A510))))))
                  obtain ⟨y512, s512, hy512, ry512⟩ := xj_set (v := a6) hy510 ry510 a2 (by first | omega | decide) (by first | omega | decide)
                  refine xi_iastore (pc' := 79) (x' := y512) kc_23_78 rfl A511 rfl (xi_in (by omega) (by rw [hy510]; omega)) s512 (fun hh512 eh512 => ?_)
                  have K513 := xk_pa K508 (xk_wa rfl) xD_126 hy512 ry512 eh512
                  refine xi_aload_n (pc' := 80) (x := 115) kc_23_79 rfl rfl ?_
                  have A514 := ((eh512.2.1 115 (by decide)).trans A509)
                  refine xi_getfield (pc' := 83) (v := .ref 127) kc_23_80 rfl rfl rfl A514 rfl ?_
                  refine xi_iload_n (pc' := 84) (x := a2) kc_23_83 rfl rfl ?_
                  refine xi_iload (pc' := 86) (x := 1) kc_23_84 rfl rfl ?_
                  obtain ⟨y515, A515, hy515, ry515⟩ := xk_arr K.1 xD_127
                  have A516 := ((eh512.2.1 127 (by decide)).trans ((eh507.2.1 127 (by decide)).trans ((eh503.2.1 127 (by decide)).trans ((eh484.2.1 127 (xk_nc mpt464 rfl)).trans ((eh480.2.1 127 (xk_nc mpt464 rfl)).trans ((eh476.2.1 127 (xk_nc mpt464 rfl)).trans ((eh455.2.1 127 (by decide)).trans A515)))))))
                  obtain ⟨y517, s517, hy517, ry517⟩ := xj_set (v := 1) hy515 ry515 a2 (by first | omega | decide) (by first | omega | decide)
                  refine xi_bastore (pc' := 87) (x' := y517) kc_23_86 rfl A516 rfl (xi_in (by omega) (by rw [hy515]; omega)) s517 (fun hh517 eh517 => ?_)
                  have K518 := xk_pa K513 (xk_wa rfl) xD_127 hy517 ry517 eh517
                  refine xi_aload_n (pc' := 88) (x := 115) kc_23_87 rfl rfl ?_
                  refine xi_iconst (pc' := 89) (v := 0) kc_23_88 rfl rfl ?_
                  have A519 := ((eh517.2.1 115 (by decide)).trans A514)
                  refine xi_putfield (pc' := 92) (fs' := [.int 0, .int u489, .ref 116, .ref 117, .ref 118, .ref 119, .ref 120, .ref 121, .ref 122, .ref 123, .ref 124, .ref 125, .ref 126, .ref 127, .ref 128, .ref 129, .int u490, .ref 130, .int u491, .ref 131, .ref 132, .ref 133, .ref 134, .int u492, .ref 135, .ref 136, .ref 137, .ref 138, .ref 139, .ref 140, .ref 141, .ref 142, .int u493, .int u494, .int u495, .ref 143, .ref 144, .ref 145, .ref 146, .ref 147, .ref 148, .int 0, .ref 149, .ref 150, .ref 151, .int u497, .ref 152, .ref 153, .ref 154, .ref 155, .ref 156, .ref 157, .ref 158, .ref 159, .int u498, .ref 160, .int u499, .ref 161, .ref 162, .ref 163, .ref 164, .int u500, .ref 165, .ref 166]) kc_23_89 rfl rfl rfl A519 rfl rfl rfl (Nat.le_of_ble_eq_true rfl) rfl (fun hh521 eh520 => ?_)
                  have K522 := xk_pf (k := 41) (v := 0) K518 (xk_wf rfl) xD_115 A519 rfl (by first | omega | decide) (by first | omega | decide) eh520 rfl
                  refine xi_iload (pc' := 94) (x := 0) kc_23_92 rfl rfl ?_
                  refine xi_ift (pc' := 101) kc_23_94 rfl rfl ?_
                  refine xi_iconst (pc' := 102) (v := 1) kc_23_101 rfl rfl ?_
                  refine xi_ireturn kc_23_102 mr_23 rfl ?_
                  show xw J ov 100 195 (473, [(4, .int x4), (3, .ref 167), (2, .ref 115), (1, .ref 0), (0, .ref 1000000)], [.int 1, .int 1], hh521) _
                  refine xi_cmt (pc' := 1501) kc_195_473 rfl rfl ?_
                  obtain ⟨v523, ev523⟩ : ∃ q : Int32, x4 + 6 = q := ⟨_, rfl⟩
                  have zv523 : v523.toInt = (x4.toInt + 6) := by rw [← ev523]; exact (xz_add (X := x4.toInt) (Y := 6) rfl (by decide) (by omega) (by omega)).trans (by omega)
                  refine xi_iinc (pc' := 1504) (x := x4) (v := v523) (lv' := [(4, .int v523), (3, .ref 167), (2, .ref 115), (1, .ref 0), (0, .ref 1000000)]) kc_195_1501 rfl rfl ev523 rfl (xm_lt ml_195 rfl) ?_
                  refine xi_goto (pc' := 23) kc_195_1504 rfl ?_
                  have A524 := ((eh520.2.1 pt464 (Ne.symm (xk_nc mpt464 rfl))).trans ((eh517.2.1 pt464 (Ne.symm (xk_nc mpt464 rfl))).trans ((eh512.2.1 pt464 (Ne.symm (xk_nc mpt464 rfl))).trans ((eh507.2.1 pt464 (Ne.symm (xk_nc mpt464 rfl))).trans ((eh503.2.1 pt464 (Ne.symm (xk_nc mpt464 rfl))).trans eh484.1)))))
                  have A525 := ((eh520.2.1 125 (by decide)).trans ((eh517.2.1 125 (by decide)).trans ((eh512.2.1 125 (by decide)).trans eh507.1)))
                  exact kk v523 hh521 (by omega) K522 (xGR_set (Lo := [some 29, some 31, some 33, some 35, some 37, some 39, some 41, some 43, some 45, some 47, some 49, some 51]) I (by decide) rfl ept464 (by omega) (by show _ < ((12 : Nat) : Int); omega) A472 (by rw [hy472]; decide) A524 rfl A525 s507 (fun c hc hne => ((eh520.2.1 c (Ne.symm (xk_nc hc rfl))).trans ((eh517.2.1 c (Ne.symm (xk_nc hc rfl))).trans ((eh512.2.1 c (Ne.symm (xk_nc hc rfl))).trans ((eh507.2.1 c (Ne.symm (xk_nc hc rfl))).trans ((eh503.2.1 c (Ne.symm (xk_nc hc rfl))).trans ((eh484.2.1 c hne).trans ((eh480.2.1 c hne).trans ((eh476.2.1 c hne).trans (eh455.2.1 c (Ne.symm (xk_nc hc rfl)))))))))))))
                · refine xi_iff (pc' := 4) kc_89_1 rfl (xc_lt_f (X := u466.toInt) (Y := 0) rfl (by decide) (by omega)) ?_
                  refine xi_iload_n (pc' := 5) (x := u466) kc_89_4 rfl rfl ?_
                  refine xi_bipush (pc' := 7) (v := 6) kc_89_5 rfl rfl ?_
                  refine xi_cmf (pc' := 10) kc_89_7 rfl (xc_ge_f (X := u466.toInt) (Y := 6) rfl (by decide) (by omega)) ?_
                  refine xi_iconst (pc' := 11) (v := 1) kc_89_10 rfl rfl ?_
                  refine xi_goto (pc' := 15) kc_89_11 rfl ?_
                  refine xi_ireturn kc_89_15 mr_89 rfl ?_
                  show xw J ov 98 105 (7, [(0, .ref pt464)], [.int 1], hh456) _
                  refine xi_ireturn kc_105_7 mr_105 rfl ?_
                  show xw J ov 99 103 (67, [(5, .ref pt464), (0, .ref 0), (1, .int a2), (2, .int a4), (3, .int a6), (4, .int 1)], [.int 1], hh456) _
                  refine xi_iff (pc' := 70) kc_103_67 rfl rfl ?_
                  refine xi_iconst (pc' := 71) (v := 0) kc_103_70 rfl rfl ?_
                  refine xi_goto (pc' := 75) kc_103_71 rfl ?_
                  refine xi_istore (pc' := 77) (lv' := [(6, .int 0), (5, .ref pt464), (0, .ref 0), (1, .int a2), (2, .int a4), (3, .int a6), (4, .int 1)]) kc_103_75 rfl rfl (xm_lt ml_103 rfl) ?_
                  refine xi_aload (pc' := 79) (x := pt464) kc_103_77 rfl rfl ?_
                  refine xi_iload_n (pc' := 80) (x := a4) kc_103_79 rfl rfl ?_
                  refine xi_putfield (pc' := 83) (fs' := [.int a4, .int u467, .int u468, .int u469, .ref pt470]) kc_103_80 rfl rfl rfl A474 rfl rfl rfl (Nat.le_of_ble_eq_true rfl) rfl (fun hh527 eh526 => ?_)
                  obtain ⟨ds528, Dds528, dds528_0, dds528_1, dds528_2, dds528_3⟩ := xGo_wall mpt464
                  have K529 := xk_pf (k := 0) (v := a4) K457 (xk_gf mpt464 rfl) Dds528 A474 dds528_0 (by first | omega | decide) (by first | omega | decide) eh526 rfl
                  refine xi_aload (pc' := 85) (x := pt464) kc_103_83 rfl rfl ?_
                  refine xi_iload_n (pc' := 86) (x := a6) kc_103_85 rfl rfl ?_
                  refine xi_putfield (pc' := 89) (fs' := [.int a4, .int a6, .int u468, .int u469, .ref pt470]) kc_103_86 rfl rfl rfl eh526.1 rfl rfl rfl (Nat.le_of_ble_eq_true rfl) rfl (fun hh531 eh530 => ?_)
                  obtain ⟨ds532, Dds532, dds532_0, dds532_1, dds532_2, dds532_3⟩ := xGo_wall mpt464
                  have K533 := xk_pf (k := 1) (v := a6) K529 (xk_gf mpt464 rfl) Dds532 eh526.1 dds532_1 (by first | omega | decide) (by first | omega | decide) eh530 rfl
                  refine xi_aload (pc' := 91) (x := pt464) kc_103_89 rfl rfl ?_
                  refine xi_iload (pc' := 93) (x := 1) kc_103_91 rfl rfl ?_
                  refine xi_putfield (pc' := 96) (fs' := [.int a4, .int a6, .int 1, .int u469, .ref pt470]) kc_103_93 rfl rfl rfl eh530.1 rfl rfl rfl (Nat.le_of_ble_eq_true rfl) rfl (fun hh535 eh534 => ?_)
                  obtain ⟨ds536, Dds536, dds536_0, dds536_1, dds536_2, dds536_3⟩ := xGo_wall mpt464
                  have K537 := xk_pf (k := 2) (v := 1) K533 (xk_gf mpt464 rfl) Dds536 eh530.1 dds536_2 (by first | omega | decide) (by first | omega | decide) eh534 rfl
                  refine xi_iload (pc' := 98) (x := 0) kc_103_96 rfl rfl ?_
                  refine xi_ireturn kc_103_98 mr_103 rfl ?_
                  show xw J ov 100 195 (437, [(4, .int x4), (3, .ref 167), (2, .ref 115), (1, .ref 0), (0, .ref 1000000)], [.int 0], hh535) _
                  refine xi_aload_n (pc' := 438) (x := 115) kc_195_437 rfl rfl ?_
                  refine xi_aload_n (pc' := 439) (x := 1000000) kc_195_438 rfl rfl ?_
                  refine xi_iload (pc' := 441) (x := x4) kc_195_439 rfl rfl ?_
                  refine xi_iconst (pc' := 442) (v := 1) kc_195_441 rfl rfl ?_
                  refine xi_iadd (pc' := 443) (v := v1) kc_195_442 rfl ev1 ?_
                  refine xi_ialoadO (pc' := 444) (v := a2) kc_195_443 rfl (by decide) hov0 (xi_in (by omega) (by omega)) ea2 ?_
                  refine xi_aload_n (pc' := 445) (x := 1000000) kc_195_444 rfl rfl ?_
                  refine xi_iload (pc' := 447) (x := x4) kc_195_445 rfl rfl ?_
                  refine xi_iconst (pc' := 448) (v := 2) kc_195_447 rfl rfl ?_
                  refine xi_iadd (pc' := 449) (v := v3) kc_195_448 rfl ev3 ?_
                  refine xi_ialoadO (pc' := 450) (v := a4) kc_195_449 rfl (by decide) hov0 (xi_in (by omega) (by omega)) ea4 ?_
                  refine xi_aload_n (pc' := 451) (x := 1000000) kc_195_450 rfl rfl ?_
                  refine xi_iload (pc' := 453) (x := x4) kc_195_451 rfl rfl ?_
                  refine xi_iconst (pc' := 454) (v := 3) kc_195_453 rfl rfl ?_
                  refine xi_iadd (pc' := 455) (v := v5) kc_195_454 rfl ev5 ?_
                  refine xi_ialoadO (pc' := 456) (v := a6) kc_195_455 rfl (by decide) hov0 (xi_in (by omega) (by omega)) ea6 ?_
                  refine xi_aload_n (pc' := 457) (x := 1000000) kc_195_456 rfl rfl ?_
                  refine xi_iload (pc' := 459) (x := x4) kc_195_457 rfl rfl ?_
                  refine xi_iconst (pc' := 460) (v := 4) kc_195_459 rfl rfl ?_
                  refine xi_iadd (pc' := 461) (v := v7) kc_195_460 rfl ev7 ?_
                  refine xi_ialoadO (pc' := 462) (v := a8) kc_195_461 rfl (by decide) hov0 (xi_in (by omega) (by omega)) ea8 ?_
                  refine xi_iff (pc' := 465) kc_195_462 rfl (xc_eq_f (X := a8.toInt) (Y := 0) rfl (by decide) (by omega)) ?_
                  refine xi_iconst (pc' := 466) (v := 1) kc_195_465 rfl rfl ?_
                  refine xi_goto (pc' := 470) kc_195_466 rfl ?_
                  obtain ⟨u538, u539, u540, u541, u542, u543, u544, u545, u546, u547, u548, u549, u550, bu538, bu539, bu540, bu541, bu542, bu543, bu544, bu545, bu546, bu547, bu548, bu549, bu550, A551⟩ := xq_115 K.1
                  have A552 := ((eh534.2.1 115 (xk_nc mpt464 rfl)).trans ((eh530.2.1 115 (xk_nc mpt464 rfl)).trans ((eh526.2.1 115 (xk_nc mpt464 rfl)).trans ((eh455.2.1 115 (by decide)).trans A551))))
                  refine xi_virtual (mj := 23) (as := [.int a2, .int a4, .int a6, .int 1]) (st1 := [.int 0]) (lv0 := [(0, .ref 115), (1, .int a2), (2, .int a4), (3, .int a6), (4, .int 1)]) kc_195_470 rfl rfl rfl rfl rfl A552 (Nat.le_of_ble_eq_true rfl) (hJ _ _ _ _ (by decide)) (xm_le ml_23 rfl) rfl ?_
                  refine xi_aload_n (pc' := 1) (x := 115) kc_23_0 rfl rfl ?_
                  refine xi_iconst (pc' := 2) (v := 0) kc_23_1 rfl rfl ?_
                  refine xi_putfield (pc' := 5) (fs' := [.int 0, .int u539, .ref 116, .ref 117, .ref 118, .ref 119, .ref 120, .ref 121, .ref 122, .ref 123, .ref 124, .ref 125, .ref 126, .ref 127, .ref 128, .ref 129, .int u540, .ref 130, .int u541, .ref 131, .ref 132, .ref 133, .ref 134, .int u542, .ref 135, .ref 136, .ref 137, .ref 138, .ref 139, .ref 140, .ref 141, .ref 142, .int u543, .int u544, .int u545, .ref 143, .ref 144, .ref 145, .ref 146, .ref 147, .ref 148, .int u546, .ref 149, .ref 150, .ref 151, .int u547, .ref 152, .ref 153, .ref 154, .ref 155, .ref 156, .ref 157, .ref 158, .ref 159, .int u548, .ref 160, .int u549, .ref 161, .ref 162, .ref 163, .ref 164, .int u550, .ref 165, .ref 166]) kc_23_2 rfl rfl rfl A552 rfl rfl rfl (Nat.le_of_ble_eq_true rfl) rfl (fun hh554 eh553 => ?_)
                  have K555 := xk_pf (k := 0) (v := 0) K537 (xk_wf rfl) xD_115 A552 rfl (by first | omega | decide) (by first | omega | decide) eh553 rfl
                  refine xi_iload_n (pc' := 6) (x := a2) kc_23_5 rfl rfl ?_
                  refine xi_static (mj := 24) (as := [.int a2]) (st1 := []) (lv0 := [(0, .int a2)]) kc_23_6 rfl rfl (Nat.le_of_ble_eq_true rfl) rfl rfl (Nat.le_of_ble_eq_true rfl) (hJ _ _ _ _ (by decide)) (xm_le ml_24 rfl) rfl ?_
                  refine xi_iload_n (pc' := 1) (x := a2) kc_24_0 rfl rfl ?_
                  refine xi_iconst (pc' := 2) (v := 0) kc_24_1 rfl rfl ?_
                  refine xi_bipush (pc' := 4) (v := 11) kc_24_2 rfl rfl ?_
                  refine xi_static (mj := 11) (as := [.int a2, .int 0, .int 11]) (st1 := []) (lv0 := [(0, .int a2), (1, .int 0), (2, .int 11)]) kc_24_4 rfl rfl (Nat.le_of_ble_eq_true rfl) rfl rfl (Nat.le_of_ble_eq_true rfl) (hJ _ _ _ _ (by decide)) (xm_le ml_11 rfl) rfl ?_
                  refine xi_iload_n (pc' := 1) (x := a2) kc_11_0 rfl rfl ?_
                  refine xi_iload_n (pc' := 2) (x := 0) kc_11_1 rfl rfl ?_
                  refine xi_cmf (pc' := 5) kc_11_2 rfl (xc_lt_f (X := a2.toInt) (Y := 0) rfl (by decide) (by omega)) ?_
                  refine xi_iload_n (pc' := 6) (x := a2) kc_11_5 rfl rfl ?_
                  refine xi_iload_n (pc' := 7) (x := 11) kc_11_6 rfl rfl ?_
                  refine xi_cmf (pc' := 10) kc_11_7 rfl (xc_gt_f (X := a2.toInt) (Y := 11) rfl (by decide) (by omega)) ?_
                  refine xi_iconst (pc' := 11) (v := 1) kc_11_10 rfl rfl ?_
                  refine xi_goto (pc' := 15) kc_11_11 rfl ?_
                  refine xi_ireturn kc_11_15 mr_11 rfl ?_
                  show xw J ov 98 24 (7, [(0, .int a2)], [.int 1], hh554) _
                  refine xi_ireturn kc_24_7 mr_24 rfl ?_
                  show xw J ov 99 23 (9, [(0, .ref 115), (1, .int a2), (2, .int a4), (3, .int a6), (4, .int 1)], [.int 1], hh554) _
                  refine xi_iff (pc' := 12) kc_23_9 rfl rfl ?_
                  refine xi_iload_n (pc' := 13) (x := a4) kc_23_12 rfl rfl ?_
                  refine xi_static (mj := 10) (as := [.int a4]) (st1 := []) (lv0 := [(0, .int a4)]) kc_23_13 rfl rfl (Nat.le_of_ble_eq_true rfl) rfl rfl (Nat.le_of_ble_eq_true rfl) (hJ _ _ _ _ (by decide)) (xm_le ml_10 rfl) rfl ?_
                  refine xi_iload_n (pc' := 1) (x := a4) kc_10_0 rfl rfl ?_
                  refine xi_iconst (pc' := 2) (v := 0) kc_10_1 rfl rfl ?_
                  refine xi_iconst (pc' := 3) (v := 5) kc_10_2 rfl rfl ?_
                  refine xi_static (mj := 11) (as := [.int a4, .int 0, .int 5]) (st1 := []) (lv0 := [(0, .int a4), (1, .int 0), (2, .int 5)]) kc_10_3 rfl rfl (Nat.le_of_ble_eq_true rfl) rfl rfl (Nat.le_of_ble_eq_true rfl) (hJ _ _ _ _ (by decide)) (xm_le ml_11 rfl) rfl ?_
                  refine xi_iload_n (pc' := 1) (x := a4) kc_11_0 rfl rfl ?_
                  refine xi_iload_n (pc' := 2) (x := 0) kc_11_1 rfl rfl ?_
                  refine xi_cmf (pc' := 5) kc_11_2 rfl (xc_lt_f (X := a4.toInt) (Y := 0) rfl (by decide) (by omega)) ?_
                  refine xi_iload_n (pc' := 6) (x := a4) kc_11_5 rfl rfl ?_
                  refine xi_iload_n (pc' := 7) (x := 5) kc_11_6 rfl rfl ?_
                  refine xi_cmf (pc' := 10) kc_11_7 rfl (xc_gt_f (X := a4.toInt) (Y := 5) rfl (by decide) (by omega)) ?_
                  refine xi_iconst (pc' := 11) (v := 1) kc_11_10 rfl rfl ?_
                  refine xi_goto (pc' := 15) kc_11_11 rfl ?_
                  refine xi_ireturn kc_11_15 mr_11 rfl ?_
                  show xw J ov 98 10 (6, [(0, .int a4)], [.int 1], hh554) _
                  refine xi_ireturn kc_10_6 mr_10 rfl ?_
                  show xw J ov 99 23 (16, [(0, .ref 115), (1, .int a2), (2, .int a4), (3, .int a6), (4, .int 1)], [.int 1], hh554) _
                  refine xi_ift (pc' := 25) kc_23_16 rfl rfl ?_
                  refine xi_iload_n (pc' := 26) (x := a6) kc_23_25 rfl rfl ?_
                  refine xi_ift (pc' := 36) kc_23_26 rfl (xc_ge_t (X := a6.toInt) (Y := 0) rfl (by decide) (by omega)) ?_
                  refine xi_iload_n (pc' := 37) (x := a6) kc_23_36 rfl rfl ?_
                  refine xi_bipush (pc' := 39) (v := 100) kc_23_37 rfl rfl ?_
                  refine xi_cmt (pc' := 49) kc_23_39 rfl (xc_le_t (X := a6.toInt) (Y := 100) rfl (by decide) (by omega)) ?_
                  refine xi_aload_n (pc' := 50) (x := 115) kc_23_49 rfl rfl ?_
                  refine xi_getfield (pc' := 53) (v := .ref 125) kc_23_50 rfl rfl rfl eh553.1 rfl ?_
                  refine xi_iload_n (pc' := 54) (x := a2) kc_23_53 rfl rfl ?_
                  have A556 := ((eh553.2.1 125 (by decide)).trans ((eh534.2.1 125 (xk_nc mpt464 rfl)).trans ((eh530.2.1 125 (xk_nc mpt464 rfl)).trans ((eh526.2.1 125 (xk_nc mpt464 rfl)).trans ((eh455.2.1 125 (by decide)).trans A472)))))
                  refine xi_iaload (pc' := 55) (v := u466) kc_23_54 rfl A556 (by decide) rfl (xi_in (by omega) (by rw [hy472]; omega)) HG473 ?_
                  refine xi_iff (pc' := 58) kc_23_55 rfl (xc_lt_f (X := u466.toInt) (Y := 0) rfl (by decide) (by omega)) ?_
                  refine xi_iconst (pc' := 59) (v := 1) kc_23_58 rfl rfl ?_
                  refine xi_goto (pc' := 63) kc_23_59 rfl ?_
                  refine xi_istore (pc' := 65) (lv' := [(5, .int 1), (0, .ref 115), (1, .int a2), (2, .int a4), (3, .int a6), (4, .int 1)]) kc_23_63 rfl rfl (xm_lt ml_23 rfl) ?_
                  refine xi_aload_n (pc' := 66) (x := 115) kc_23_65 rfl rfl ?_
                  refine xi_getfield (pc' := 69) (v := .ref 125) kc_23_66 rfl rfl rfl eh553.1 rfl ?_
                  refine xi_iload_n (pc' := 70) (x := a2) kc_23_69 rfl rfl ?_
                  refine xi_iload_n (pc' := 71) (x := a4) kc_23_70 rfl rfl ?_
                  obtain ⟨y557, s557, hy557, ry557⟩ := xj_set (v := a4) hy472 ry472 a2 (by first | omega | decide) (by first | omega | decide)
                  refine xi_iastore (pc' := 72) (x' := y557) kc_23_71 rfl A556 rfl (xi_in (by omega) (by rw [hy472]; omega)) s557 (fun hh557 eh557 => ?_)
                  have K558 := xk_pa K555 (xk_wa rfl) xD_125 hy557 ry557 eh557
                  refine xi_aload_n (pc' := 73) (x := 115) kc_23_72 rfl rfl ?_
                  have A559 := ((eh557.2.1 115 (by decide)).trans eh553.1)
                  refine xi_getfield (pc' := 76) (v := .ref 126) kc_23_73 rfl rfl rfl A559 rfl ?_
                  refine xi_iload_n (pc' := 77) (x := a2) kc_23_76 rfl rfl ?_
                  refine xi_iload_n (pc' := 78) (x := a6) kc_23_77 rfl rfl ?_
                  obtain ⟨y560, A560, hy560, ry560⟩ := xk_arr K.1 xD_126
                  have A561 := ((eh557.2.1 126 (by decide)).trans ((eh553.2.1 126 (by decide)).trans ((eh534.2.1 126 (xk_nc mpt464 rfl)).trans ((eh530.2.1 126 (xk_nc mpt464 rfl)).trans ((eh526.2.1 126 (xk_nc mpt464 rfl)).trans ((eh455.2.1 126 (by decide)).trans A560))))))
                  obtain ⟨y562, s562, hy562, ry562⟩ := xj_set (v := a6) hy560 ry560 a2 (by first | omega | decide) (by first | omega | decide)
                  refine xi_iastore (pc' := 79) (x' := y562) kc_23_78 rfl A561 rfl (xi_in (by omega) (by rw [hy560]; omega)) s562 (fun hh562 eh562 => ?_)
                  have K563 := xk_pa K558 (xk_wa rfl) xD_126 hy562 ry562 eh562
                  refine xi_aload_n (pc' := 80) (x := 115) kc_23_79 rfl rfl ?_
                  have A564 := ((eh562.2.1 115 (by decide)).trans A559)
                  refine xi_getfield (pc' := 83) (v := .ref 127) kc_23_80 rfl rfl rfl A564 rfl ?_
                  refine xi_iload_n (pc' := 84) (x := a2) kc_23_83 rfl rfl ?_
                  refine xi_iload (pc' := 86) (x := 1) kc_23_84 rfl rfl ?_
                  obtain ⟨y565, A565, hy565, ry565⟩ := xk_arr K.1 xD_127
                  have A566 := ((eh562.2.1 127 (by decide)).trans ((eh557.2.1 127 (by decide)).trans ((eh553.2.1 127 (by decide)).trans ((eh534.2.1 127 (xk_nc mpt464 rfl)).trans ((eh530.2.1 127 (xk_nc mpt464 rfl)).trans ((eh526.2.1 127 (xk_nc mpt464 rfl)).trans ((eh455.2.1 127 (by decide)).trans A565)))))))
                  obtain ⟨y567, s567, hy567, ry567⟩ := xj_set (v := 1) hy565 ry565 a2 (by first | omega | decide) (by first | omega | decide)
                  refine xi_bastore (pc' := 87) (x' := y567) kc_23_86 rfl A566 rfl (xi_in (by omega) (by rw [hy565]; omega)) s567 (fun hh567 eh567 => ?_)
                  have K568 := xk_pa K563 (xk_wa rfl) xD_127 hy567 ry567 eh567
                  refine xi_aload_n (pc' := 88) (x := 115) kc_23_87 rfl rfl ?_
                  refine xi_iconst (pc' := 89) (v := 0) kc_23_88 rfl rfl ?_
                  have A569 := ((eh567.2.1 115 (by decide)).trans A564)
                  refine xi_putfield (pc' := 92) (fs' := [.int 0, .int u539, .ref 116, .ref 117, .ref 118, .ref 119, .ref 120, .ref 121, .ref 122, .ref 123, .ref 124, .ref 125, .ref 126, .ref 127, .ref 128, .ref 129, .int u540, .ref 130, .int u541, .ref 131, .ref 132, .ref 133, .ref 134, .int u542, .ref 135, .ref 136, .ref 137, .ref 138, .ref 139, .ref 140, .ref 141, .ref 142, .int u543, .int u544, .int u545, .ref 143, .ref 144, .ref 145, .ref 146, .ref 147, .ref 148, .int 0, .ref 149, .ref 150, .ref 151, .int u547, .ref 152, .ref 153, .ref 154, .ref 155, .ref 156, .ref 157, .ref 158, .ref 159, .int u548, .ref 160, .int u549, .ref 161, .ref 162, .ref 163, .ref 164, .int u550, .ref 165, .ref 166]) kc_23_89 rfl rfl rfl A569 rfl rfl rfl (Nat.le_of_ble_eq_true rfl) rfl (fun hh571 eh570 => ?_)
                  have K572 := xk_pf (k := 41) (v := 0) K568 (xk_wf rfl) xD_115 A569 rfl (by first | omega | decide) (by first | omega | decide) eh570 rfl
                  refine xi_iload (pc' := 94) (x := 1) kc_23_92 rfl rfl ?_
                  refine xi_iff (pc' := 97) kc_23_94 rfl rfl ?_
                  refine xi_iconst (pc' := 98) (v := 0) kc_23_97 rfl rfl ?_
                  refine xi_goto (pc' := 102) kc_23_98 rfl ?_
                  refine xi_ireturn kc_23_102 mr_23 rfl ?_
                  show xw J ov 100 195 (473, [(4, .int x4), (3, .ref 167), (2, .ref 115), (1, .ref 0), (0, .ref 1000000)], [.int 0, .int 0], hh571) _
                  refine xi_cmt (pc' := 1501) kc_195_473 rfl rfl ?_
                  obtain ⟨v573, ev573⟩ : ∃ q : Int32, x4 + 6 = q := ⟨_, rfl⟩
                  have zv573 : v573.toInt = (x4.toInt + 6) := by rw [← ev573]; exact (xz_add (X := x4.toInt) (Y := 6) rfl (by decide) (by omega) (by omega)).trans (by omega)
                  refine xi_iinc (pc' := 1504) (x := x4) (v := v573) (lv' := [(4, .int v573), (3, .ref 167), (2, .ref 115), (1, .ref 0), (0, .ref 1000000)]) kc_195_1501 rfl rfl ev573 rfl (xm_lt ml_195 rfl) ?_
                  refine xi_goto (pc' := 23) kc_195_1504 rfl ?_
                  have A574 := ((eh570.2.1 pt464 (Ne.symm (xk_nc mpt464 rfl))).trans ((eh567.2.1 pt464 (Ne.symm (xk_nc mpt464 rfl))).trans ((eh562.2.1 pt464 (Ne.symm (xk_nc mpt464 rfl))).trans ((eh557.2.1 pt464 (Ne.symm (xk_nc mpt464 rfl))).trans ((eh553.2.1 pt464 (Ne.symm (xk_nc mpt464 rfl))).trans eh534.1)))))
                  have A575 := ((eh570.2.1 125 (by decide)).trans ((eh567.2.1 125 (by decide)).trans ((eh562.2.1 125 (by decide)).trans eh557.1)))
                  exact kk v573 hh571 (by omega) K572 (xGR_set (Lo := [some 29, some 31, some 33, some 35, some 37, some 39, some 41, some 43, some 45, some 47, some 49, some 51]) I (by decide) rfl ept464 (by omega) (by show _ < ((12 : Nat) : Int); omega) A472 (by rw [hy472]; decide) A574 rfl A575 s557 (fun c hc hne => ((eh570.2.1 c (Ne.symm (xk_nc hc rfl))).trans ((eh567.2.1 c (Ne.symm (xk_nc hc rfl))).trans ((eh562.2.1 c (Ne.symm (xk_nc hc rfl))).trans ((eh557.2.1 c (Ne.symm (xk_nc hc rfl))).trans ((eh553.2.1 c (Ne.symm (xk_nc hc rfl))).trans ((eh534.2.1 c hne).trans ((eh530.2.1 c hne).trans ((eh526.2.1 c hne).trans (eh455.2.1 c (Ne.symm (xk_nc hc rfl)))))))))))))
              · refine xi_cmf (pc' := 37) kc_103_34 rfl (xc_le_f (X := a6.toInt) (Y := 100) rfl (by decide) (by omega)) ?_
                refine xi_aload_n (pc' := 38) (x := 0) kc_103_37 rfl rfl ?_
                refine xi_bipush (pc' := 40) (v := (-6)) kc_103_38 rfl rfl ?_
                refine xi_virtual (mj := 90) (as := [.int (-6)]) (st1 := []) (lv0 := [(0, .ref 0), (1, .int (-6))]) kc_103_40 rfl rfl rfl rfl rfl A325 (Nat.le_of_ble_eq_true rfl) (hJ _ _ _ _ (by decide)) (xm_le ml_90 rfl) rfl ?_
                refine xi_iload_n (pc' := 1) (x := (-6)) kc_90_0 rfl rfl ?_
                refine xi_ineg (pc' := 2) (v := 6) kc_90_1 rfl rfl ?_
                refine xi_istore_n (pc' := 3) (lv' := [(2, .int 6), (0, .ref 0), (1, .int (-6))]) kc_90_2 rfl rfl (xm_lt ml_90 rfl) ?_
                refine xi_iload_n (pc' := 4) (x := 6) kc_90_3 rfl rfl ?_
                refine xi_iff (pc' := 7) kc_90_4 rfl rfl ?_
                refine xi_iload_n (pc' := 8) (x := 6) kc_90_7 rfl rfl ?_
                refine xi_aload_n (pc' := 9) (x := 0) kc_90_8 rfl rfl ?_
                refine xi_getfield (pc' := 12) (v := .ref 94) kc_90_9 rfl rfl rfl A325 rfl ?_
                obtain ⟨y576, A576, hy576, ry576⟩ := xk_arr K.1 xD_94
                refine xi_arraylength (pc' := 13) (n := 7) (v := 7) kc_90_12 rfl (xl_lenI (by decide) (by decide) A576 hy576) rfl ?_
                refine xi_cmf (pc' := 16) kc_90_13 rfl rfl ?_
                refine xi_aload_n (pc' := 17) (x := 0) kc_90_16 rfl rfl ?_
                refine xi_getfield (pc' := 20) (v := .ref 94) kc_90_17 rfl rfl rfl A325 rfl ?_
                refine xi_iload_n (pc' := 21) (x := 6) kc_90_20 rfl rfl ?_
                refine xi_dup2 (pc' := 22) kc_90_21 rfl ⟨rfl, rfl⟩ ?_
                obtain ⟨v577, ev577, bv577, dv577⟩ := xj_get hy576 ry576 (i := 6) (by decide) (by decide)
                refine xi_iaload (pc' := 23) (v := v577) kc_90_22 rfl A576 (by decide) rfl (xi_in (by decide) (by rw [hy576]; decide)) ev577 ?_
                refine xi_iconst (pc' := 24) (v := 1) kc_90_23 rfl rfl ?_
                obtain ⟨v578, ev578⟩ : ∃ q : Int32, (v577 : Int32) + 1 = q := ⟨_, rfl⟩
                have rv578 := xc_rng v578
                refine xi_iadd (pc' := 25) (v := v578) kc_90_24 rfl ev578 ?_
                obtain ⟨y579, s579, hy579, ry579⟩ := xj_set (v := v578) hy576 ry576 6 (by first | omega | decide) (by first | omega | decide)
                refine xi_iastore (pc' := 26) (x' := y579) kc_90_25 rfl A576 rfl (xi_in (by decide) (by rw [hy576]; decide)) s579 (fun hh579 eh579 => ?_)
                have K580 := xk_pa K (xk_wa rfl) xD_94 hy579 ry579 eh579
                refine xi_iload_n (pc' := 27) (x := (-6)) kc_90_26 rfl rfl ?_
                refine xi_ireturn kc_90_27 mr_90 rfl ?_
                show xw J ov 99 103 (43, [(0, .ref 0), (1, .int a2), (2, .int a4), (3, .int a6), (4, .int 1)], [.int (-6)], hh579) _
                refine xi_ireturn kc_103_43 mr_103 rfl ?_
                show xw J ov 100 195 (437, [(4, .int x4), (3, .ref 167), (2, .ref 115), (1, .ref 0), (0, .ref 1000000)], [.int (-6)], hh579) _
                refine xi_aload_n (pc' := 438) (x := 115) kc_195_437 rfl rfl ?_
                refine xi_aload_n (pc' := 439) (x := 1000000) kc_195_438 rfl rfl ?_
                refine xi_iload (pc' := 441) (x := x4) kc_195_439 rfl rfl ?_
                refine xi_iconst (pc' := 442) (v := 1) kc_195_441 rfl rfl ?_
                refine xi_iadd (pc' := 443) (v := v1) kc_195_442 rfl ev1 ?_
                refine xi_ialoadO (pc' := 444) (v := a2) kc_195_443 rfl (by decide) hov0 (xi_in (by omega) (by omega)) ea2 ?_
                refine xi_aload_n (pc' := 445) (x := 1000000) kc_195_444 rfl rfl ?_
                refine xi_iload (pc' := 447) (x := x4) kc_195_445 rfl rfl ?_
                refine xi_iconst (pc' := 448) (v := 2) kc_195_447 rfl rfl ?_
                refine xi_iadd (pc' := 449) (v := v3) kc_195_448 rfl ev3 ?_
                refine xi_ialoadO (pc' := 450) (v := a4) kc_195_449 rfl (by decide) hov0 (xi_in (by omega) (by omega)) ea4 ?_
                refine xi_aload_n (pc' := 451) (x := 1000000) kc_195_450 rfl rfl ?_
                refine xi_iload (pc' := 453) (x := x4) kc_195_451 rfl rfl ?_
                refine xi_iconst (pc' := 454) (v := 3) kc_195_453 rfl rfl ?_
                refine xi_iadd (pc' := 455) (v := v5) kc_195_454 rfl ev5 ?_
                refine xi_ialoadO (pc' := 456) (v := a6) kc_195_455 rfl (by decide) hov0 (xi_in (by omega) (by omega)) ea6 ?_
                refine xi_aload_n (pc' := 457) (x := 1000000) kc_195_456 rfl rfl ?_
                refine xi_iload (pc' := 459) (x := x4) kc_195_457 rfl rfl ?_
                refine xi_iconst (pc' := 460) (v := 4) kc_195_459 rfl rfl ?_
                refine xi_iadd (pc' := 461) (v := v7) kc_195_460 rfl ev7 ?_
                refine xi_ialoadO (pc' := 462) (v := a8) kc_195_461 rfl (by decide) hov0 (xi_in (by omega) (by omega)) ea8 ?_
                refine xi_iff (pc' := 465) kc_195_462 rfl (xc_eq_f (X := a8.toInt) (Y := 0) rfl (by decide) (by omega)) ?_
                refine xi_iconst (pc' := 466) (v := 1) kc_195_465 rfl rfl ?_
                refine xi_goto (pc' := 470) kc_195_466 rfl ?_
                obtain ⟨u581, u582, u583, u584, u585, u586, u587, u588, u589, u590, u591, u592, u593, bu581, bu582, bu583, bu584, bu585, bu586, bu587, bu588, bu589, bu590, bu591, bu592, bu593, A594⟩ := xq_115 K.1
                have A595 := ((eh579.2.1 115 (by decide)).trans A594)
                refine xi_virtual (mj := 23) (as := [.int a2, .int a4, .int a6, .int 1]) (st1 := [.int (-6)]) (lv0 := [(0, .ref 115), (1, .int a2), (2, .int a4), (3, .int a6), (4, .int 1)]) kc_195_470 rfl rfl rfl rfl rfl A595 (Nat.le_of_ble_eq_true rfl) (hJ _ _ _ _ (by decide)) (xm_le ml_23 rfl) rfl ?_
                refine xi_aload_n (pc' := 1) (x := 115) kc_23_0 rfl rfl ?_
                refine xi_iconst (pc' := 2) (v := 0) kc_23_1 rfl rfl ?_
                refine xi_putfield (pc' := 5) (fs' := [.int 0, .int u582, .ref 116, .ref 117, .ref 118, .ref 119, .ref 120, .ref 121, .ref 122, .ref 123, .ref 124, .ref 125, .ref 126, .ref 127, .ref 128, .ref 129, .int u583, .ref 130, .int u584, .ref 131, .ref 132, .ref 133, .ref 134, .int u585, .ref 135, .ref 136, .ref 137, .ref 138, .ref 139, .ref 140, .ref 141, .ref 142, .int u586, .int u587, .int u588, .ref 143, .ref 144, .ref 145, .ref 146, .ref 147, .ref 148, .int u589, .ref 149, .ref 150, .ref 151, .int u590, .ref 152, .ref 153, .ref 154, .ref 155, .ref 156, .ref 157, .ref 158, .ref 159, .int u591, .ref 160, .int u592, .ref 161, .ref 162, .ref 163, .ref 164, .int u593, .ref 165, .ref 166]) kc_23_2 rfl rfl rfl A595 rfl rfl rfl (Nat.le_of_ble_eq_true rfl) rfl (fun hh597 eh596 => ?_)
                have K598 := xk_pf (k := 0) (v := 0) K580 (xk_wf rfl) xD_115 A595 rfl (by first | omega | decide) (by first | omega | decide) eh596 rfl
                refine xi_iload_n (pc' := 6) (x := a2) kc_23_5 rfl rfl ?_
                refine xi_static (mj := 24) (as := [.int a2]) (st1 := []) (lv0 := [(0, .int a2)]) kc_23_6 rfl rfl (Nat.le_of_ble_eq_true rfl) rfl rfl (Nat.le_of_ble_eq_true rfl) (hJ _ _ _ _ (by decide)) (xm_le ml_24 rfl) rfl ?_
                refine xi_iload_n (pc' := 1) (x := a2) kc_24_0 rfl rfl ?_
                refine xi_iconst (pc' := 2) (v := 0) kc_24_1 rfl rfl ?_
                refine xi_bipush (pc' := 4) (v := 11) kc_24_2 rfl rfl ?_
                refine xi_static (mj := 11) (as := [.int a2, .int 0, .int 11]) (st1 := []) (lv0 := [(0, .int a2), (1, .int 0), (2, .int 11)]) kc_24_4 rfl rfl (Nat.le_of_ble_eq_true rfl) rfl rfl (Nat.le_of_ble_eq_true rfl) (hJ _ _ _ _ (by decide)) (xm_le ml_11 rfl) rfl ?_
                refine xi_iload_n (pc' := 1) (x := a2) kc_11_0 rfl rfl ?_
                refine xi_iload_n (pc' := 2) (x := 0) kc_11_1 rfl rfl ?_
                refine xi_cmf (pc' := 5) kc_11_2 rfl (xc_lt_f (X := a2.toInt) (Y := 0) rfl (by decide) (by omega)) ?_
                refine xi_iload_n (pc' := 6) (x := a2) kc_11_5 rfl rfl ?_
                refine xi_iload_n (pc' := 7) (x := 11) kc_11_6 rfl rfl ?_
                refine xi_cmf (pc' := 10) kc_11_7 rfl (xc_gt_f (X := a2.toInt) (Y := 11) rfl (by decide) (by omega)) ?_
                refine xi_iconst (pc' := 11) (v := 1) kc_11_10 rfl rfl ?_
                refine xi_goto (pc' := 15) kc_11_11 rfl ?_
                refine xi_ireturn kc_11_15 mr_11 rfl ?_
                show xw J ov 98 24 (7, [(0, .int a2)], [.int 1], hh597) _
                refine xi_ireturn kc_24_7 mr_24 rfl ?_
                show xw J ov 99 23 (9, [(0, .ref 115), (1, .int a2), (2, .int a4), (3, .int a6), (4, .int 1)], [.int 1], hh597) _
                refine xi_iff (pc' := 12) kc_23_9 rfl rfl ?_
                refine xi_iload_n (pc' := 13) (x := a4) kc_23_12 rfl rfl ?_
                refine xi_static (mj := 10) (as := [.int a4]) (st1 := []) (lv0 := [(0, .int a4)]) kc_23_13 rfl rfl (Nat.le_of_ble_eq_true rfl) rfl rfl (Nat.le_of_ble_eq_true rfl) (hJ _ _ _ _ (by decide)) (xm_le ml_10 rfl) rfl ?_
                refine xi_iload_n (pc' := 1) (x := a4) kc_10_0 rfl rfl ?_
                refine xi_iconst (pc' := 2) (v := 0) kc_10_1 rfl rfl ?_
                refine xi_iconst (pc' := 3) (v := 5) kc_10_2 rfl rfl ?_
                refine xi_static (mj := 11) (as := [.int a4, .int 0, .int 5]) (st1 := []) (lv0 := [(0, .int a4), (1, .int 0), (2, .int 5)]) kc_10_3 rfl rfl (Nat.le_of_ble_eq_true rfl) rfl rfl (Nat.le_of_ble_eq_true rfl) (hJ _ _ _ _ (by decide)) (xm_le ml_11 rfl) rfl ?_
                refine xi_iload_n (pc' := 1) (x := a4) kc_11_0 rfl rfl ?_
                refine xi_iload_n (pc' := 2) (x := 0) kc_11_1 rfl rfl ?_
                refine xi_cmf (pc' := 5) kc_11_2 rfl (xc_lt_f (X := a4.toInt) (Y := 0) rfl (by decide) (by omega)) ?_
                refine xi_iload_n (pc' := 6) (x := a4) kc_11_5 rfl rfl ?_
                refine xi_iload_n (pc' := 7) (x := 5) kc_11_6 rfl rfl ?_
                refine xi_cmf (pc' := 10) kc_11_7 rfl (xc_gt_f (X := a4.toInt) (Y := 5) rfl (by decide) (by omega)) ?_
                refine xi_iconst (pc' := 11) (v := 1) kc_11_10 rfl rfl ?_
                refine xi_goto (pc' := 15) kc_11_11 rfl ?_
                refine xi_ireturn kc_11_15 mr_11 rfl ?_
                show xw J ov 98 10 (6, [(0, .int a4)], [.int 1], hh597) _
                refine xi_ireturn kc_10_6 mr_10 rfl ?_
                show xw J ov 99 23 (16, [(0, .ref 115), (1, .int a2), (2, .int a4), (3, .int a6), (4, .int 1)], [.int 1], hh597) _
                refine xi_ift (pc' := 25) kc_23_16 rfl rfl ?_
                refine xi_iload_n (pc' := 26) (x := a6) kc_23_25 rfl rfl ?_
                refine xi_ift (pc' := 36) kc_23_26 rfl (xc_ge_t (X := a6.toInt) (Y := 0) rfl (by decide) (by omega)) ?_
                refine xi_iload_n (pc' := 37) (x := a6) kc_23_36 rfl rfl ?_
                refine xi_bipush (pc' := 39) (v := 100) kc_23_37 rfl rfl ?_
                refine xi_cmf (pc' := 42) kc_23_39 rfl (xc_le_f (X := a6.toInt) (Y := 100) rfl (by decide) (by omega)) ?_
                refine xi_aload_n (pc' := 43) (x := 115) kc_23_42 rfl rfl ?_
                refine xi_bipush (pc' := 45) (v := (-6)) kc_23_43 rfl rfl ?_
                refine xi_virtual (mj := 12) (as := [.int (-6)]) (st1 := []) (lv0 := [(0, .ref 115), (1, .int (-6))]) kc_23_45 rfl rfl rfl rfl rfl eh596.1 (Nat.le_of_ble_eq_true rfl) (hJ _ _ _ _ (by decide)) (xm_le ml_12 rfl) rfl ?_
                refine xi_aload_n (pc' := 1) (x := 115) kc_12_0 rfl rfl ?_
                refine xi_getfield (pc' := 4) (v := .ref 140) kc_12_1 rfl rfl rfl eh596.1 rfl ?_
                refine xi_iload_n (pc' := 5) (x := (-6)) kc_12_4 rfl rfl ?_
                refine xi_ineg (pc' := 6) (v := 6) kc_12_5 rfl rfl ?_
                refine xi_dup2 (pc' := 7) kc_12_6 rfl ⟨rfl, rfl⟩ ?_
                obtain ⟨y599, A599, hy599, ry599⟩ := xk_arr K.1 xD_140
                obtain ⟨v600, ev600, bv600, dv600⟩ := xj_get hy599 ry599 (i := 6) (by decide) (by decide)
                have A601 := ((eh596.2.1 140 (by decide)).trans ((eh579.2.1 140 (by decide)).trans A599))
                refine xi_iaload (pc' := 8) (v := v600) kc_12_7 rfl A601 (by decide) rfl (xi_in (by decide) (by rw [hy599]; decide)) ev600 ?_
                refine xi_iconst (pc' := 9) (v := 1) kc_12_8 rfl rfl ?_
                obtain ⟨v602, ev602⟩ : ∃ q : Int32, (v600 : Int32) + 1 = q := ⟨_, rfl⟩
                have rv602 := xc_rng v602
                refine xi_iadd (pc' := 10) (v := v602) kc_12_9 rfl ev602 ?_
                obtain ⟨y603, s603, hy603, ry603⟩ := xj_set (v := v602) hy599 ry599 6 (by first | omega | decide) (by first | omega | decide)
                refine xi_iastore (pc' := 11) (x' := y603) kc_12_10 rfl A601 rfl (xi_in (by decide) (by rw [hy599]; decide)) s603 (fun hh603 eh603 => ?_)
                have K604 := xk_pa K598 (xk_wa rfl) xD_140 hy603 ry603 eh603
                refine xi_iload_n (pc' := 12) (x := (-6)) kc_12_11 rfl rfl ?_
                refine xi_ireturn kc_12_12 mr_12 rfl ?_
                show xw J ov 99 23 (48, [(0, .ref 115), (1, .int a2), (2, .int a4), (3, .int a6), (4, .int 1)], [.int (-6)], hh603) _
                refine xi_ireturn kc_23_48 mr_23 rfl ?_
                show xw J ov 100 195 (473, [(4, .int x4), (3, .ref 167), (2, .ref 115), (1, .ref 0), (0, .ref 1000000)], [.int (-6), .int (-6)], hh603) _
                refine xi_cmt (pc' := 1501) kc_195_473 rfl rfl ?_
                obtain ⟨v605, ev605⟩ : ∃ q : Int32, x4 + 6 = q := ⟨_, rfl⟩
                have zv605 : v605.toInt = (x4.toInt + 6) := by rw [← ev605]; exact (xz_add (X := x4.toInt) (Y := 6) rfl (by decide) (by omega) (by omega)).trans (by omega)
                refine xi_iinc (pc' := 1504) (x := x4) (v := v605) (lv' := [(4, .int v605), (3, .ref 167), (2, .ref 115), (1, .ref 0), (0, .ref 1000000)]) kc_195_1501 rfl rfl ev605 rfl (xm_lt ml_195 rfl) ?_
                refine xi_goto (pc' := 23) kc_195_1504 rfl ?_
                exact kk v605 hh603 (by omega) K604 (xGR_kept I (fun c hc => ((eh603.2.1 c (Ne.symm (xk_nc hc rfl))).trans ((eh596.2.1 c (Ne.symm (xk_nc hc rfl))).trans (eh579.2.1 c (Ne.symm (xk_nc hc rfl)))))) ((eh603.2.1 125 (by decide)).trans ((eh596.2.1 125 (by decide)).trans (eh579.2.1 125 (by decide)))))
            · refine xi_iff (pc' := 24) kc_103_21 rfl (xc_ge_f (X := a6.toInt) (Y := 0) rfl (by decide) (by omega)) ?_
              refine xi_aload_n (pc' := 25) (x := 0) kc_103_24 rfl rfl ?_
              refine xi_bipush (pc' := 27) (v := (-4)) kc_103_25 rfl rfl ?_
              refine xi_virtual (mj := 90) (as := [.int (-4)]) (st1 := []) (lv0 := [(0, .ref 0), (1, .int (-4))]) kc_103_27 rfl rfl rfl rfl rfl A325 (Nat.le_of_ble_eq_true rfl) (hJ _ _ _ _ (by decide)) (xm_le ml_90 rfl) rfl ?_
              refine xi_iload_n (pc' := 1) (x := (-4)) kc_90_0 rfl rfl ?_
              refine xi_ineg (pc' := 2) (v := 4) kc_90_1 rfl rfl ?_
              refine xi_istore_n (pc' := 3) (lv' := [(2, .int 4), (0, .ref 0), (1, .int (-4))]) kc_90_2 rfl rfl (xm_lt ml_90 rfl) ?_
              refine xi_iload_n (pc' := 4) (x := 4) kc_90_3 rfl rfl ?_
              refine xi_iff (pc' := 7) kc_90_4 rfl rfl ?_
              refine xi_iload_n (pc' := 8) (x := 4) kc_90_7 rfl rfl ?_
              refine xi_aload_n (pc' := 9) (x := 0) kc_90_8 rfl rfl ?_
              refine xi_getfield (pc' := 12) (v := .ref 94) kc_90_9 rfl rfl rfl A325 rfl ?_
              obtain ⟨y606, A606, hy606, ry606⟩ := xk_arr K.1 xD_94
              refine xi_arraylength (pc' := 13) (n := 7) (v := 7) kc_90_12 rfl (xl_lenI (by decide) (by decide) A606 hy606) rfl ?_
              refine xi_cmf (pc' := 16) kc_90_13 rfl rfl ?_
              refine xi_aload_n (pc' := 17) (x := 0) kc_90_16 rfl rfl ?_
              refine xi_getfield (pc' := 20) (v := .ref 94) kc_90_17 rfl rfl rfl A325 rfl ?_
              refine xi_iload_n (pc' := 21) (x := 4) kc_90_20 rfl rfl ?_
              refine xi_dup2 (pc' := 22) kc_90_21 rfl ⟨rfl, rfl⟩ ?_
              obtain ⟨v607, ev607, bv607, dv607⟩ := xj_get hy606 ry606 (i := 4) (by decide) (by decide)
              refine xi_iaload (pc' := 23) (v := v607) kc_90_22 rfl A606 (by decide) rfl (xi_in (by decide) (by rw [hy606]; decide)) ev607 ?_
              refine xi_iconst (pc' := 24) (v := 1) kc_90_23 rfl rfl ?_
              obtain ⟨v608, ev608⟩ : ∃ q : Int32, (v607 : Int32) + 1 = q := ⟨_, rfl⟩
              have rv608 := xc_rng v608
              refine xi_iadd (pc' := 25) (v := v608) kc_90_24 rfl ev608 ?_
              obtain ⟨y609, s609, hy609, ry609⟩ := xj_set (v := v608) hy606 ry606 4 (by first | omega | decide) (by first | omega | decide)
              refine xi_iastore (pc' := 26) (x' := y609) kc_90_25 rfl A606 rfl (xi_in (by decide) (by rw [hy606]; decide)) s609 (fun hh609 eh609 => ?_)
              have K610 := xk_pa K (xk_wa rfl) xD_94 hy609 ry609 eh609
              refine xi_iload_n (pc' := 27) (x := (-4)) kc_90_26 rfl rfl ?_
              refine xi_ireturn kc_90_27 mr_90 rfl ?_
              show xw J ov 99 103 (30, [(0, .ref 0), (1, .int a2), (2, .int a4), (3, .int a6), (4, .int 1)], [.int (-4)], hh609) _
              refine xi_ireturn kc_103_30 mr_103 rfl ?_
              show xw J ov 100 195 (437, [(4, .int x4), (3, .ref 167), (2, .ref 115), (1, .ref 0), (0, .ref 1000000)], [.int (-4)], hh609) _
              refine xi_aload_n (pc' := 438) (x := 115) kc_195_437 rfl rfl ?_
              refine xi_aload_n (pc' := 439) (x := 1000000) kc_195_438 rfl rfl ?_
              refine xi_iload (pc' := 441) (x := x4) kc_195_439 rfl rfl ?_
              refine xi_iconst (pc' := 442) (v := 1) kc_195_441 rfl rfl ?_
              refine xi_iadd (pc' := 443) (v := v1) kc_195_442 rfl ev1 ?_
              refine xi_ialoadO (pc' := 444) (v := a2) kc_195_443 rfl (by decide) hov0 (xi_in (by omega) (by omega)) ea2 ?_
              refine xi_aload_n (pc' := 445) (x := 1000000) kc_195_444 rfl rfl ?_
              refine xi_iload (pc' := 447) (x := x4) kc_195_445 rfl rfl ?_
              refine xi_iconst (pc' := 448) (v := 2) kc_195_447 rfl rfl ?_
              refine xi_iadd (pc' := 449) (v := v3) kc_195_448 rfl ev3 ?_
              refine xi_ialoadO (pc' := 450) (v := a4) kc_195_449 rfl (by decide) hov0 (xi_in (by omega) (by omega)) ea4 ?_
              refine xi_aload_n (pc' := 451) (x := 1000000) kc_195_450 rfl rfl ?_
              refine xi_iload (pc' := 453) (x := x4) kc_195_451 rfl rfl ?_
              refine xi_iconst (pc' := 454) (v := 3) kc_195_453 rfl rfl ?_
              refine xi_iadd (pc' := 455) (v := v5) kc_195_454 rfl ev5 ?_
              refine xi_ialoadO (pc' := 456) (v := a6) kc_195_455 rfl (by decide) hov0 (xi_in (by omega) (by omega)) ea6 ?_
              refine xi_aload_n (pc' := 457) (x := 1000000) kc_195_456 rfl rfl ?_
              refine xi_iload (pc' := 459) (x := x4) kc_195_457 rfl rfl ?_
              refine xi_iconst (pc' := 460) (v := 4) kc_195_459 rfl rfl ?_
              refine xi_iadd (pc' := 461) (v := v7) kc_195_460 rfl ev7 ?_
              refine xi_ialoadO (pc' := 462) (v := a8) kc_195_461 rfl (by decide) hov0 (xi_in (by omega) (by omega)) ea8 ?_
              refine xi_iff (pc' := 465) kc_195_462 rfl (xc_eq_f (X := a8.toInt) (Y := 0) rfl (by decide) (by omega)) ?_
              refine xi_iconst (pc' := 466) (v := 1) kc_195_465 rfl rfl ?_
              refine xi_goto (pc' := 470) kc_195_466 rfl ?_
              obtain ⟨u611, u612, u613, u614, u615, u616, u617, u618, u619, u620, u621, u622, u623, bu611, bu612, bu613, bu614, bu615, bu616, bu617, bu618, bu619, bu620, bu621, bu622, bu623, A624⟩ := xq_115 K.1
              have A625 := ((eh609.2.1 115 (by decide)).trans A624)
              refine xi_virtual (mj := 23) (as := [.int a2, .int a4, .int a6, .int 1]) (st1 := [.int (-4)]) (lv0 := [(0, .ref 115), (1, .int a2), (2, .int a4), (3, .int a6), (4, .int 1)]) kc_195_470 rfl rfl rfl rfl rfl A625 (Nat.le_of_ble_eq_true rfl) (hJ _ _ _ _ (by decide)) (xm_le ml_23 rfl) rfl ?_
              refine xi_aload_n (pc' := 1) (x := 115) kc_23_0 rfl rfl ?_
              refine xi_iconst (pc' := 2) (v := 0) kc_23_1 rfl rfl ?_
              refine xi_putfield (pc' := 5) (fs' := [.int 0, .int u612, .ref 116, .ref 117, .ref 118, .ref 119, .ref 120, .ref 121, .ref 122, .ref 123, .ref 124, .ref 125, .ref 126, .ref 127, .ref 128, .ref 129, .int u613, .ref 130, .int u614, .ref 131, .ref 132, .ref 133, .ref 134, .int u615, .ref 135, .ref 136, .ref 137, .ref 138, .ref 139, .ref 140, .ref 141, .ref 142, .int u616, .int u617, .int u618, .ref 143, .ref 144, .ref 145, .ref 146, .ref 147, .ref 148, .int u619, .ref 149, .ref 150, .ref 151, .int u620, .ref 152, .ref 153, .ref 154, .ref 155, .ref 156, .ref 157, .ref 158, .ref 159, .int u621, .ref 160, .int u622, .ref 161, .ref 162, .ref 163, .ref 164, .int u623, .ref 165, .ref 166]) kc_23_2 rfl rfl rfl A625 rfl rfl rfl (Nat.le_of_ble_eq_true rfl) rfl (fun hh627 eh626 => ?_)
              have K628 := xk_pf (k := 0) (v := 0) K610 (xk_wf rfl) xD_115 A625 rfl (by first | omega | decide) (by first | omega | decide) eh626 rfl
              refine xi_iload_n (pc' := 6) (x := a2) kc_23_5 rfl rfl ?_
              refine xi_static (mj := 24) (as := [.int a2]) (st1 := []) (lv0 := [(0, .int a2)]) kc_23_6 rfl rfl (Nat.le_of_ble_eq_true rfl) rfl rfl (Nat.le_of_ble_eq_true rfl) (hJ _ _ _ _ (by decide)) (xm_le ml_24 rfl) rfl ?_
              refine xi_iload_n (pc' := 1) (x := a2) kc_24_0 rfl rfl ?_
              refine xi_iconst (pc' := 2) (v := 0) kc_24_1 rfl rfl ?_
              refine xi_bipush (pc' := 4) (v := 11) kc_24_2 rfl rfl ?_
              refine xi_static (mj := 11) (as := [.int a2, .int 0, .int 11]) (st1 := []) (lv0 := [(0, .int a2), (1, .int 0), (2, .int 11)]) kc_24_4 rfl rfl (Nat.le_of_ble_eq_true rfl) rfl rfl (Nat.le_of_ble_eq_true rfl) (hJ _ _ _ _ (by decide)) (xm_le ml_11 rfl) rfl ?_
              refine xi_iload_n (pc' := 1) (x := a2) kc_11_0 rfl rfl ?_
              refine xi_iload_n (pc' := 2) (x := 0) kc_11_1 rfl rfl ?_
              refine xi_cmf (pc' := 5) kc_11_2 rfl (xc_lt_f (X := a2.toInt) (Y := 0) rfl (by decide) (by omega)) ?_
              refine xi_iload_n (pc' := 6) (x := a2) kc_11_5 rfl rfl ?_
              refine xi_iload_n (pc' := 7) (x := 11) kc_11_6 rfl rfl ?_
              refine xi_cmf (pc' := 10) kc_11_7 rfl (xc_gt_f (X := a2.toInt) (Y := 11) rfl (by decide) (by omega)) ?_
              refine xi_iconst (pc' := 11) (v := 1) kc_11_10 rfl rfl ?_
              refine xi_goto (pc' := 15) kc_11_11 rfl ?_
              refine xi_ireturn kc_11_15 mr_11 rfl ?_
              show xw J ov 98 24 (7, [(0, .int a2)], [.int 1], hh627) _
              refine xi_ireturn kc_24_7 mr_24 rfl ?_
              show xw J ov 99 23 (9, [(0, .ref 115), (1, .int a2), (2, .int a4), (3, .int a6), (4, .int 1)], [.int 1], hh627) _
              refine xi_iff (pc' := 12) kc_23_9 rfl rfl ?_
              refine xi_iload_n (pc' := 13) (x := a4) kc_23_12 rfl rfl ?_
              refine xi_static (mj := 10) (as := [.int a4]) (st1 := []) (lv0 := [(0, .int a4)]) kc_23_13 rfl rfl (Nat.le_of_ble_eq_true rfl) rfl rfl (Nat.le_of_ble_eq_true rfl) (hJ _ _ _ _ (by decide)) (xm_le ml_10 rfl) rfl ?_
              refine xi_iload_n (pc' := 1) (x := a4) kc_10_0 rfl rfl ?_
              refine xi_iconst (pc' := 2) (v := 0) kc_10_1 rfl rfl ?_
              refine xi_iconst (pc' := 3) (v := 5) kc_10_2 rfl rfl ?_
              refine xi_static (mj := 11) (as := [.int a4, .int 0, .int 5]) (st1 := []) (lv0 := [(0, .int a4), (1, .int 0), (2, .int 5)]) kc_10_3 rfl rfl (Nat.le_of_ble_eq_true rfl) rfl rfl (Nat.le_of_ble_eq_true rfl) (hJ _ _ _ _ (by decide)) (xm_le ml_11 rfl) rfl ?_
              refine xi_iload_n (pc' := 1) (x := a4) kc_11_0 rfl rfl ?_
              refine xi_iload_n (pc' := 2) (x := 0) kc_11_1 rfl rfl ?_
              refine xi_cmf (pc' := 5) kc_11_2 rfl (xc_lt_f (X := a4.toInt) (Y := 0) rfl (by decide) (by omega)) ?_
              refine xi_iload_n (pc' := 6) (x := a4) kc_11_5 rfl rfl ?_
              refine xi_iload_n (pc' := 7) (x := 5) kc_11_6 rfl rfl ?_
              refine xi_cmf (pc' := 10) kc_11_7 rfl (xc_gt_f (X := a4.toInt) (Y := 5) rfl (by decide) (by omega)) ?_
              refine xi_iconst (pc' := 11) (v := 1) kc_11_10 rfl rfl ?_
              refine xi_goto (pc' := 15) kc_11_11 rfl ?_
              refine xi_ireturn kc_11_15 mr_11 rfl ?_
              show xw J ov 98 10 (6, [(0, .int a4)], [.int 1], hh627) _
              refine xi_ireturn kc_10_6 mr_10 rfl ?_
              show xw J ov 99 23 (16, [(0, .ref 115), (1, .int a2), (2, .int a4), (3, .int a6), (4, .int 1)], [.int 1], hh627) _
              refine xi_ift (pc' := 25) kc_23_16 rfl rfl ?_
              refine xi_iload_n (pc' := 26) (x := a6) kc_23_25 rfl rfl ?_
              refine xi_iff (pc' := 29) kc_23_26 rfl (xc_ge_f (X := a6.toInt) (Y := 0) rfl (by decide) (by omega)) ?_
              refine xi_aload_n (pc' := 30) (x := 115) kc_23_29 rfl rfl ?_
              refine xi_bipush (pc' := 32) (v := (-4)) kc_23_30 rfl rfl ?_
              refine xi_virtual (mj := 12) (as := [.int (-4)]) (st1 := []) (lv0 := [(0, .ref 115), (1, .int (-4))]) kc_23_32 rfl rfl rfl rfl rfl eh626.1 (Nat.le_of_ble_eq_true rfl) (hJ _ _ _ _ (by decide)) (xm_le ml_12 rfl) rfl ?_
              refine xi_aload_n (pc' := 1) (x := 115) kc_12_0 rfl rfl ?_
              refine xi_getfield (pc' := 4) (v := .ref 140) kc_12_1 rfl rfl rfl eh626.1 rfl ?_
              refine xi_iload_n (pc' := 5) (x := (-4)) kc_12_4 rfl rfl ?_
              refine xi_ineg (pc' := 6) (v := 4) kc_12_5 rfl rfl ?_
              refine xi_dup2 (pc' := 7) kc_12_6 rfl ⟨rfl, rfl⟩ ?_
              obtain ⟨y629, A629, hy629, ry629⟩ := xk_arr K.1 xD_140
              obtain ⟨v630, ev630, bv630, dv630⟩ := xj_get hy629 ry629 (i := 4) (by decide) (by decide)
              have A631 := ((eh626.2.1 140 (by decide)).trans ((eh609.2.1 140 (by decide)).trans A629))
              refine xi_iaload (pc' := 8) (v := v630) kc_12_7 rfl A631 (by decide) rfl (xi_in (by decide) (by rw [hy629]; decide)) ev630 ?_
              refine xi_iconst (pc' := 9) (v := 1) kc_12_8 rfl rfl ?_
              obtain ⟨v632, ev632⟩ : ∃ q : Int32, (v630 : Int32) + 1 = q := ⟨_, rfl⟩
              have rv632 := xc_rng v632
              refine xi_iadd (pc' := 10) (v := v632) kc_12_9 rfl ev632 ?_
              obtain ⟨y633, s633, hy633, ry633⟩ := xj_set (v := v632) hy629 ry629 4 (by first | omega | decide) (by first | omega | decide)
              refine xi_iastore (pc' := 11) (x' := y633) kc_12_10 rfl A631 rfl (xi_in (by decide) (by rw [hy629]; decide)) s633 (fun hh633 eh633 => ?_)
              have K634 := xk_pa K628 (xk_wa rfl) xD_140 hy633 ry633 eh633
              refine xi_iload_n (pc' := 12) (x := (-4)) kc_12_11 rfl rfl ?_
              refine xi_ireturn kc_12_12 mr_12 rfl ?_
              show xw J ov 99 23 (35, [(0, .ref 115), (1, .int a2), (2, .int a4), (3, .int a6), (4, .int 1)], [.int (-4)], hh633) _
              refine xi_ireturn kc_23_35 mr_23 rfl ?_
              show xw J ov 100 195 (473, [(4, .int x4), (3, .ref 167), (2, .ref 115), (1, .ref 0), (0, .ref 1000000)], [.int (-4), .int (-4)], hh633) _
              refine xi_cmt (pc' := 1501) kc_195_473 rfl rfl ?_
              obtain ⟨v635, ev635⟩ : ∃ q : Int32, x4 + 6 = q := ⟨_, rfl⟩
              have zv635 : v635.toInt = (x4.toInt + 6) := by rw [← ev635]; exact (xz_add (X := x4.toInt) (Y := 6) rfl (by decide) (by omega) (by omega)).trans (by omega)
              refine xi_iinc (pc' := 1504) (x := x4) (v := v635) (lv' := [(4, .int v635), (3, .ref 167), (2, .ref 115), (1, .ref 0), (0, .ref 1000000)]) kc_195_1501 rfl rfl ev635 rfl (xm_lt ml_195 rfl) ?_
              refine xi_goto (pc' := 23) kc_195_1504 rfl ?_
              exact kk v635 hh633 (by omega) K634 (xGR_kept I (fun c hc => ((eh633.2.1 c (Ne.symm (xk_nc hc rfl))).trans ((eh626.2.1 c (Ne.symm (xk_nc hc rfl))).trans (eh609.2.1 c (Ne.symm (xk_nc hc rfl)))))) ((eh633.2.1 125 (by decide)).trans ((eh626.2.1 125 (by decide)).trans (eh609.2.1 125 (by decide)))))
set_option maxHeartbeats 8000000 in
theorem lc_6 {J : xe_J} {ov : List (List Int32)} (hJ : ∀ d mj as h, mj ≠ xe_loff → J d mj as h = none) (hov1 : ov[1]? = some [10, 0, 0, 0, 0, 0]) (hov2 : ov[2]? = some [99, 30, 50, 50, 1, 99999]) {xs : List Int32} (hov0 : ov[0]? = some xs) {Q : Option Value → xe_H → Prop} {h : xe_H} {x4 : Int32} (hi0 : 0 ≤ x4.toInt) (hi1 : x4.toInt + 6 ≤ xs.length) (hi2 : x4.toInt ≤ 3066) (T : xt h) (kk : ∀ (i : Int32) (h' : xe_H), i.toInt = x4.toInt + 6 → xk [(29, 0), (31, 0), (33, 0), (35, 0), (37, 0), (39, 0), (41, 0), (43, 0), (45, 0), (47, 0), (49, 0), (51, 0), (125, 0)] h h' → xw J ov 100 195 (23, [(4, .int i), (3, .ref 167), (2, .ref 115), (1, .ref 0), (0, .ref 1000000)], [], h') Q) : xw J ov 100 195 (478, [(4, .int x4), (3, .ref 167), (2, .ref 115), (1, .ref 0), (0, .ref 1000000)], [], h) Q := by
  have K : xk [(29, 0), (31, 0), (33, 0), (35, 0), (37, 0), (39, 0), (41, 0), (43, 0), (45, 0), (47, 0), (49, 0), (51, 0), (125, 0)] h h := xk_re T
  refine xi_aload_n (pc' := 479) (x := 0) kc_195_478 rfl rfl ?_
  refine xi_aload_n (pc' := 480) (x := 1000000) kc_195_479 rfl rfl ?_
  refine xi_iload (pc' := 482) (x := x4) kc_195_480 rfl rfl ?_
  refine xi_iconst (pc' := 483) (v := 1) kc_195_482 rfl rfl ?_
  obtain ⟨v1, ev1⟩ : ∃ q : Int32, x4 + 1 = q := ⟨_, rfl⟩
  have zv1 : v1.toInt = (x4.toInt + 1) := by rw [← ev1]; exact (xz_add (X := x4.toInt) (Y := 1) rfl (by decide) (by omega) (by omega)).trans (by omega)
  refine xi_iadd (pc' := 484) (v := v1) kc_195_483 rfl ev1 ?_
  obtain ⟨a2, ea2⟩ : ∃ q : Int32, xs.getD (Int32.toNatClampNeg v1) 0 = q := ⟨_, rfl⟩
  have ra2 := xc_rng a2
  refine xi_ialoadO (pc' := 485) (v := a2) kc_195_484 rfl (by decide) hov0 (xi_in (by omega) (by omega)) ea2 ?_
  refine xi_aload_n (pc' := 486) (x := 1000000) kc_195_485 rfl rfl ?_
  refine xi_iload (pc' := 488) (x := x4) kc_195_486 rfl rfl ?_
  refine xi_iconst (pc' := 489) (v := 2) kc_195_488 rfl rfl ?_
  obtain ⟨v3, ev3⟩ : ∃ q : Int32, x4 + 2 = q := ⟨_, rfl⟩
  have zv3 : v3.toInt = (x4.toInt + 2) := by rw [← ev3]; exact (xz_add (X := x4.toInt) (Y := 2) rfl (by decide) (by omega) (by omega)).trans (by omega)
  refine xi_iadd (pc' := 490) (v := v3) kc_195_489 rfl ev3 ?_
  obtain ⟨a4, ea4⟩ : ∃ q : Int32, xs.getD (Int32.toNatClampNeg v3) 0 = q := ⟨_, rfl⟩
  have ra4 := xc_rng a4
  refine xi_ialoadO (pc' := 491) (v := a4) kc_195_490 rfl (by decide) hov0 (xi_in (by omega) (by omega)) ea4 ?_
  obtain ⟨u5, u6, bu5, bu6, A7⟩ := xq_0 K.1
  refine xi_virtual (mj := 106) (as := [.int a2, .int a4]) (st1 := []) (lv0 := [(0, .ref 0), (1, .int a2), (2, .int a4)]) kc_195_491 rfl rfl rfl rfl rfl A7 (Nat.le_of_ble_eq_true rfl) (hJ _ _ _ _ (by decide)) (xm_le ml_106 rfl) rfl ?_
  refine mt_106_0 hJ hov1 hov2 (d := 95) (x1 := a2) (x2 := a4) K.1 (fun r8 hh9 K10 => ?_)
  have br8 := xc_rng r8
  have K11 := xk_tr K K10 rfl
  obtain ⟨u12, u13, bu12, bu13, A14⟩ := xq_0 K11.1
  have e15 : u6 = u13 := xk_eqi (q := 9) K10 rfl A7 A14 rfl rfl
  subst e15
  show xw J ov 100 195 (494, [(4, .int x4), (3, .ref 167), (2, .ref 115), (1, .ref 0), (0, .ref 1000000)], [.int r8], hh9) _
  refine xi_pop (pc' := 495) kc_195_494 rfl rfl ?_
  refine xi_aload_n (pc' := 496) (x := 115) kc_195_495 rfl rfl ?_
  refine xi_aload_n (pc' := 497) (x := 1000000) kc_195_496 rfl rfl ?_
  refine xi_iload (pc' := 499) (x := x4) kc_195_497 rfl rfl ?_
  refine xi_iconst (pc' := 500) (v := 1) kc_195_499 rfl rfl ?_
  refine xi_iadd (pc' := 501) (v := v1) kc_195_500 rfl ev1 ?_
  refine xi_ialoadO (pc' := 502) (v := a2) kc_195_501 rfl (by decide) hov0 (xi_in (by omega) (by omega)) ea2 ?_
  refine xi_aload_n (pc' := 503) (x := 1000000) kc_195_502 rfl rfl ?_
  refine xi_iload (pc' := 505) (x := x4) kc_195_503 rfl rfl ?_
  refine xi_iconst (pc' := 506) (v := 2) kc_195_505 rfl rfl ?_
  refine xi_iadd (pc' := 507) (v := v3) kc_195_506 rfl ev3 ?_
  refine xi_ialoadO (pc' := 508) (v := a4) kc_195_507 rfl (by decide) hov0 (xi_in (by omega) (by omega)) ea4 ?_
  obtain ⟨u16, u17, u18, u19, u20, u21, u22, u23, u24, u25, u26, u27, u28, bu16, bu17, bu18, bu19, bu20, bu21, bu22, bu23, bu24, bu25, bu26, bu27, bu28, A29⟩ := xq_115 K11.1
  refine xi_virtual (mj := 25) (as := [.int a2, .int a4]) (st1 := []) (lv0 := [(0, .ref 115), (1, .int a2), (2, .int a4)]) kc_195_508 rfl rfl rfl rfl rfl A29 (Nat.le_of_ble_eq_true rfl) (hJ _ _ _ _ (by decide)) (xm_le ml_25 rfl) rfl ?_
  refine mt_25_0 hJ hov1 hov2 (d := 96) (x1 := a2) (x2 := a4) K11.1 (fun r30 hh31 K32 => ?_)
  have br30 := xc_rng r30
  have K33 := xk_tr K11 K32 rfl
  obtain ⟨u34, u35, bu34, bu35, A36⟩ := xq_0 K33.1
  have e37 : u6 = u35 := xk_eqi (q := 9) K32 rfl A14 A36 rfl rfl
  subst e37
  obtain ⟨u38, u39, u40, u41, u42, u43, u44, u45, u46, u47, u48, u49, u50, bu38, bu39, bu40, bu41, bu42, bu43, bu44, bu45, bu46, bu47, bu48, bu49, bu50, A51⟩ := xq_115 K33.1
  have e52 : u17 = u39 := xk_eqi (q := 1) K32 rfl A29 A51 rfl rfl
  subst e52
  show xw J ov 100 195 (511, [(4, .int x4), (3, .ref 167), (2, .ref 115), (1, .ref 0), (0, .ref 1000000)], [.int r30], hh31) _
  refine xi_pop (pc' := 512) kc_195_511 rfl rfl ?_
  refine xi_goto (pc' := 1501) kc_195_512 rfl ?_
  obtain ⟨v53, ev53⟩ : ∃ q : Int32, x4 + 6 = q := ⟨_, rfl⟩
  have zv53 : v53.toInt = (x4.toInt + 6) := by rw [← ev53]; exact (xz_add (X := x4.toInt) (Y := 6) rfl (by decide) (by omega) (by omega)).trans (by omega)
  refine xi_iinc (pc' := 1504) (x := x4) (v := v53) (lv' := [(4, .int v53), (3, .ref 167), (2, .ref 115), (1, .ref 0), (0, .ref 1000000)]) kc_195_1501 rfl rfl ev53 rfl (xm_lt ml_195 rfl) ?_
  refine xi_goto (pc' := 23) kc_195_1504 rfl ?_
  exact kk v53 hh31 (by omega) K33
set_option maxHeartbeats 8000000 in
theorem lc_7 {J : xe_J} {ov : List (List Int32)} (hJ : ∀ d mj as h, mj ≠ xe_loff → J d mj as h = none) (hov1 : ov[1]? = some [10, 0, 0, 0, 0, 0]) (hov2 : ov[2]? = some [99, 30, 50, 50, 1, 99999]) {xs : List Int32} (hov0 : ov[0]? = some xs) {Q : Option Value → xe_H → Prop} {h : xe_H} {x4 : Int32} (hi0 : 0 ≤ x4.toInt) (hi1 : x4.toInt + 6 ≤ xs.length) (hi2 : x4.toInt ≤ 3066) (T : xt h) (kk : ∀ (i : Int32) (h' : xe_H), i.toInt = x4.toInt + 6 → xk [(29, 0), (31, 0), (33, 0), (35, 0), (37, 0), (39, 0), (41, 0), (43, 0), (45, 0), (47, 0), (49, 0), (51, 0), (125, 0)] h h' → xw J ov 100 195 (23, [(4, .int i), (3, .ref 167), (2, .ref 115), (1, .ref 0), (0, .ref 1000000)], [], h') Q) : xw J ov 100 195 (515, [(4, .int x4), (3, .ref 167), (2, .ref 115), (1, .ref 0), (0, .ref 1000000)], [], h) Q := by
  have K : xk [(29, 0), (31, 0), (33, 0), (35, 0), (37, 0), (39, 0), (41, 0), (43, 0), (45, 0), (47, 0), (49, 0), (51, 0), (125, 0)] h h := xk_re T
  refine xi_aload_n (pc' := 516) (x := 0) kc_195_515 rfl rfl ?_
  refine xi_aload_n (pc' := 517) (x := 1000000) kc_195_516 rfl rfl ?_
  refine xi_iload (pc' := 519) (x := x4) kc_195_517 rfl rfl ?_
  refine xi_iconst (pc' := 520) (v := 1) kc_195_519 rfl rfl ?_
  obtain ⟨v1, ev1⟩ : ∃ q : Int32, x4 + 1 = q := ⟨_, rfl⟩
  have zv1 : v1.toInt = (x4.toInt + 1) := by rw [← ev1]; exact (xz_add (X := x4.toInt) (Y := 1) rfl (by decide) (by omega) (by omega)).trans (by omega)
  refine xi_iadd (pc' := 521) (v := v1) kc_195_520 rfl ev1 ?_
  obtain ⟨a2, ea2⟩ : ∃ q : Int32, xs.getD (Int32.toNatClampNeg v1) 0 = q := ⟨_, rfl⟩
  have ra2 := xc_rng a2
  refine xi_ialoadO (pc' := 522) (v := a2) kc_195_521 rfl (by decide) hov0 (xi_in (by omega) (by omega)) ea2 ?_
  obtain ⟨u3, u4, bu3, bu4, A5⟩ := xq_0 K.1
  refine xi_virtual (mj := 110) (as := [.int a2]) (st1 := []) (lv0 := [(0, .ref 0), (1, .int a2)]) kc_195_522 rfl rfl rfl rfl rfl A5 (Nat.le_of_ble_eq_true rfl) (hJ _ _ _ _ (by decide)) (xm_le ml_110 rfl) rfl ?_
  refine mt_110_0 hJ hov1 hov2 (d := 98) (x1 := a2) K.1 (fun r6 hh7 K8 => ?_)
  have br6 := xc_rng r6
  have K9 := xk_tr K K8 rfl
  obtain ⟨u10, u11, bu10, bu11, A12⟩ := xq_0 K9.1
  have e13 : u4 = u11 := xk_eqi (q := 9) K8 rfl A5 A12 rfl rfl
  subst e13
  show xw J ov 100 195 (525, [(4, .int x4), (3, .ref 167), (2, .ref 115), (1, .ref 0), (0, .ref 1000000)], [.int r6], hh7) _
  refine xi_pop (pc' := 526) kc_195_525 rfl rfl ?_
  refine xi_aload_n (pc' := 527) (x := 115) kc_195_526 rfl rfl ?_
  refine xi_aload_n (pc' := 528) (x := 1000000) kc_195_527 rfl rfl ?_
  refine xi_iload (pc' := 530) (x := x4) kc_195_528 rfl rfl ?_
  refine xi_iconst (pc' := 531) (v := 1) kc_195_530 rfl rfl ?_
  refine xi_iadd (pc' := 532) (v := v1) kc_195_531 rfl ev1 ?_
  refine xi_ialoadO (pc' := 533) (v := a2) kc_195_532 rfl (by decide) hov0 (xi_in (by omega) (by omega)) ea2 ?_
  obtain ⟨u14, u15, u16, u17, u18, u19, u20, u21, u22, u23, u24, u25, u26, bu14, bu15, bu16, bu17, bu18, bu19, bu20, bu21, bu22, bu23, bu24, bu25, bu26, A27⟩ := xq_115 K9.1
  refine xi_virtual (mj := 27) (as := [.int a2]) (st1 := []) (lv0 := [(0, .ref 115), (1, .int a2)]) kc_195_533 rfl rfl rfl rfl rfl A27 (Nat.le_of_ble_eq_true rfl) (hJ _ _ _ _ (by decide)) (xm_le ml_27 rfl) rfl ?_
  refine mt_27_0 hJ hov1 hov2 (d := 98) (x1 := a2) K9.1 (fun r28 hh29 K30 => ?_)
  have br28 := xc_rng r28
  have K31 := xk_tr K9 K30 rfl
  obtain ⟨u32, u33, bu32, bu33, A34⟩ := xq_0 K31.1
  have e35 : u4 = u33 := xk_eqi (q := 9) K30 rfl A12 A34 rfl rfl
  subst e35
  obtain ⟨u36, u37, u38, u39, u40, u41, u42, u43, u44, u45, u46, u47, u48, bu36, bu37, bu38, bu39, bu40, bu41, bu42, bu43, bu44, bu45, bu46, bu47, bu48, A49⟩ := xq_115 K31.1
  have e50 : u15 = u37 := xk_eqi (q := 1) K30 rfl A27 A49 rfl rfl
  subst e50
  show xw J ov 100 195 (536, [(4, .int x4), (3, .ref 167), (2, .ref 115), (1, .ref 0), (0, .ref 1000000)], [.int r28], hh29) _
  refine xi_pop (pc' := 537) kc_195_536 rfl rfl ?_
  refine xi_goto (pc' := 1501) kc_195_537 rfl ?_
  obtain ⟨v51, ev51⟩ : ∃ q : Int32, x4 + 6 = q := ⟨_, rfl⟩
  have zv51 : v51.toInt = (x4.toInt + 6) := by rw [← ev51]; exact (xz_add (X := x4.toInt) (Y := 6) rfl (by decide) (by omega) (by omega)).trans (by omega)
  refine xi_iinc (pc' := 1504) (x := x4) (v := v51) (lv' := [(4, .int v51), (3, .ref 167), (2, .ref 115), (1, .ref 0), (0, .ref 1000000)]) kc_195_1501 rfl rfl ev51 rfl (xm_lt ml_195 rfl) ?_
  refine xi_goto (pc' := 23) kc_195_1504 rfl ?_
  exact kk v51 hh29 (by omega) K31
set_option maxHeartbeats 8000000 in
theorem lc_8 {J : xe_J} {ov : List (List Int32)} (hJ : ∀ d mj as h, mj ≠ xe_loff → J d mj as h = none) (hov1 : ov[1]? = some [10, 0, 0, 0, 0, 0]) (hov2 : ov[2]? = some [99, 30, 50, 50, 1, 99999]) {xs : List Int32} (hov0 : ov[0]? = some xs) {Q : Option Value → xe_H → Prop} {h : xe_H} {x4 : Int32} (hi0 : 0 ≤ x4.toInt) (hi1 : x4.toInt + 6 ≤ xs.length) (hi2 : x4.toInt ≤ 3066) (T : xt h) (kk : ∀ (i : Int32) (h' : xe_H), i.toInt = x4.toInt + 6 → xk [(29, 0), (31, 0), (33, 0), (35, 0), (37, 0), (39, 0), (41, 0), (43, 0), (45, 0), (47, 0), (49, 0), (51, 0), (125, 0)] h h' → xw J ov 100 195 (23, [(4, .int i), (3, .ref 167), (2, .ref 115), (1, .ref 0), (0, .ref 1000000)], [], h') Q) : xw J ov 100 195 (540, [(4, .int x4), (3, .ref 167), (2, .ref 115), (1, .ref 0), (0, .ref 1000000)], [], h) Q := by
  have K : xk [(29, 0), (31, 0), (33, 0), (35, 0), (37, 0), (39, 0), (41, 0), (43, 0), (45, 0), (47, 0), (49, 0), (51, 0), (125, 0)] h h := xk_re T
  refine xi_aload_n (pc' := 541) (x := 0) kc_195_540 rfl rfl ?_
  refine xi_aload_n (pc' := 542) (x := 1000000) kc_195_541 rfl rfl ?_
  refine xi_iload (pc' := 544) (x := x4) kc_195_542 rfl rfl ?_
  refine xi_iconst (pc' := 545) (v := 1) kc_195_544 rfl rfl ?_
  obtain ⟨v1, ev1⟩ : ∃ q : Int32, x4 + 1 = q := ⟨_, rfl⟩
  have zv1 : v1.toInt = (x4.toInt + 1) := by rw [← ev1]; exact (xz_add (X := x4.toInt) (Y := 1) rfl (by decide) (by omega) (by omega)).trans (by omega)
  refine xi_iadd (pc' := 546) (v := v1) kc_195_545 rfl ev1 ?_
  obtain ⟨a2, ea2⟩ : ∃ q : Int32, xs.getD (Int32.toNatClampNeg v1) 0 = q := ⟨_, rfl⟩
  have ra2 := xc_rng a2
  refine xi_ialoadO (pc' := 547) (v := a2) kc_195_546 rfl (by decide) hov0 (xi_in (by omega) (by omega)) ea2 ?_
  obtain ⟨u3, u4, bu3, bu4, A5⟩ := xq_0 K.1
  refine xi_virtual (mj := 111) (as := [.int a2]) (st1 := []) (lv0 := [(0, .ref 0), (1, .int a2)]) kc_195_547 rfl rfl rfl rfl rfl A5 (Nat.le_of_ble_eq_true rfl) (hJ _ _ _ _ (by decide)) (xm_le ml_111 rfl) rfl ?_
  refine mt_111_0 hJ hov1 hov2 (d := 98) (x1 := a2) K.1 (fun r6 hh7 K8 => ?_)
  have br6 := xc_rng r6
  have K9 := xk_tr K K8 rfl
  obtain ⟨u10, u11, bu10, bu11, A12⟩ := xq_0 K9.1
  have e13 : u4 = u11 := xk_eqi (q := 9) K8 rfl A5 A12 rfl rfl
  subst e13
  show xw J ov 100 195 (550, [(4, .int x4), (3, .ref 167), (2, .ref 115), (1, .ref 0), (0, .ref 1000000)], [.int r6], hh7) _
  refine xi_pop (pc' := 551) kc_195_550 rfl rfl ?_
  refine xi_aload_n (pc' := 552) (x := 115) kc_195_551 rfl rfl ?_
  refine xi_aload_n (pc' := 553) (x := 1000000) kc_195_552 rfl rfl ?_
  refine xi_iload (pc' := 555) (x := x4) kc_195_553 rfl rfl ?_
  refine xi_iconst (pc' := 556) (v := 1) kc_195_555 rfl rfl ?_
  refine xi_iadd (pc' := 557) (v := v1) kc_195_556 rfl ev1 ?_
  refine xi_ialoadO (pc' := 558) (v := a2) kc_195_557 rfl (by decide) hov0 (xi_in (by omega) (by omega)) ea2 ?_
  obtain ⟨u14, u15, u16, u17, u18, u19, u20, u21, u22, u23, u24, u25, u26, bu14, bu15, bu16, bu17, bu18, bu19, bu20, bu21, bu22, bu23, bu24, bu25, bu26, A27⟩ := xq_115 K9.1
  refine xi_virtual (mj := 28) (as := [.int a2]) (st1 := []) (lv0 := [(0, .ref 115), (1, .int a2)]) kc_195_558 rfl rfl rfl rfl rfl A27 (Nat.le_of_ble_eq_true rfl) (hJ _ _ _ _ (by decide)) (xm_le ml_28 rfl) rfl ?_
  refine mt_28_0 hJ hov1 hov2 (d := 97) (x1 := a2) K9.1 (fun r28 hh29 K30 => ?_)
  have br28 := xc_rng r28
  have K31 := xk_tr K9 K30 rfl
  obtain ⟨u32, u33, bu32, bu33, A34⟩ := xq_0 K31.1
  have e35 : u4 = u33 := xk_eqi (q := 9) K30 rfl A12 A34 rfl rfl
  subst e35
  obtain ⟨u36, u37, u38, u39, u40, u41, u42, u43, u44, u45, u46, u47, u48, bu36, bu37, bu38, bu39, bu40, bu41, bu42, bu43, bu44, bu45, bu46, bu47, bu48, A49⟩ := xq_115 K31.1
  have e50 : u15 = u37 := xk_eqi (q := 1) K30 rfl A27 A49 rfl rfl
  subst e50
  show xw J ov 100 195 (561, [(4, .int x4), (3, .ref 167), (2, .ref 115), (1, .ref 0), (0, .ref 1000000)], [.int r28], hh29) _
  refine xi_pop (pc' := 562) kc_195_561 rfl rfl ?_
  refine xi_goto (pc' := 1501) kc_195_562 rfl ?_
  obtain ⟨v51, ev51⟩ : ∃ q : Int32, x4 + 6 = q := ⟨_, rfl⟩
  have zv51 : v51.toInt = (x4.toInt + 6) := by rw [← ev51]; exact (xz_add (X := x4.toInt) (Y := 6) rfl (by decide) (by omega) (by omega)).trans (by omega)
  refine xi_iinc (pc' := 1504) (x := x4) (v := v51) (lv' := [(4, .int v51), (3, .ref 167), (2, .ref 115), (1, .ref 0), (0, .ref 1000000)]) kc_195_1501 rfl rfl ev51 rfl (xm_lt ml_195 rfl) ?_
  refine xi_goto (pc' := 23) kc_195_1504 rfl ?_
  exact kk v51 hh29 (by omega) K31
set_option maxHeartbeats 8000000 in
theorem lc_9 {J : xe_J} {ov : List (List Int32)} (hJ : ∀ d mj as h, mj ≠ xe_loff → J d mj as h = none) (hov1 : ov[1]? = some [10, 0, 0, 0, 0, 0]) (hov2 : ov[2]? = some [99, 30, 50, 50, 1, 99999]) {xs : List Int32} (hov0 : ov[0]? = some xs) {Q : Option Value → xe_H → Prop} {h : xe_H} {x4 : Int32} (hi0 : 0 ≤ x4.toInt) (hi1 : x4.toInt + 6 ≤ xs.length) (hi2 : x4.toInt ≤ 3066) (T : xt h) (kk : ∀ (i : Int32) (h' : xe_H), i.toInt = x4.toInt + 6 → xk [(29, 0), (31, 0), (33, 0), (35, 0), (37, 0), (39, 0), (41, 0), (43, 0), (45, 0), (47, 0), (49, 0), (51, 0), (125, 0)] h h' → xw J ov 100 195 (23, [(4, .int i), (3, .ref 167), (2, .ref 115), (1, .ref 0), (0, .ref 1000000)], [], h') Q) : xw J ov 100 195 (565, [(4, .int x4), (3, .ref 167), (2, .ref 115), (1, .ref 0), (0, .ref 1000000)], [], h) Q := by
  have K : xk [(29, 0), (31, 0), (33, 0), (35, 0), (37, 0), (39, 0), (41, 0), (43, 0), (45, 0), (47, 0), (49, 0), (51, 0), (125, 0)] h h := xk_re T
  refine xi_aload_n (pc' := 566) (x := 0) kc_195_565 rfl rfl ?_
  refine xi_aload_n (pc' := 567) (x := 1000000) kc_195_566 rfl rfl ?_
  refine xi_iload (pc' := 569) (x := x4) kc_195_567 rfl rfl ?_
  refine xi_iconst (pc' := 570) (v := 1) kc_195_569 rfl rfl ?_
  obtain ⟨v1, ev1⟩ : ∃ q : Int32, x4 + 1 = q := ⟨_, rfl⟩
  have zv1 : v1.toInt = (x4.toInt + 1) := by rw [← ev1]; exact (xz_add (X := x4.toInt) (Y := 1) rfl (by decide) (by omega) (by omega)).trans (by omega)
  refine xi_iadd (pc' := 571) (v := v1) kc_195_570 rfl ev1 ?_
  obtain ⟨a2, ea2⟩ : ∃ q : Int32, xs.getD (Int32.toNatClampNeg v1) 0 = q := ⟨_, rfl⟩
  have ra2 := xc_rng a2
  refine xi_ialoadO (pc' := 572) (v := a2) kc_195_571 rfl (by decide) hov0 (xi_in (by omega) (by omega)) ea2 ?_
  obtain ⟨u3, u4, bu3, bu4, A5⟩ := xq_0 K.1
  refine xi_virtual (mj := 112) (as := [.int a2]) (st1 := []) (lv0 := [(0, .ref 0), (1, .int a2)]) kc_195_572 rfl rfl rfl rfl rfl A5 (Nat.le_of_ble_eq_true rfl) (hJ _ _ _ _ (by decide)) (xm_le ml_112 rfl) rfl ?_
  refine mt_112_0 hJ hov1 hov2 (d := 98) (x1 := a2) K.1 (fun r6 hh7 K8 => ?_)
  have br6 := xc_rng r6
  have K9 := xk_tr K K8 rfl
  obtain ⟨u10, u11, bu10, bu11, A12⟩ := xq_0 K9.1
  have e13 : u4 = u11 := xk_eqi (q := 9) K8 rfl A5 A12 rfl rfl
  subst e13
  show xw J ov 100 195 (575, [(4, .int x4), (3, .ref 167), (2, .ref 115), (1, .ref 0), (0, .ref 1000000)], [.int r6], hh7) _
  refine xi_pop (pc' := 576) kc_195_575 rfl rfl ?_
  refine xi_aload_n (pc' := 577) (x := 115) kc_195_576 rfl rfl ?_
  refine xi_aload_n (pc' := 578) (x := 1000000) kc_195_577 rfl rfl ?_
  refine xi_iload (pc' := 580) (x := x4) kc_195_578 rfl rfl ?_
  refine xi_iconst (pc' := 581) (v := 1) kc_195_580 rfl rfl ?_
  refine xi_iadd (pc' := 582) (v := v1) kc_195_581 rfl ev1 ?_
  refine xi_ialoadO (pc' := 583) (v := a2) kc_195_582 rfl (by decide) hov0 (xi_in (by omega) (by omega)) ea2 ?_
  obtain ⟨u14, u15, u16, u17, u18, u19, u20, u21, u22, u23, u24, u25, u26, bu14, bu15, bu16, bu17, bu18, bu19, bu20, bu21, bu22, bu23, bu24, bu25, bu26, A27⟩ := xq_115 K9.1
  refine xi_virtual (mj := 29) (as := [.int a2]) (st1 := []) (lv0 := [(0, .ref 115), (1, .int a2)]) kc_195_583 rfl rfl rfl rfl rfl A27 (Nat.le_of_ble_eq_true rfl) (hJ _ _ _ _ (by decide)) (xm_le ml_29 rfl) rfl ?_
  refine mt_29_0 hJ hov1 hov2 (d := 97) (x1 := a2) K9.1 (fun r28 hh29 K30 => ?_)
  have br28 := xc_rng r28
  have K31 := xk_tr K9 K30 rfl
  obtain ⟨u32, u33, bu32, bu33, A34⟩ := xq_0 K31.1
  have e35 : u4 = u33 := xk_eqi (q := 9) K30 rfl A12 A34 rfl rfl
  subst e35
  obtain ⟨u36, u37, u38, u39, u40, u41, u42, u43, u44, u45, u46, u47, u48, bu36, bu37, bu38, bu39, bu40, bu41, bu42, bu43, bu44, bu45, bu46, bu47, bu48, A49⟩ := xq_115 K31.1
  have e50 : u15 = u37 := xk_eqi (q := 1) K30 rfl A27 A49 rfl rfl
  subst e50
  show xw J ov 100 195 (586, [(4, .int x4), (3, .ref 167), (2, .ref 115), (1, .ref 0), (0, .ref 1000000)], [.int r28], hh29) _
  refine xi_pop (pc' := 587) kc_195_586 rfl rfl ?_
  refine xi_goto (pc' := 1501) kc_195_587 rfl ?_
  obtain ⟨v51, ev51⟩ : ∃ q : Int32, x4 + 6 = q := ⟨_, rfl⟩
  have zv51 : v51.toInt = (x4.toInt + 6) := by rw [← ev51]; exact (xz_add (X := x4.toInt) (Y := 6) rfl (by decide) (by omega) (by omega)).trans (by omega)
  refine xi_iinc (pc' := 1504) (x := x4) (v := v51) (lv' := [(4, .int v51), (3, .ref 167), (2, .ref 115), (1, .ref 0), (0, .ref 1000000)]) kc_195_1501 rfl rfl ev51 rfl (xm_lt ml_195 rfl) ?_
  refine xi_goto (pc' := 23) kc_195_1504 rfl ?_
  exact kk v51 hh29 (by omega) K31
set_option maxHeartbeats 8000000 in
theorem lc_10 {J : xe_J} {ov : List (List Int32)} (hJ : ∀ d mj as h, mj ≠ xe_loff → J d mj as h = none) (hov1 : ov[1]? = some [10, 0, 0, 0, 0, 0]) (hov2 : ov[2]? = some [99, 30, 50, 50, 1, 99999]) {xs : List Int32} (hov0 : ov[0]? = some xs) {Q : Option Value → xe_H → Prop} {h : xe_H} {x4 : Int32} (hi0 : 0 ≤ x4.toInt) (hi1 : x4.toInt + 6 ≤ xs.length) (hi2 : x4.toInt ≤ 3066) (T : xt h) (kk : ∀ (i : Int32) (h' : xe_H), i.toInt = x4.toInt + 6 → xk [(29, 0), (31, 0), (33, 0), (35, 0), (37, 0), (39, 0), (41, 0), (43, 0), (45, 0), (47, 0), (49, 0), (51, 0), (125, 0)] h h' → xw J ov 100 195 (23, [(4, .int i), (3, .ref 167), (2, .ref 115), (1, .ref 0), (0, .ref 1000000)], [], h') Q) : xw J ov 100 195 (590, [(4, .int x4), (3, .ref 167), (2, .ref 115), (1, .ref 0), (0, .ref 1000000)], [], h) Q := by
  have K : xk [(29, 0), (31, 0), (33, 0), (35, 0), (37, 0), (39, 0), (41, 0), (43, 0), (45, 0), (47, 0), (49, 0), (51, 0), (125, 0)] h h := xk_re T
  refine xi_aload_n (pc' := 591) (x := 0) kc_195_590 rfl rfl ?_
  refine xi_aload_n (pc' := 592) (x := 1000000) kc_195_591 rfl rfl ?_
  refine xi_iload (pc' := 594) (x := x4) kc_195_592 rfl rfl ?_
  refine xi_iconst (pc' := 595) (v := 1) kc_195_594 rfl rfl ?_
  obtain ⟨v1, ev1⟩ : ∃ q : Int32, x4 + 1 = q := ⟨_, rfl⟩
  have zv1 : v1.toInt = (x4.toInt + 1) := by rw [← ev1]; exact (xz_add (X := x4.toInt) (Y := 1) rfl (by decide) (by omega) (by omega)).trans (by omega)
  refine xi_iadd (pc' := 596) (v := v1) kc_195_595 rfl ev1 ?_
  obtain ⟨a2, ea2⟩ : ∃ q : Int32, xs.getD (Int32.toNatClampNeg v1) 0 = q := ⟨_, rfl⟩
  have ra2 := xc_rng a2
  refine xi_ialoadO (pc' := 597) (v := a2) kc_195_596 rfl (by decide) hov0 (xi_in (by omega) (by omega)) ea2 ?_
  refine xi_aload_n (pc' := 598) (x := 1000000) kc_195_597 rfl rfl ?_
  refine xi_iload (pc' := 600) (x := x4) kc_195_598 rfl rfl ?_
  refine xi_iconst (pc' := 601) (v := 2) kc_195_600 rfl rfl ?_
  obtain ⟨v3, ev3⟩ : ∃ q : Int32, x4 + 2 = q := ⟨_, rfl⟩
  have zv3 : v3.toInt = (x4.toInt + 2) := by rw [← ev3]; exact (xz_add (X := x4.toInt) (Y := 2) rfl (by decide) (by omega) (by omega)).trans (by omega)
  refine xi_iadd (pc' := 602) (v := v3) kc_195_601 rfl ev3 ?_
  obtain ⟨a4, ea4⟩ : ∃ q : Int32, xs.getD (Int32.toNatClampNeg v3) 0 = q := ⟨_, rfl⟩
  have ra4 := xc_rng a4
  refine xi_ialoadO (pc' := 603) (v := a4) kc_195_602 rfl (by decide) hov0 (xi_in (by omega) (by omega)) ea4 ?_
  refine xi_aload_n (pc' := 604) (x := 1000000) kc_195_603 rfl rfl ?_
  refine xi_iload (pc' := 606) (x := x4) kc_195_604 rfl rfl ?_
  refine xi_iconst (pc' := 607) (v := 3) kc_195_606 rfl rfl ?_
  obtain ⟨v5, ev5⟩ : ∃ q : Int32, x4 + 3 = q := ⟨_, rfl⟩
  have zv5 : v5.toInt = (x4.toInt + 3) := by rw [← ev5]; exact (xz_add (X := x4.toInt) (Y := 3) rfl (by decide) (by omega) (by omega)).trans (by omega)
  refine xi_iadd (pc' := 608) (v := v5) kc_195_607 rfl ev5 ?_
  obtain ⟨a6, ea6⟩ : ∃ q : Int32, xs.getD (Int32.toNatClampNeg v5) 0 = q := ⟨_, rfl⟩
  have ra6 := xc_rng a6
  refine xi_ialoadO (pc' := 609) (v := a6) kc_195_608 rfl (by decide) hov0 (xi_in (by omega) (by omega)) ea6 ?_
  refine xi_aload_n (pc' := 610) (x := 1000000) kc_195_609 rfl rfl ?_
  refine xi_iload (pc' := 612) (x := x4) kc_195_610 rfl rfl ?_
  refine xi_iconst (pc' := 613) (v := 4) kc_195_612 rfl rfl ?_
  obtain ⟨v7, ev7⟩ : ∃ q : Int32, x4 + 4 = q := ⟨_, rfl⟩
  have zv7 : v7.toInt = (x4.toInt + 4) := by rw [← ev7]; exact (xz_add (X := x4.toInt) (Y := 4) rfl (by decide) (by omega) (by omega)).trans (by omega)
  refine xi_iadd (pc' := 614) (v := v7) kc_195_613 rfl ev7 ?_
  obtain ⟨a8, ea8⟩ : ∃ q : Int32, xs.getD (Int32.toNatClampNeg v7) 0 = q := ⟨_, rfl⟩
  have ra8 := xc_rng a8
  refine xi_ialoadO (pc' := 615) (v := a8) kc_195_614 rfl (by decide) hov0 (xi_in (by omega) (by omega)) ea8 ?_
  obtain ⟨u9, u10, bu9, bu10, A11⟩ := xq_0 K.1
  refine xi_virtual (mj := 113) (as := [.int a2, .int a4, .int a6, .int a8]) (st1 := []) (lv0 := [(0, .ref 0), (1, .int a2), (2, .int a4), (3, .int a6), (4, .int a8)]) kc_195_615 rfl rfl rfl rfl rfl A11 (Nat.le_of_ble_eq_true rfl) (hJ _ _ _ _ (by decide)) (xm_le ml_113 rfl) rfl ?_
  refine mt_113_0 hJ hov1 hov2 (d := 96) (x1 := a2) (x2 := a4) (x3 := a6) (x4 := a8) K.1 (fun r12 hh13 br12 K14 => ?_)
  have K15 := xk_tr K K14 rfl
  obtain ⟨u16, u17, bu16, bu17, A18⟩ := xq_0 K15.1
  have e19 : u10 = u17 := xk_eqi (q := 9) K14 rfl A11 A18 rfl rfl
  subst e19
  show xw J ov 100 195 (618, [(4, .int x4), (3, .ref 167), (2, .ref 115), (1, .ref 0), (0, .ref 1000000)], [.int r12], hh13) _
  refine xi_pop (pc' := 619) kc_195_618 rfl rfl ?_
  refine xi_aload_n (pc' := 620) (x := 115) kc_195_619 rfl rfl ?_
  refine xi_aload_n (pc' := 621) (x := 1000000) kc_195_620 rfl rfl ?_
  refine xi_iload (pc' := 623) (x := x4) kc_195_621 rfl rfl ?_
  refine xi_iconst (pc' := 624) (v := 1) kc_195_623 rfl rfl ?_
  refine xi_iadd (pc' := 625) (v := v1) kc_195_624 rfl ev1 ?_
  refine xi_ialoadO (pc' := 626) (v := a2) kc_195_625 rfl (by decide) hov0 (xi_in (by omega) (by omega)) ea2 ?_
  refine xi_aload_n (pc' := 627) (x := 1000000) kc_195_626 rfl rfl ?_
  refine xi_iload (pc' := 629) (x := x4) kc_195_627 rfl rfl ?_
  refine xi_iconst (pc' := 630) (v := 2) kc_195_629 rfl rfl ?_
  refine xi_iadd (pc' := 631) (v := v3) kc_195_630 rfl ev3 ?_
  refine xi_ialoadO (pc' := 632) (v := a4) kc_195_631 rfl (by decide) hov0 (xi_in (by omega) (by omega)) ea4 ?_
  refine xi_aload_n (pc' := 633) (x := 1000000) kc_195_632 rfl rfl ?_
  refine xi_iload (pc' := 635) (x := x4) kc_195_633 rfl rfl ?_
  refine xi_iconst (pc' := 636) (v := 3) kc_195_635 rfl rfl ?_
  refine xi_iadd (pc' := 637) (v := v5) kc_195_636 rfl ev5 ?_
  refine xi_ialoadO (pc' := 638) (v := a6) kc_195_637 rfl (by decide) hov0 (xi_in (by omega) (by omega)) ea6 ?_
  refine xi_aload_n (pc' := 639) (x := 1000000) kc_195_638 rfl rfl ?_
  refine xi_iload (pc' := 641) (x := x4) kc_195_639 rfl rfl ?_
  refine xi_iconst (pc' := 642) (v := 4) kc_195_641 rfl rfl ?_
  refine xi_iadd (pc' := 643) (v := v7) kc_195_642 rfl ev7 ?_
  refine xi_ialoadO (pc' := 644) (v := a8) kc_195_643 rfl (by decide) hov0 (xi_in (by omega) (by omega)) ea8 ?_
  obtain ⟨u20, u21, u22, u23, u24, u25, u26, u27, u28, u29, u30, u31, u32, bu20, bu21, bu22, bu23, bu24, bu25, bu26, bu27, bu28, bu29, bu30, bu31, bu32, A33⟩ := xq_115 K15.1
  refine xi_virtual (mj := 30) (as := [.int a2, .int a4, .int a6, .int a8]) (st1 := []) (lv0 := [(0, .ref 115), (1, .int a2), (2, .int a4), (3, .int a6), (4, .int a8)]) kc_195_644 rfl rfl rfl rfl rfl A33 (Nat.le_of_ble_eq_true rfl) (hJ _ _ _ _ (by decide)) (xm_le ml_30 rfl) rfl ?_
  refine mt_30_0 hJ hov1 hov2 (d := 96) (x1 := a2) (x2 := a4) (x3 := a6) (x4 := a8) K15.1 (fun r34 hh35 br34 K36 => ?_)
  have K37 := xk_tr K15 K36 rfl
  obtain ⟨u38, u39, bu38, bu39, A40⟩ := xq_0 K37.1
  have e41 : u10 = u39 := xk_eqi (q := 9) K36 rfl A18 A40 rfl rfl
  subst e41
  obtain ⟨u42, u43, u44, u45, u46, u47, u48, u49, u50, u51, u52, u53, u54, bu42, bu43, bu44, bu45, bu46, bu47, bu48, bu49, bu50, bu51, bu52, bu53, bu54, A55⟩ := xq_115 K37.1
  have e56 : u21 = u43 := xk_eqi (q := 1) K36 rfl A33 A55 rfl rfl
  subst e56
  show xw J ov 100 195 (647, [(4, .int x4), (3, .ref 167), (2, .ref 115), (1, .ref 0), (0, .ref 1000000)], [.int r34], hh35) _
  refine xi_pop (pc' := 648) kc_195_647 rfl rfl ?_
  refine xi_goto (pc' := 1501) kc_195_648 rfl ?_
  obtain ⟨v57, ev57⟩ : ∃ q : Int32, x4 + 6 = q := ⟨_, rfl⟩
  have zv57 : v57.toInt = (x4.toInt + 6) := by rw [← ev57]; exact (xz_add (X := x4.toInt) (Y := 6) rfl (by decide) (by omega) (by omega)).trans (by omega)
  refine xi_iinc (pc' := 1504) (x := x4) (v := v57) (lv' := [(4, .int v57), (3, .ref 167), (2, .ref 115), (1, .ref 0), (0, .ref 1000000)]) kc_195_1501 rfl rfl ev57 rfl (xm_lt ml_195 rfl) ?_
  refine xi_goto (pc' := 23) kc_195_1504 rfl ?_
  exact kk v57 hh35 (by omega) K37
set_option maxHeartbeats 8000000 in
theorem lc_11 {J : xe_J} {ov : List (List Int32)} (hJ : ∀ d mj as h, mj ≠ xe_loff → J d mj as h = none) (hov1 : ov[1]? = some [10, 0, 0, 0, 0, 0]) (hov2 : ov[2]? = some [99, 30, 50, 50, 1, 99999]) {xs : List Int32} (hov0 : ov[0]? = some xs) {Q : Option Value → xe_H → Prop} {h : xe_H} {x4 : Int32} (hi0 : 0 ≤ x4.toInt) (hi1 : x4.toInt + 6 ≤ xs.length) (hi2 : x4.toInt ≤ 3066) (T : xt h) (kk : ∀ (i : Int32) (h' : xe_H), i.toInt = x4.toInt + 6 → xk [(29, 0), (31, 0), (33, 0), (35, 0), (37, 0), (39, 0), (41, 0), (43, 0), (45, 0), (47, 0), (49, 0), (51, 0), (125, 0)] h h' → xw J ov 100 195 (23, [(4, .int i), (3, .ref 167), (2, .ref 115), (1, .ref 0), (0, .ref 1000000)], [], h') Q) : xw J ov 100 195 (651, [(4, .int x4), (3, .ref 167), (2, .ref 115), (1, .ref 0), (0, .ref 1000000)], [], h) Q := by
  have K : xk [(29, 0), (31, 0), (33, 0), (35, 0), (37, 0), (39, 0), (41, 0), (43, 0), (45, 0), (47, 0), (49, 0), (51, 0), (125, 0)] h h := xk_re T
  refine xi_aload_n (pc' := 652) (x := 0) kc_195_651 rfl rfl ?_
  refine xi_aload_n (pc' := 653) (x := 1000000) kc_195_652 rfl rfl ?_
  refine xi_iload (pc' := 655) (x := x4) kc_195_653 rfl rfl ?_
  refine xi_iconst (pc' := 656) (v := 1) kc_195_655 rfl rfl ?_
  obtain ⟨v1, ev1⟩ : ∃ q : Int32, x4 + 1 = q := ⟨_, rfl⟩
  have zv1 : v1.toInt = (x4.toInt + 1) := by rw [← ev1]; exact (xz_add (X := x4.toInt) (Y := 1) rfl (by decide) (by omega) (by omega)).trans (by omega)
  refine xi_iadd (pc' := 657) (v := v1) kc_195_656 rfl ev1 ?_
  obtain ⟨a2, ea2⟩ : ∃ q : Int32, xs.getD (Int32.toNatClampNeg v1) 0 = q := ⟨_, rfl⟩
  have ra2 := xc_rng a2
  refine xi_ialoadO (pc' := 658) (v := a2) kc_195_657 rfl (by decide) hov0 (xi_in (by omega) (by omega)) ea2 ?_
  refine xi_aload_n (pc' := 659) (x := 1000000) kc_195_658 rfl rfl ?_
  refine xi_iload (pc' := 661) (x := x4) kc_195_659 rfl rfl ?_
  refine xi_iconst (pc' := 662) (v := 2) kc_195_661 rfl rfl ?_
  obtain ⟨v3, ev3⟩ : ∃ q : Int32, x4 + 2 = q := ⟨_, rfl⟩
  have zv3 : v3.toInt = (x4.toInt + 2) := by rw [← ev3]; exact (xz_add (X := x4.toInt) (Y := 2) rfl (by decide) (by omega) (by omega)).trans (by omega)
  refine xi_iadd (pc' := 663) (v := v3) kc_195_662 rfl ev3 ?_
  obtain ⟨a4, ea4⟩ : ∃ q : Int32, xs.getD (Int32.toNatClampNeg v3) 0 = q := ⟨_, rfl⟩
  have ra4 := xc_rng a4
  refine xi_ialoadO (pc' := 664) (v := a4) kc_195_663 rfl (by decide) hov0 (xi_in (by omega) (by omega)) ea4 ?_
  refine xi_aload_n (pc' := 665) (x := 1000000) kc_195_664 rfl rfl ?_
  refine xi_iload (pc' := 667) (x := x4) kc_195_665 rfl rfl ?_
  refine xi_iconst (pc' := 668) (v := 3) kc_195_667 rfl rfl ?_
  obtain ⟨v5, ev5⟩ : ∃ q : Int32, x4 + 3 = q := ⟨_, rfl⟩
  have zv5 : v5.toInt = (x4.toInt + 3) := by rw [← ev5]; exact (xz_add (X := x4.toInt) (Y := 3) rfl (by decide) (by omega) (by omega)).trans (by omega)
  refine xi_iadd (pc' := 669) (v := v5) kc_195_668 rfl ev5 ?_
  obtain ⟨a6, ea6⟩ : ∃ q : Int32, xs.getD (Int32.toNatClampNeg v5) 0 = q := ⟨_, rfl⟩
  have ra6 := xc_rng a6
  refine xi_ialoadO (pc' := 670) (v := a6) kc_195_669 rfl (by decide) hov0 (xi_in (by omega) (by omega)) ea6 ?_
  refine xi_aload_n (pc' := 671) (x := 1000000) kc_195_670 rfl rfl ?_
  refine xi_iload (pc' := 673) (x := x4) kc_195_671 rfl rfl ?_
  refine xi_iconst (pc' := 674) (v := 4) kc_195_673 rfl rfl ?_
  obtain ⟨v7, ev7⟩ : ∃ q : Int32, x4 + 4 = q := ⟨_, rfl⟩
  have zv7 : v7.toInt = (x4.toInt + 4) := by rw [← ev7]; exact (xz_add (X := x4.toInt) (Y := 4) rfl (by decide) (by omega) (by omega)).trans (by omega)
  refine xi_iadd (pc' := 675) (v := v7) kc_195_674 rfl ev7 ?_
  obtain ⟨a8, ea8⟩ : ∃ q : Int32, xs.getD (Int32.toNatClampNeg v7) 0 = q := ⟨_, rfl⟩
  have ra8 := xc_rng a8
  refine xi_ialoadO (pc' := 676) (v := a8) kc_195_675 rfl (by decide) hov0 (xi_in (by omega) (by omega)) ea8 ?_
  obtain ⟨u9, u10, bu9, bu10, A11⟩ := xq_0 K.1
  refine xi_virtual (mj := 116) (as := [.int a2, .int a4, .int a6, .int a8]) (st1 := []) (lv0 := [(0, .ref 0), (1, .int a2), (2, .int a4), (3, .int a6), (4, .int a8)]) kc_195_676 rfl rfl rfl rfl rfl A11 (Nat.le_of_ble_eq_true rfl) (hJ _ _ _ _ (by decide)) (xm_le ml_116 rfl) rfl ?_
  refine mt_116_0 hJ hov1 hov2 (d := 95) (x1 := a2) (x2 := a4) (x3 := a6) (x4 := a8) K.1 (fun r12 hh13 br12 K14 => ?_)
  have K15 := xk_tr K K14 rfl
  obtain ⟨u16, u17, bu16, bu17, A18⟩ := xq_0 K15.1
  have e19 : u10 = u17 := xk_eqi (q := 9) K14 rfl A11 A18 rfl rfl
  subst e19
  show xw J ov 100 195 (679, [(4, .int x4), (3, .ref 167), (2, .ref 115), (1, .ref 0), (0, .ref 1000000)], [.int r12], hh13) _
  refine xi_pop (pc' := 680) kc_195_679 rfl rfl ?_
  refine xi_aload_n (pc' := 681) (x := 115) kc_195_680 rfl rfl ?_
  refine xi_aload_n (pc' := 682) (x := 1000000) kc_195_681 rfl rfl ?_
  refine xi_iload (pc' := 684) (x := x4) kc_195_682 rfl rfl ?_
  refine xi_iconst (pc' := 685) (v := 1) kc_195_684 rfl rfl ?_
  refine xi_iadd (pc' := 686) (v := v1) kc_195_685 rfl ev1 ?_
  refine xi_ialoadO (pc' := 687) (v := a2) kc_195_686 rfl (by decide) hov0 (xi_in (by omega) (by omega)) ea2 ?_
  refine xi_aload_n (pc' := 688) (x := 1000000) kc_195_687 rfl rfl ?_
  refine xi_iload (pc' := 690) (x := x4) kc_195_688 rfl rfl ?_
  refine xi_iconst (pc' := 691) (v := 2) kc_195_690 rfl rfl ?_
  refine xi_iadd (pc' := 692) (v := v3) kc_195_691 rfl ev3 ?_
  refine xi_ialoadO (pc' := 693) (v := a4) kc_195_692 rfl (by decide) hov0 (xi_in (by omega) (by omega)) ea4 ?_
  refine xi_aload_n (pc' := 694) (x := 1000000) kc_195_693 rfl rfl ?_
  refine xi_iload (pc' := 696) (x := x4) kc_195_694 rfl rfl ?_
  refine xi_iconst (pc' := 697) (v := 3) kc_195_696 rfl rfl ?_
  refine xi_iadd (pc' := 698) (v := v5) kc_195_697 rfl ev5 ?_
  refine xi_ialoadO (pc' := 699) (v := a6) kc_195_698 rfl (by decide) hov0 (xi_in (by omega) (by omega)) ea6 ?_
  refine xi_aload_n (pc' := 700) (x := 1000000) kc_195_699 rfl rfl ?_
  refine xi_iload (pc' := 702) (x := x4) kc_195_700 rfl rfl ?_
  refine xi_iconst (pc' := 703) (v := 4) kc_195_702 rfl rfl ?_
  refine xi_iadd (pc' := 704) (v := v7) kc_195_703 rfl ev7 ?_
  refine xi_ialoadO (pc' := 705) (v := a8) kc_195_704 rfl (by decide) hov0 (xi_in (by omega) (by omega)) ea8 ?_
  obtain ⟨u20, u21, u22, u23, u24, u25, u26, u27, u28, u29, u30, u31, u32, bu20, bu21, bu22, bu23, bu24, bu25, bu26, bu27, bu28, bu29, bu30, bu31, bu32, A33⟩ := xq_115 K15.1
  refine xi_virtual (mj := 32) (as := [.int a2, .int a4, .int a6, .int a8]) (st1 := []) (lv0 := [(0, .ref 115), (1, .int a2), (2, .int a4), (3, .int a6), (4, .int a8)]) kc_195_705 rfl rfl rfl rfl rfl A33 (Nat.le_of_ble_eq_true rfl) (hJ _ _ _ _ (by decide)) (xm_le ml_32 rfl) rfl ?_
  refine mt_32_0 hJ hov1 hov2 (d := 96) (x1 := a2) (x2 := a4) (x3 := a6) (x4 := a8) K15.1 (fun r34 hh35 br34 K36 => ?_)
  have K37 := xk_tr K15 K36 rfl
  obtain ⟨u38, u39, bu38, bu39, A40⟩ := xq_0 K37.1
  have e41 : u10 = u39 := xk_eqi (q := 9) K36 rfl A18 A40 rfl rfl
  subst e41
  obtain ⟨u42, u43, u44, u45, u46, u47, u48, u49, u50, u51, u52, u53, u54, bu42, bu43, bu44, bu45, bu46, bu47, bu48, bu49, bu50, bu51, bu52, bu53, bu54, A55⟩ := xq_115 K37.1
  have e56 : u21 = u43 := xk_eqi (q := 1) K36 rfl A33 A55 rfl rfl
  subst e56
  show xw J ov 100 195 (708, [(4, .int x4), (3, .ref 167), (2, .ref 115), (1, .ref 0), (0, .ref 1000000)], [.int r34], hh35) _
  refine xi_pop (pc' := 709) kc_195_708 rfl rfl ?_
  refine xi_goto (pc' := 1501) kc_195_709 rfl ?_
  obtain ⟨v57, ev57⟩ : ∃ q : Int32, x4 + 6 = q := ⟨_, rfl⟩
  have zv57 : v57.toInt = (x4.toInt + 6) := by rw [← ev57]; exact (xz_add (X := x4.toInt) (Y := 6) rfl (by decide) (by omega) (by omega)).trans (by omega)
  refine xi_iinc (pc' := 1504) (x := x4) (v := v57) (lv' := [(4, .int v57), (3, .ref 167), (2, .ref 115), (1, .ref 0), (0, .ref 1000000)]) kc_195_1501 rfl rfl ev57 rfl (xm_lt ml_195 rfl) ?_
  refine xi_goto (pc' := 23) kc_195_1504 rfl ?_
  exact kk v57 hh35 (by omega) K37
set_option maxHeartbeats 8000000 in
theorem lc_12 {J : xe_J} {ov : List (List Int32)} (hJ : ∀ d mj as h, mj ≠ xe_loff → J d mj as h = none) (hov1 : ov[1]? = some [10, 0, 0, 0, 0, 0]) (hov2 : ov[2]? = some [99, 30, 50, 50, 1, 99999]) {xs : List Int32} (hov0 : ov[0]? = some xs) {Q : Option Value → xe_H → Prop} {h : xe_H} {x4 : Int32} (hi0 : 0 ≤ x4.toInt) (hi1 : x4.toInt + 6 ≤ xs.length) (hi2 : x4.toInt ≤ 3066) (T : xt h) (kk : ∀ (i : Int32) (h' : xe_H), i.toInt = x4.toInt + 6 → xk [(29, 0), (31, 0), (33, 0), (35, 0), (37, 0), (39, 0), (41, 0), (43, 0), (45, 0), (47, 0), (49, 0), (51, 0), (125, 0)] h h' → xw J ov 100 195 (23, [(4, .int i), (3, .ref 167), (2, .ref 115), (1, .ref 0), (0, .ref 1000000)], [], h') Q) : xw J ov 100 195 (712, [(4, .int x4), (3, .ref 167), (2, .ref 115), (1, .ref 0), (0, .ref 1000000)], [], h) Q := by
  have K : xk [(29, 0), (31, 0), (33, 0), (35, 0), (37, 0), (39, 0), (41, 0), (43, 0), (45, 0), (47, 0), (49, 0), (51, 0), (125, 0)] h h := xk_re T
  refine xi_aload_n (pc' := 713) (x := 0) kc_195_712 rfl rfl ?_
  refine xi_aload_n (pc' := 714) (x := 1000000) kc_195_713 rfl rfl ?_
  refine xi_iload (pc' := 716) (x := x4) kc_195_714 rfl rfl ?_
  refine xi_iconst (pc' := 717) (v := 1) kc_195_716 rfl rfl ?_
  obtain ⟨v1, ev1⟩ : ∃ q : Int32, x4 + 1 = q := ⟨_, rfl⟩
  have zv1 : v1.toInt = (x4.toInt + 1) := by rw [← ev1]; exact (xz_add (X := x4.toInt) (Y := 1) rfl (by decide) (by omega) (by omega)).trans (by omega)
  refine xi_iadd (pc' := 718) (v := v1) kc_195_717 rfl ev1 ?_
  obtain ⟨a2, ea2⟩ : ∃ q : Int32, xs.getD (Int32.toNatClampNeg v1) 0 = q := ⟨_, rfl⟩
  have ra2 := xc_rng a2
  refine xi_ialoadO (pc' := 719) (v := a2) kc_195_718 rfl (by decide) hov0 (xi_in (by omega) (by omega)) ea2 ?_
  refine xi_aload_n (pc' := 720) (x := 1000000) kc_195_719 rfl rfl ?_
  refine xi_iload (pc' := 722) (x := x4) kc_195_720 rfl rfl ?_
  refine xi_iconst (pc' := 723) (v := 2) kc_195_722 rfl rfl ?_
  obtain ⟨v3, ev3⟩ : ∃ q : Int32, x4 + 2 = q := ⟨_, rfl⟩
  have zv3 : v3.toInt = (x4.toInt + 2) := by rw [← ev3]; exact (xz_add (X := x4.toInt) (Y := 2) rfl (by decide) (by omega) (by omega)).trans (by omega)
  refine xi_iadd (pc' := 724) (v := v3) kc_195_723 rfl ev3 ?_
  obtain ⟨a4, ea4⟩ : ∃ q : Int32, xs.getD (Int32.toNatClampNeg v3) 0 = q := ⟨_, rfl⟩
  have ra4 := xc_rng a4
  refine xi_ialoadO (pc' := 725) (v := a4) kc_195_724 rfl (by decide) hov0 (xi_in (by omega) (by omega)) ea4 ?_
  by_cases c5 : a4.toInt = 0
  · refine xi_ift (pc' := 732) kc_195_725 rfl (xc_eq_t (X := a4.toInt) (Y := 0) rfl (by decide) (by omega)) ?_
    refine xi_iconst (pc' := 733) (v := 0) kc_195_732 rfl rfl ?_
    obtain ⟨u6, u7, bu6, bu7, A8⟩ := xq_0 K.1
    refine xi_virtual (mj := 120) (as := [.int a2, .int 0]) (st1 := []) (lv0 := [(0, .ref 0), (1, .int a2), (2, .int 0)]) kc_195_733 rfl rfl rfl rfl rfl A8 (Nat.le_of_ble_eq_true rfl) (hJ _ _ _ _ (by decide)) (xm_le ml_120 rfl) rfl ?_
    have zc0 : (0 : Int32).toInt = 0 := by decide
    refine mt_120_0 hJ hov1 hov2 (d := 98) (x1 := a2) (x2 := 0) K.1 (by first | omega | decide) (fun r9 hh10 br9 K11 => ?_)
    have K12 := xk_tr K K11 rfl
    obtain ⟨u13, u14, bu13, bu14, A15⟩ := xq_0 K12.1
    have e16 : u7 = u14 := xk_eqi (q := 9) K11 rfl A8 A15 rfl rfl
    subst e16
    show xw J ov 100 195 (736, [(4, .int x4), (3, .ref 167), (2, .ref 115), (1, .ref 0), (0, .ref 1000000)], [.int r9], hh10) _
    refine xi_pop (pc' := 737) kc_195_736 rfl rfl ?_
    refine xi_aload_n (pc' := 738) (x := 115) kc_195_737 rfl rfl ?_
    refine xi_aload_n (pc' := 739) (x := 1000000) kc_195_738 rfl rfl ?_
    refine xi_iload (pc' := 741) (x := x4) kc_195_739 rfl rfl ?_
    refine xi_iconst (pc' := 742) (v := 1) kc_195_741 rfl rfl ?_
    refine xi_iadd (pc' := 743) (v := v1) kc_195_742 rfl ev1 ?_
    refine xi_ialoadO (pc' := 744) (v := a2) kc_195_743 rfl (by decide) hov0 (xi_in (by omega) (by omega)) ea2 ?_
    refine xi_aload_n (pc' := 745) (x := 1000000) kc_195_744 rfl rfl ?_
    refine xi_iload (pc' := 747) (x := x4) kc_195_745 rfl rfl ?_
    refine xi_iconst (pc' := 748) (v := 2) kc_195_747 rfl rfl ?_
    refine xi_iadd (pc' := 749) (v := v3) kc_195_748 rfl ev3 ?_
    refine xi_ialoadO (pc' := 750) (v := a4) kc_195_749 rfl (by decide) hov0 (xi_in (by omega) (by omega)) ea4 ?_
    refine xi_ift (pc' := 757) kc_195_750 rfl (xc_eq_t (X := a4.toInt) (Y := 0) rfl (by decide) (by omega)) ?_
    refine xi_iconst (pc' := 758) (v := 0) kc_195_757 rfl rfl ?_
    obtain ⟨u17, u18, u19, u20, u21, u22, u23, u24, u25, u26, u27, u28, u29, bu17, bu18, bu19, bu20, bu21, bu22, bu23, bu24, bu25, bu26, bu27, bu28, bu29, A30⟩ := xq_115 K12.1
    refine xi_virtual (mj := 33) (as := [.int a2, .int 0]) (st1 := []) (lv0 := [(0, .ref 115), (1, .int a2), (2, .int 0)]) kc_195_758 rfl rfl rfl rfl rfl A30 (Nat.le_of_ble_eq_true rfl) (hJ _ _ _ _ (by decide)) (xm_le ml_33 rfl) rfl ?_
    have zc0 : (0 : Int32).toInt = 0 := by decide
    refine mt_33_0 hJ hov1 hov2 (d := 98) (x1 := a2) (x2 := 0) K12.1 (by first | omega | decide) (fun r31 hh32 br31 K33 => ?_)
    have K34 := xk_tr K12 K33 rfl
    obtain ⟨u35, u36, bu35, bu36, A37⟩ := xq_0 K34.1
    have e38 : u7 = u36 := xk_eqi (q := 9) K33 rfl A15 A37 rfl rfl
    subst e38
    obtain ⟨u39, u40, u41, u42, u43, u44, u45, u46, u47, u48, u49, u50, u51, bu39, bu40, bu41, bu42, bu43, bu44, bu45, bu46, bu47, bu48, bu49, bu50, bu51, A52⟩ := xq_115 K34.1
    have e53 : u18 = u40 := xk_eqi (q := 1) K33 rfl A30 A52 rfl rfl
    subst e53
    show xw J ov 100 195 (761, [(4, .int x4), (3, .ref 167), (2, .ref 115), (1, .ref 0), (0, .ref 1000000)], [.int r31], hh32) _
    refine xi_pop (pc' := 762) kc_195_761 rfl rfl ?_
    refine xi_goto (pc' := 1501) kc_195_762 rfl ?_
    obtain ⟨v54, ev54⟩ : ∃ q : Int32, x4 + 6 = q := ⟨_, rfl⟩
    have zv54 : v54.toInt = (x4.toInt + 6) := by rw [← ev54]; exact (xz_add (X := x4.toInt) (Y := 6) rfl (by decide) (by omega) (by omega)).trans (by omega)
    refine xi_iinc (pc' := 1504) (x := x4) (v := v54) (lv' := [(4, .int v54), (3, .ref 167), (2, .ref 115), (1, .ref 0), (0, .ref 1000000)]) kc_195_1501 rfl rfl ev54 rfl (xm_lt ml_195 rfl) ?_
    refine xi_goto (pc' := 23) kc_195_1504 rfl ?_
    exact kk v54 hh32 (by omega) K34
  · refine xi_iff (pc' := 728) kc_195_725 rfl (xc_eq_f (X := a4.toInt) (Y := 0) rfl (by decide) (by omega)) ?_
    refine xi_iconst (pc' := 729) (v := 1) kc_195_728 rfl rfl ?_
    refine xi_goto (pc' := 733) kc_195_729 rfl ?_
    obtain ⟨u55, u56, bu55, bu56, A57⟩ := xq_0 K.1
    refine xi_virtual (mj := 120) (as := [.int a2, .int 1]) (st1 := []) (lv0 := [(0, .ref 0), (1, .int a2), (2, .int 1)]) kc_195_733 rfl rfl rfl rfl rfl A57 (Nat.le_of_ble_eq_true rfl) (hJ _ _ _ _ (by decide)) (xm_le ml_120 rfl) rfl ?_
    have zc1 : (1 : Int32).toInt = 1 := by decide
    refine mt_120_0 hJ hov1 hov2 (d := 98) (x1 := a2) (x2 := 1) K.1 (by first | omega | decide) (fun r58 hh59 br58 K60 => ?_)
    have K61 := xk_tr K K60 rfl
    obtain ⟨u62, u63, bu62, bu63, A64⟩ := xq_0 K61.1
    have e65 : u56 = u63 := xk_eqi (q := 9) K60 rfl A57 A64 rfl rfl
    subst e65
    show xw J ov 100 195 (736, [(4, .int x4), (3, .ref 167), (2, .ref 115), (1, .ref 0), (0, .ref 1000000)], [.int r58], hh59) _
    refine xi_pop (pc' := 737) kc_195_736 rfl rfl ?_
    refine xi_aload_n (pc' := 738) (x := 115) kc_195_737 rfl rfl ?_
    refine xi_aload_n (pc' := 739) (x := 1000000) kc_195_738 rfl rfl ?_
    refine xi_iload (pc' := 741) (x := x4) kc_195_739 rfl rfl ?_
    refine xi_iconst (pc' := 742) (v := 1) kc_195_741 rfl rfl ?_
    refine xi_iadd (pc' := 743) (v := v1) kc_195_742 rfl ev1 ?_
    refine xi_ialoadO (pc' := 744) (v := a2) kc_195_743 rfl (by decide) hov0 (xi_in (by omega) (by omega)) ea2 ?_
    refine xi_aload_n (pc' := 745) (x := 1000000) kc_195_744 rfl rfl ?_
    refine xi_iload (pc' := 747) (x := x4) kc_195_745 rfl rfl ?_
    refine xi_iconst (pc' := 748) (v := 2) kc_195_747 rfl rfl ?_
    refine xi_iadd (pc' := 749) (v := v3) kc_195_748 rfl ev3 ?_
    refine xi_ialoadO (pc' := 750) (v := a4) kc_195_749 rfl (by decide) hov0 (xi_in (by omega) (by omega)) ea4 ?_
    refine xi_iff (pc' := 753) kc_195_750 rfl (xc_eq_f (X := a4.toInt) (Y := 0) rfl (by decide) (by omega)) ?_
    refine xi_iconst (pc' := 754) (v := 1) kc_195_753 rfl rfl ?_
    refine xi_goto (pc' := 758) kc_195_754 rfl ?_
    obtain ⟨u66, u67, u68, u69, u70, u71, u72, u73, u74, u75, u76, u77, u78, bu66, bu67, bu68, bu69, bu70, bu71, bu72, bu73, bu74, bu75, bu76, bu77, bu78, A79⟩ := xq_115 K61.1
    refine xi_virtual (mj := 33) (as := [.int a2, .int 1]) (st1 := []) (lv0 := [(0, .ref 115), (1, .int a2), (2, .int 1)]) kc_195_758 rfl rfl rfl rfl rfl A79 (Nat.le_of_ble_eq_true rfl) (hJ _ _ _ _ (by decide)) (xm_le ml_33 rfl) rfl ?_
    have zc1 : (1 : Int32).toInt = 1 := by decide
    refine mt_33_0 hJ hov1 hov2 (d := 98) (x1 := a2) (x2 := 1) K61.1 (by first | omega | decide) (fun r80 hh81 br80 K82 => ?_)
    have K83 := xk_tr K61 K82 rfl
    obtain ⟨u84, u85, bu84, bu85, A86⟩ := xq_0 K83.1
    have e87 : u56 = u85 := xk_eqi (q := 9) K82 rfl A64 A86 rfl rfl
    subst e87
    obtain ⟨u88, u89, u90, u91, u92, u93, u94, u95, u96, u97, u98, u99, u100, bu88, bu89, bu90, bu91, bu92, bu93, bu94, bu95, bu96, bu97, bu98, bu99, bu100, A101⟩ := xq_115 K83.1
    have e102 : u67 = u89 := xk_eqi (q := 1) K82 rfl A79 A101 rfl rfl
    subst e102
    show xw J ov 100 195 (761, [(4, .int x4), (3, .ref 167), (2, .ref 115), (1, .ref 0), (0, .ref 1000000)], [.int r80], hh81) _
    refine xi_pop (pc' := 762) kc_195_761 rfl rfl ?_
    refine xi_goto (pc' := 1501) kc_195_762 rfl ?_
    obtain ⟨v103, ev103⟩ : ∃ q : Int32, x4 + 6 = q := ⟨_, rfl⟩
    have zv103 : v103.toInt = (x4.toInt + 6) := by rw [← ev103]; exact (xz_add (X := x4.toInt) (Y := 6) rfl (by decide) (by omega) (by omega)).trans (by omega)
    refine xi_iinc (pc' := 1504) (x := x4) (v := v103) (lv' := [(4, .int v103), (3, .ref 167), (2, .ref 115), (1, .ref 0), (0, .ref 1000000)]) kc_195_1501 rfl rfl ev103 rfl (xm_lt ml_195 rfl) ?_
    refine xi_goto (pc' := 23) kc_195_1504 rfl ?_
    exact kk v103 hh81 (by omega) K83
set_option maxHeartbeats 8000000 in
theorem lc_13 {J : xe_J} {ov : List (List Int32)} (hJ : ∀ d mj as h, mj ≠ xe_loff → J d mj as h = none) (hov1 : ov[1]? = some [10, 0, 0, 0, 0, 0]) (hov2 : ov[2]? = some [99, 30, 50, 50, 1, 99999]) {xs : List Int32} (hov0 : ov[0]? = some xs) {Q : Option Value → xe_H → Prop} {h : xe_H} {x4 : Int32} (hi0 : 0 ≤ x4.toInt) (hi1 : x4.toInt + 6 ≤ xs.length) (hi2 : x4.toInt ≤ 3066) (T : xt h) (kk : ∀ (i : Int32) (h' : xe_H), i.toInt = x4.toInt + 6 → xk [(29, 0), (31, 0), (33, 0), (35, 0), (37, 0), (39, 0), (41, 0), (43, 0), (45, 0), (47, 0), (49, 0), (51, 0), (125, 0)] h h' → xw J ov 100 195 (23, [(4, .int i), (3, .ref 167), (2, .ref 115), (1, .ref 0), (0, .ref 1000000)], [], h') Q) : xw J ov 100 195 (765, [(4, .int x4), (3, .ref 167), (2, .ref 115), (1, .ref 0), (0, .ref 1000000)], [], h) Q := by
  have K : xk [(29, 0), (31, 0), (33, 0), (35, 0), (37, 0), (39, 0), (41, 0), (43, 0), (45, 0), (47, 0), (49, 0), (51, 0), (125, 0)] h h := xk_re T
  refine xi_aload_n (pc' := 766) (x := 0) kc_195_765 rfl rfl ?_
  refine xi_aload_n (pc' := 767) (x := 1000000) kc_195_766 rfl rfl ?_
  refine xi_iload (pc' := 769) (x := x4) kc_195_767 rfl rfl ?_
  refine xi_iconst (pc' := 770) (v := 1) kc_195_769 rfl rfl ?_
  obtain ⟨v1, ev1⟩ : ∃ q : Int32, x4 + 1 = q := ⟨_, rfl⟩
  have zv1 : v1.toInt = (x4.toInt + 1) := by rw [← ev1]; exact (xz_add (X := x4.toInt) (Y := 1) rfl (by decide) (by omega) (by omega)).trans (by omega)
  refine xi_iadd (pc' := 771) (v := v1) kc_195_770 rfl ev1 ?_
  obtain ⟨a2, ea2⟩ : ∃ q : Int32, xs.getD (Int32.toNatClampNeg v1) 0 = q := ⟨_, rfl⟩
  have ra2 := xc_rng a2
  refine xi_ialoadO (pc' := 772) (v := a2) kc_195_771 rfl (by decide) hov0 (xi_in (by omega) (by omega)) ea2 ?_
  obtain ⟨u3, u4, bu3, bu4, A5⟩ := xq_0 K.1
  refine xi_virtual (mj := 121) (as := [.int a2]) (st1 := []) (lv0 := [(0, .ref 0), (1, .int a2)]) kc_195_772 rfl rfl rfl rfl rfl A5 (Nat.le_of_ble_eq_true rfl) (hJ _ _ _ _ (by decide)) (xm_le ml_121 rfl) rfl ?_
  refine mt_121_0 hJ hov1 hov2 (d := 93) (x1 := a2) (u0 := u4) K.1 (by omega) (fun v e => by have e2 := xl_val (u := u4) A5 rfl e; subst e2; omega) (fun r6 hh7 br6 K8 => ?_)
  have K9 := xk_tr K K8 rfl
  show xw J ov 100 195 (775, [(4, .int x4), (3, .ref 167), (2, .ref 115), (1, .ref 0), (0, .ref 1000000)], [.int r6], hh7) _
  refine xi_pop (pc' := 776) kc_195_775 rfl rfl ?_
  refine xi_aload_n (pc' := 777) (x := 115) kc_195_776 rfl rfl ?_
  refine xi_aload_n (pc' := 778) (x := 1000000) kc_195_777 rfl rfl ?_
  refine xi_iload (pc' := 780) (x := x4) kc_195_778 rfl rfl ?_
  refine xi_iconst (pc' := 781) (v := 1) kc_195_780 rfl rfl ?_
  refine xi_iadd (pc' := 782) (v := v1) kc_195_781 rfl ev1 ?_
  refine xi_ialoadO (pc' := 783) (v := a2) kc_195_782 rfl (by decide) hov0 (xi_in (by omega) (by omega)) ea2 ?_
  obtain ⟨u10, u11, u12, u13, u14, u15, u16, u17, u18, u19, u20, u21, u22, bu10, bu11, bu12, bu13, bu14, bu15, bu16, bu17, bu18, bu19, bu20, bu21, bu22, A23⟩ := xq_115 K9.1
  refine xi_virtual (mj := 34) (as := [.int a2]) (st1 := []) (lv0 := [(0, .ref 115), (1, .int a2)]) kc_195_783 rfl rfl rfl rfl rfl A23 (Nat.le_of_ble_eq_true rfl) (hJ _ _ _ _ (by decide)) (xm_le ml_34 rfl) rfl ?_
  refine mt_34_0 hJ hov1 hov2 (d := 93) (x1 := a2) (u0 := u11) K9.1 (by omega) (fun v e => by have e2 := xl_val (u := u11) A23 rfl e; subst e2; omega) (fun r24 hh25 br24 K26 => ?_)
  have K27 := xk_tr K9 K26 rfl
  show xw J ov 100 195 (786, [(4, .int x4), (3, .ref 167), (2, .ref 115), (1, .ref 0), (0, .ref 1000000)], [.int r24], hh25) _
  refine xi_pop (pc' := 787) kc_195_786 rfl rfl ?_
  refine xi_goto (pc' := 1501) kc_195_787 rfl ?_
  obtain ⟨v28, ev28⟩ : ∃ q : Int32, x4 + 6 = q := ⟨_, rfl⟩
  have zv28 : v28.toInt = (x4.toInt + 6) := by rw [← ev28]; exact (xz_add (X := x4.toInt) (Y := 6) rfl (by decide) (by omega) (by omega)).trans (by omega)
  refine xi_iinc (pc' := 1504) (x := x4) (v := v28) (lv' := [(4, .int v28), (3, .ref 167), (2, .ref 115), (1, .ref 0), (0, .ref 1000000)]) kc_195_1501 rfl rfl ev28 rfl (xm_lt ml_195 rfl) ?_
  refine xi_goto (pc' := 23) kc_195_1504 rfl ?_
  exact kk v28 hh25 (by omega) K27
set_option maxHeartbeats 8000000 in
theorem lc_14 {J : xe_J} {ov : List (List Int32)} (hJ : ∀ d mj as h, mj ≠ xe_loff → J d mj as h = none) (hov1 : ov[1]? = some [10, 0, 0, 0, 0, 0]) (hov2 : ov[2]? = some [99, 30, 50, 50, 1, 99999]) {xs : List Int32} (hov0 : ov[0]? = some xs) (hoff : ∀ (v : Int32) (h : xe_H), xt h → h.length < xe_o → ∃ (r : Int32) (h' : xe_H), J 99 194 [.ref 0, .int v, .ref 167] h = some (some (.int r), h') ∧ xt h' ∧ (∀ l : Nat × Nat, List.elem l [(29, 0), (31, 0), (33, 0), (35, 0), (37, 0), (39, 0), (41, 0), (43, 0), (45, 0), (47, 0), (49, 0), (51, 0), (125, 0)] = true → xl h' l = xl h l) ∧ h'.length ≤ h.length + 1 ∧ xe_sz h' ≤ xe_sz h + 6) {Q : Option Value → xe_H → Prop} {h : xe_H} {x4 : Int32} (hi0 : 0 ≤ x4.toInt) (hi1 : x4.toInt + 6 ≤ xs.length) (hi2 : x4.toInt ≤ 3066) (T : xt h) (hn : h.length < xe_o) (kk : ∀ (i : Int32) (h' : xe_H), i.toInt = x4.toInt + 6 → xt h' → (∀ l : Nat × Nat, List.elem l [(29, 0), (31, 0), (33, 0), (35, 0), (37, 0), (39, 0), (41, 0), (43, 0), (45, 0), (47, 0), (49, 0), (51, 0), (125, 0)] = true → xl h' l = xl h l) → h'.length ≤ h.length + 1 → xe_sz h' ≤ xe_sz h + 6 → xw J ov 100 195 (23, [(4, .int i), (3, .ref 167), (2, .ref 115), (1, .ref 0), (0, .ref 1000000)], [], h') Q) : xw J ov 100 195 (790, [(4, .int x4), (3, .ref 167), (2, .ref 115), (1, .ref 0), (0, .ref 1000000)], [], h) Q := by
  have K : xk [(29, 0), (31, 0), (33, 0), (35, 0), (37, 0), (39, 0), (41, 0), (43, 0), (45, 0), (47, 0), (49, 0), (51, 0), (125, 0)] h h := xk_re T
  refine xi_aload_n (pc' := 791) (x := 0) kc_195_790 rfl rfl ?_
  refine xi_aload_n (pc' := 792) (x := 1000000) kc_195_791 rfl rfl ?_
  refine xi_iload (pc' := 794) (x := x4) kc_195_792 rfl rfl ?_
  refine xi_iconst (pc' := 795) (v := 1) kc_195_794 rfl rfl ?_
  obtain ⟨v1, ev1⟩ : ∃ q : Int32, x4 + 1 = q := ⟨_, rfl⟩
  have zv1 : v1.toInt = (x4.toInt + 1) := by rw [← ev1]; exact (xz_add (X := x4.toInt) (Y := 1) rfl (by decide) (by omega) (by omega)).trans (by omega)
  refine xi_iadd (pc' := 796) (v := v1) kc_195_795 rfl ev1 ?_
  obtain ⟨a2, ea2⟩ : ∃ q : Int32, xs.getD (Int32.toNatClampNeg v1) 0 = q := ⟨_, rfl⟩
  have ra2 := xc_rng a2
  refine xi_ialoadO (pc' := 797) (v := a2) kc_195_796 rfl (by decide) hov0 (xi_in (by omega) (by omega)) ea2 ?_
  refine xi_aload_n (pc' := 798) (x := 167) kc_195_797 rfl rfl ?_
  obtain ⟨r9, h9, j9, T9, f9, l9, z9⟩ := hoff a2 h T hn
  refine xi_staticJ (mj := 194) (as := [.ref 0, .int a2, .ref 167]) (st1 := []) (r := some (.int r9)) (h' := h9) kc_195_798 rfl rfl (Nat.le_of_ble_eq_true rfl) rfl rfl (Nat.le_of_ble_eq_true rfl) j9 ?_
  have K9 : xk [(29, 0), (31, 0), (33, 0), (35, 0), (37, 0), (39, 0), (41, 0), (43, 0), (45, 0), (47, 0), (49, 0), (51, 0), (125, 0)] h9 h9 := xk_re T9
  have rr9 := xc_rng r9
  show xw J ov 100 195 (801, [(4, .int x4), (3, .ref 167), (2, .ref 115), (1, .ref 0), (0, .ref 1000000)], [.int r9], h9) _
  refine xi_istore (pc' := 803) (lv' := [(5, .int r9), (4, .int x4), (3, .ref 167), (2, .ref 115), (1, .ref 0), (0, .ref 1000000)]) kc_195_801 rfl rfl (xm_lt ml_195 rfl) ?_
  refine xi_aload_n (pc' := 804) (x := 115) kc_195_803 rfl rfl ?_
  refine xi_aload_n (pc' := 805) (x := 1000000) kc_195_804 rfl rfl ?_
  refine xi_iload (pc' := 807) (x := x4) kc_195_805 rfl rfl ?_
  refine xi_iconst (pc' := 808) (v := 1) kc_195_807 rfl rfl ?_
  refine xi_iadd (pc' := 809) (v := v1) kc_195_808 rfl ev1 ?_
  refine xi_ialoadO (pc' := 810) (v := a2) kc_195_809 rfl (by decide) hov0 (xi_in (by omega) (by omega)) ea2 ?_
  obtain ⟨u101, u102, u103, u104, u105, u106, u107, u108, u109, u110, u111, u112, u113, bu101, bu102, bu103, bu104, bu105, bu106, bu107, bu108, bu109, bu110, bu111, bu112, bu113, A114⟩ := xq_115 K9.1
  refine xi_virtual (mj := 41) (as := [.int a2]) (st1 := []) (lv0 := [(0, .ref 115), (1, .int a2)]) kc_195_810 rfl rfl rfl rfl rfl A114 (Nat.le_of_ble_eq_true rfl) (hJ _ _ _ _ (by decide)) (xm_le ml_41 rfl) rfl ?_
  refine mt_41_0 hJ hov1 hov2 (d := 92) (x1 := a2) K9.1 (fun r115 hh116 K117 => ?_)
  have K118 := xk_tr K9 K117 rfl
  obtain ⟨u119, u120, u121, u122, u123, u124, u125, u126, u127, u128, u129, u130, u131, bu119, bu120, bu121, bu122, bu123, bu124, bu125, bu126, bu127, bu128, bu129, bu130, bu131, A132⟩ := xq_115 K118.1
  have e133 : u102 = u120 := xk_eqi (q := 1) K117 rfl A114 A132 rfl rfl
  subst e133
  show xw J ov 100 195 (813, [(5, .int r9), (4, .int x4), (3, .ref 167), (2, .ref 115), (1, .ref 0), (0, .ref 1000000)], [.long r115], hh116) _
  refine xi_lstore (pc' := 815) (lv' := [(6, .long r115), (5, .int r9), (4, .int x4), (3, .ref 167), (2, .ref 115), (1, .ref 0), (0, .ref 1000000)]) kc_195_813 rfl rfl (xm_lt ml_195 rfl) ?_
  refine xi_goto (pc' := 1501) kc_195_815 rfl ?_
  obtain ⟨v134, ev134⟩ : ∃ q : Int32, x4 + 6 = q := ⟨_, rfl⟩
  have zv134 : v134.toInt = (x4.toInt + 6) := by rw [← ev134]; exact (xz_add (X := x4.toInt) (Y := 6) rfl (by decide) (by omega) (by omega)).trans (by omega)
  refine xi_iinc (pc' := 1504) (x := x4) (v := v134) (lv' := [(4, .int v134), (6, .long r115), (5, .int r9), (3, .ref 167), (2, .ref 115), (1, .ref 0), (0, .ref 1000000)]) kc_195_1501 rfl rfl ev134 rfl (xm_lt ml_195 rfl) ?_
  refine xi_goto (pc' := 23) kc_195_1504 rfl ?_
  refine xw_lv (b := [(4, .int v134), (3, .ref 167), (2, .ref 115), (1, .ref 0), (0, .ref 1000000)]) (lvS_cons (lvS_cons (lvS_cons (lvS_cons (lvS_cons (lvS_nil (show ([4, 6, 5, 3, 2, 1, 0] : List Nat).Nodup by decide)) rfl) rfl) rfl) rfl) rfl) ?_
  exact kk v134 hh116 (by omega) K118.1 (fun l hl => (K118.2.1 l hl).trans (f9 l hl)) (by rw [K118.2.2.1]; exact l9) (by rw [K118.2.2.2]; exact z9)
set_option maxHeartbeats 8000000 in
theorem lc_15 {J : xe_J} {ov : List (List Int32)} (hJ : ∀ d mj as h, mj ≠ xe_loff → J d mj as h = none) (hov1 : ov[1]? = some [10, 0, 0, 0, 0, 0]) (hov2 : ov[2]? = some [99, 30, 50, 50, 1, 99999]) {xs : List Int32} (hov0 : ov[0]? = some xs) {Q : Option Value → xe_H → Prop} {h : xe_H} {x4 : Int32} (hi0 : 0 ≤ x4.toInt) (hi1 : x4.toInt + 6 ≤ xs.length) (hi2 : x4.toInt ≤ 3066) (T : xt h) (kk : ∀ (i : Int32) (h' : xe_H), i.toInt = x4.toInt + 6 → xk [(29, 0), (31, 0), (33, 0), (35, 0), (37, 0), (39, 0), (41, 0), (43, 0), (45, 0), (47, 0), (49, 0), (51, 0), (125, 0)] h h' → xw J ov 100 195 (23, [(4, .int i), (3, .ref 167), (2, .ref 115), (1, .ref 0), (0, .ref 1000000)], [], h') Q) : xw J ov 100 195 (818, [(4, .int x4), (3, .ref 167), (2, .ref 115), (1, .ref 0), (0, .ref 1000000)], [], h) Q := by
  have K : xk [(29, 0), (31, 0), (33, 0), (35, 0), (37, 0), (39, 0), (41, 0), (43, 0), (45, 0), (47, 0), (49, 0), (51, 0), (125, 0)] h h := xk_re T
  refine xi_aload_n (pc' := 819) (x := 0) kc_195_818 rfl rfl ?_
  refine xi_aload_n (pc' := 820) (x := 1000000) kc_195_819 rfl rfl ?_
  refine xi_iload (pc' := 822) (x := x4) kc_195_820 rfl rfl ?_
  refine xi_iconst (pc' := 823) (v := 1) kc_195_822 rfl rfl ?_
  obtain ⟨v1, ev1⟩ : ∃ q : Int32, x4 + 1 = q := ⟨_, rfl⟩
  have zv1 : v1.toInt = (x4.toInt + 1) := by rw [← ev1]; exact (xz_add (X := x4.toInt) (Y := 1) rfl (by decide) (by omega) (by omega)).trans (by omega)
  refine xi_iadd (pc' := 824) (v := v1) kc_195_823 rfl ev1 ?_
  obtain ⟨a2, ea2⟩ : ∃ q : Int32, xs.getD (Int32.toNatClampNeg v1) 0 = q := ⟨_, rfl⟩
  have ra2 := xc_rng a2
  refine xi_ialoadO (pc' := 825) (v := a2) kc_195_824 rfl (by decide) hov0 (xi_in (by omega) (by omega)) ea2 ?_
  refine xi_aload_n (pc' := 826) (x := 1000000) kc_195_825 rfl rfl ?_
  refine xi_iload (pc' := 828) (x := x4) kc_195_826 rfl rfl ?_
  refine xi_iconst (pc' := 829) (v := 2) kc_195_828 rfl rfl ?_
  obtain ⟨v3, ev3⟩ : ∃ q : Int32, x4 + 2 = q := ⟨_, rfl⟩
  have zv3 : v3.toInt = (x4.toInt + 2) := by rw [← ev3]; exact (xz_add (X := x4.toInt) (Y := 2) rfl (by decide) (by omega) (by omega)).trans (by omega)
  refine xi_iadd (pc' := 830) (v := v3) kc_195_829 rfl ev3 ?_
  obtain ⟨a4, ea4⟩ : ∃ q : Int32, xs.getD (Int32.toNatClampNeg v3) 0 = q := ⟨_, rfl⟩
  have ra4 := xc_rng a4
  refine xi_ialoadO (pc' := 831) (v := a4) kc_195_830 rfl (by decide) hov0 (xi_in (by omega) (by omega)) ea4 ?_
  obtain ⟨u5, u6, bu5, bu6, A7⟩ := xq_0 K.1
  refine xi_virtual (mj := 137) (as := [.int a2, .int a4]) (st1 := []) (lv0 := [(0, .ref 0), (1, .int a2), (2, .int a4)]) kc_195_831 rfl rfl rfl rfl rfl A7 (Nat.le_of_ble_eq_true rfl) (hJ _ _ _ _ (by decide)) (xm_le ml_137 rfl) rfl ?_
  refine mt_137_0 hJ hov1 hov2 (d := 93) (x1 := a2) (x2 := a4) K.1 (fun r8 hh9 K10 => ?_)
  have br8 := xc_rng r8
  have K11 := xk_tr K K10 rfl
  obtain ⟨u12, u13, bu12, bu13, A14⟩ := xq_0 K11.1
  have e15 : u6 = u13 := xk_eqi (q := 9) K10 rfl A7 A14 rfl rfl
  subst e15
  show xw J ov 100 195 (834, [(4, .int x4), (3, .ref 167), (2, .ref 115), (1, .ref 0), (0, .ref 1000000)], [.int r8], hh9) _
  refine xi_pop (pc' := 835) kc_195_834 rfl rfl ?_
  refine xi_aload_n (pc' := 836) (x := 115) kc_195_835 rfl rfl ?_
  refine xi_aload_n (pc' := 837) (x := 1000000) kc_195_836 rfl rfl ?_
  refine xi_iload (pc' := 839) (x := x4) kc_195_837 rfl rfl ?_
  refine xi_iconst (pc' := 840) (v := 1) kc_195_839 rfl rfl ?_
  refine xi_iadd (pc' := 841) (v := v1) kc_195_840 rfl ev1 ?_
  refine xi_ialoadO (pc' := 842) (v := a2) kc_195_841 rfl (by decide) hov0 (xi_in (by omega) (by omega)) ea2 ?_
  refine xi_aload_n (pc' := 843) (x := 1000000) kc_195_842 rfl rfl ?_
  refine xi_iload (pc' := 845) (x := x4) kc_195_843 rfl rfl ?_
  refine xi_iconst (pc' := 846) (v := 2) kc_195_845 rfl rfl ?_
  refine xi_iadd (pc' := 847) (v := v3) kc_195_846 rfl ev3 ?_
  refine xi_ialoadO (pc' := 848) (v := a4) kc_195_847 rfl (by decide) hov0 (xi_in (by omega) (by omega)) ea4 ?_
  obtain ⟨u16, u17, u18, u19, u20, u21, u22, u23, u24, u25, u26, u27, u28, bu16, bu17, bu18, bu19, bu20, bu21, bu22, bu23, bu24, bu25, bu26, bu27, bu28, A29⟩ := xq_115 K11.1
  refine xi_virtual (mj := 46) (as := [.int a2, .int a4]) (st1 := []) (lv0 := [(0, .ref 115), (1, .int a2), (2, .int a4)]) kc_195_848 rfl rfl rfl rfl rfl A29 (Nat.le_of_ble_eq_true rfl) (hJ _ _ _ _ (by decide)) (xm_le ml_46 rfl) rfl ?_
  refine mt_46_0 hJ hov1 hov2 (d := 93) (x1 := a2) (x2 := a4) K11.1 (fun r30 hh31 K32 => ?_)
  have br30 := xc_rng r30
  have K33 := xk_tr K11 K32 rfl
  obtain ⟨u34, u35, bu34, bu35, A36⟩ := xq_0 K33.1
  have e37 : u6 = u35 := xk_eqi (q := 9) K32 rfl A14 A36 rfl rfl
  subst e37
  obtain ⟨u38, u39, u40, u41, u42, u43, u44, u45, u46, u47, u48, u49, u50, bu38, bu39, bu40, bu41, bu42, bu43, bu44, bu45, bu46, bu47, bu48, bu49, bu50, A51⟩ := xq_115 K33.1
  have e52 : u17 = u39 := xk_eqi (q := 1) K32 rfl A29 A51 rfl rfl
  subst e52
  show xw J ov 100 195 (851, [(4, .int x4), (3, .ref 167), (2, .ref 115), (1, .ref 0), (0, .ref 1000000)], [.int r30], hh31) _
  refine xi_pop (pc' := 852) kc_195_851 rfl rfl ?_
  refine xi_goto (pc' := 1501) kc_195_852 rfl ?_
  obtain ⟨v53, ev53⟩ : ∃ q : Int32, x4 + 6 = q := ⟨_, rfl⟩
  have zv53 : v53.toInt = (x4.toInt + 6) := by rw [← ev53]; exact (xz_add (X := x4.toInt) (Y := 6) rfl (by decide) (by omega) (by omega)).trans (by omega)
  refine xi_iinc (pc' := 1504) (x := x4) (v := v53) (lv' := [(4, .int v53), (3, .ref 167), (2, .ref 115), (1, .ref 0), (0, .ref 1000000)]) kc_195_1501 rfl rfl ev53 rfl (xm_lt ml_195 rfl) ?_
  refine xi_goto (pc' := 23) kc_195_1504 rfl ?_
  exact kk v53 hh31 (by omega) K33
set_option maxHeartbeats 8000000 in
theorem lc_16 {J : xe_J} {ov : List (List Int32)} (hJ : ∀ d mj as h, mj ≠ xe_loff → J d mj as h = none) (hov1 : ov[1]? = some [10, 0, 0, 0, 0, 0]) (hov2 : ov[2]? = some [99, 30, 50, 50, 1, 99999]) {xs : List Int32} (hov0 : ov[0]? = some xs) {Q : Option Value → xe_H → Prop} {h : xe_H} {x4 : Int32} (hi0 : 0 ≤ x4.toInt) (hi1 : x4.toInt + 6 ≤ xs.length) (hi2 : x4.toInt ≤ 3066) (T : xt h) (kk : ∀ (i : Int32) (h' : xe_H), i.toInt = x4.toInt + 6 → xk [(29, 0), (31, 0), (33, 0), (35, 0), (37, 0), (39, 0), (41, 0), (43, 0), (45, 0), (47, 0), (49, 0), (51, 0), (125, 0)] h h' → xw J ov 100 195 (23, [(4, .int i), (3, .ref 167), (2, .ref 115), (1, .ref 0), (0, .ref 1000000)], [], h') Q) : xw J ov 100 195 (855, [(4, .int x4), (3, .ref 167), (2, .ref 115), (1, .ref 0), (0, .ref 1000000)], [], h) Q := by
  have K : xk [(29, 0), (31, 0), (33, 0), (35, 0), (37, 0), (39, 0), (41, 0), (43, 0), (45, 0), (47, 0), (49, 0), (51, 0), (125, 0)] h h := xk_re T
  refine xi_aload_n (pc' := 856) (x := 0) kc_195_855 rfl rfl ?_
  obtain ⟨u1, u2, bu1, bu2, A3⟩ := xq_0 K.1
  refine xi_virtual (mj := 144) (as := []) (st1 := []) (lv0 := [(0, .ref 0)]) kc_195_856 rfl rfl rfl rfl rfl A3 (Nat.le_of_ble_eq_true rfl) (hJ _ _ _ _ (by decide)) (xm_le ml_144 rfl) rfl ?_
  refine mt_144_0 hJ hov1 hov2 (d := 92)  K.1 (fun r4 hh5 br4 K6 => ?_)
  have K7 := xk_tr K K6 rfl
  obtain ⟨u8, u9, bu8, bu9, A10⟩ := xq_0 K7.1
  have e11 : u2 = u9 := xk_eqi (q := 9) K6 rfl A3 A10 rfl rfl
  subst e11
  show xw J ov 100 195 (859, [(4, .int x4), (3, .ref 167), (2, .ref 115), (1, .ref 0), (0, .ref 1000000)], [.int r4], hh5) _
  refine xi_pop (pc' := 860) kc_195_859 rfl rfl ?_
  refine xi_aload_n (pc' := 861) (x := 115) kc_195_860 rfl rfl ?_
  obtain ⟨u12, u13, u14, u15, u16, u17, u18, u19, u20, u21, u22, u23, u24, bu12, bu13, bu14, bu15, bu16, bu17, bu18, bu19, bu20, bu21, bu22, bu23, bu24, A25⟩ := xq_115 K7.1
  refine xi_virtual (mj := 47) (as := []) (st1 := []) (lv0 := [(0, .ref 115)]) kc_195_861 rfl rfl rfl rfl rfl A25 (Nat.le_of_ble_eq_true rfl) (hJ _ _ _ _ (by decide)) (xm_le ml_47 rfl) rfl ?_
  refine mt_47_0 hJ hov1 hov2 (d := 91)  K7.1 (fun r26 hh27 br26 K28 => ?_)
  have K29 := xk_tr K7 K28 rfl
  obtain ⟨u30, u31, bu30, bu31, A32⟩ := xq_0 K29.1
  have e33 : u2 = u31 := xk_eqi (q := 9) K28 rfl A10 A32 rfl rfl
  subst e33
  obtain ⟨u34, u35, u36, u37, u38, u39, u40, u41, u42, u43, u44, u45, u46, bu34, bu35, bu36, bu37, bu38, bu39, bu40, bu41, bu42, bu43, bu44, bu45, bu46, A47⟩ := xq_115 K29.1
  have e48 : u13 = u35 := xk_eqi (q := 1) K28 rfl A25 A47 rfl rfl
  subst e48
  show xw J ov 100 195 (864, [(4, .int x4), (3, .ref 167), (2, .ref 115), (1, .ref 0), (0, .ref 1000000)], [.int r26], hh27) _
  refine xi_pop (pc' := 865) kc_195_864 rfl rfl ?_
  refine xi_goto (pc' := 1501) kc_195_865 rfl ?_
  obtain ⟨v49, ev49⟩ : ∃ q : Int32, x4 + 6 = q := ⟨_, rfl⟩
  have zv49 : v49.toInt = (x4.toInt + 6) := by rw [← ev49]; exact (xz_add (X := x4.toInt) (Y := 6) rfl (by decide) (by omega) (by omega)).trans (by omega)
  refine xi_iinc (pc' := 1504) (x := x4) (v := v49) (lv' := [(4, .int v49), (3, .ref 167), (2, .ref 115), (1, .ref 0), (0, .ref 1000000)]) kc_195_1501 rfl rfl ev49 rfl (xm_lt ml_195 rfl) ?_
  refine xi_goto (pc' := 23) kc_195_1504 rfl ?_
  exact kk v49 hh27 (by omega) K29
set_option maxHeartbeats 8000000 in
theorem lc_17 {J : xe_J} {ov : List (List Int32)} (hJ : ∀ d mj as h, mj ≠ xe_loff → J d mj as h = none) (hov1 : ov[1]? = some [10, 0, 0, 0, 0, 0]) (hov2 : ov[2]? = some [99, 30, 50, 50, 1, 99999]) {xs : List Int32} (hov0 : ov[0]? = some xs) {Q : Option Value → xe_H → Prop} {h : xe_H} {x4 : Int32} (hi0 : 0 ≤ x4.toInt) (hi1 : x4.toInt + 6 ≤ xs.length) (hi2 : x4.toInt ≤ 3066) (T : xt h) (kk : ∀ (i : Int32) (h' : xe_H), i.toInt = x4.toInt + 6 → xk [(29, 0), (31, 0), (33, 0), (35, 0), (37, 0), (39, 0), (41, 0), (43, 0), (45, 0), (47, 0), (49, 0), (51, 0), (125, 0)] h h' → xw J ov 100 195 (23, [(4, .int i), (3, .ref 167), (2, .ref 115), (1, .ref 0), (0, .ref 1000000)], [], h') Q) : xw J ov 100 195 (868, [(4, .int x4), (3, .ref 167), (2, .ref 115), (1, .ref 0), (0, .ref 1000000)], [], h) Q := by
  have K : xk [(29, 0), (31, 0), (33, 0), (35, 0), (37, 0), (39, 0), (41, 0), (43, 0), (45, 0), (47, 0), (49, 0), (51, 0), (125, 0)] h h := xk_re T
  refine xi_aload_n (pc' := 869) (x := 0) kc_195_868 rfl rfl ?_
  refine xi_aload_n (pc' := 870) (x := 1000000) kc_195_869 rfl rfl ?_
  refine xi_iload (pc' := 872) (x := x4) kc_195_870 rfl rfl ?_
  refine xi_iconst (pc' := 873) (v := 1) kc_195_872 rfl rfl ?_
  obtain ⟨v1, ev1⟩ : ∃ q : Int32, x4 + 1 = q := ⟨_, rfl⟩
  have zv1 : v1.toInt = (x4.toInt + 1) := by rw [← ev1]; exact (xz_add (X := x4.toInt) (Y := 1) rfl (by decide) (by omega) (by omega)).trans (by omega)
  refine xi_iadd (pc' := 874) (v := v1) kc_195_873 rfl ev1 ?_
  obtain ⟨a2, ea2⟩ : ∃ q : Int32, xs.getD (Int32.toNatClampNeg v1) 0 = q := ⟨_, rfl⟩
  have ra2 := xc_rng a2
  refine xi_ialoadO (pc' := 875) (v := a2) kc_195_874 rfl (by decide) hov0 (xi_in (by omega) (by omega)) ea2 ?_
  obtain ⟨u3, u4, bu3, bu4, A5⟩ := xq_0 K.1
  refine xi_virtual (mj := 148) (as := [.int a2]) (st1 := []) (lv0 := [(0, .ref 0), (1, .int a2)]) kc_195_875 rfl rfl rfl rfl rfl A5 (Nat.le_of_ble_eq_true rfl) (hJ _ _ _ _ (by decide)) (xm_le ml_148 rfl) rfl ?_
  refine mt_148_0 hJ hov1 hov2 (d := 92) (x1 := a2) K.1 (fun r6 hh7 K8 => ?_)
  have br6 := xc_rng r6
  have K9 := xk_tr K K8 rfl
  obtain ⟨u10, u11, bu10, bu11, A12⟩ := xq_0 K9.1
  have e13 : u4 = u11 := xk_eqi (q := 9) K8 rfl A5 A12 rfl rfl
  subst e13
  show xw J ov 100 195 (878, [(4, .int x4), (3, .ref 167), (2, .ref 115), (1, .ref 0), (0, .ref 1000000)], [.int r6], hh7) _
  refine xi_pop (pc' := 879) kc_195_878 rfl rfl ?_
  refine xi_aload_n (pc' := 880) (x := 115) kc_195_879 rfl rfl ?_
  refine xi_aload_n (pc' := 881) (x := 1000000) kc_195_880 rfl rfl ?_
  refine xi_iload (pc' := 883) (x := x4) kc_195_881 rfl rfl ?_
  refine xi_iconst (pc' := 884) (v := 1) kc_195_883 rfl rfl ?_
  refine xi_iadd (pc' := 885) (v := v1) kc_195_884 rfl ev1 ?_
  refine xi_ialoadO (pc' := 886) (v := a2) kc_195_885 rfl (by decide) hov0 (xi_in (by omega) (by omega)) ea2 ?_
  obtain ⟨u14, u15, u16, u17, u18, u19, u20, u21, u22, u23, u24, u25, u26, bu14, bu15, bu16, bu17, bu18, bu19, bu20, bu21, bu22, bu23, bu24, bu25, bu26, A27⟩ := xq_115 K9.1
  refine xi_virtual (mj := 50) (as := [.int a2]) (st1 := []) (lv0 := [(0, .ref 115), (1, .int a2)]) kc_195_886 rfl rfl rfl rfl rfl A27 (Nat.le_of_ble_eq_true rfl) (hJ _ _ _ _ (by decide)) (xm_le ml_50 rfl) rfl ?_
  refine mt_50_0 hJ hov1 hov2 (d := 92) (x1 := a2) K9.1 (fun r28 hh29 K30 => ?_)
  have br28 := xc_rng r28
  have K31 := xk_tr K9 K30 rfl
  obtain ⟨u32, u33, bu32, bu33, A34⟩ := xq_0 K31.1
  have e35 : u4 = u33 := xk_eqi (q := 9) K30 rfl A12 A34 rfl rfl
  subst e35
  obtain ⟨u36, u37, u38, u39, u40, u41, u42, u43, u44, u45, u46, u47, u48, bu36, bu37, bu38, bu39, bu40, bu41, bu42, bu43, bu44, bu45, bu46, bu47, bu48, A49⟩ := xq_115 K31.1
  have e50 : u15 = u37 := xk_eqi (q := 1) K30 rfl A27 A49 rfl rfl
  subst e50
  show xw J ov 100 195 (889, [(4, .int x4), (3, .ref 167), (2, .ref 115), (1, .ref 0), (0, .ref 1000000)], [.int r28], hh29) _
  refine xi_pop (pc' := 890) kc_195_889 rfl rfl ?_
  refine xi_goto (pc' := 1501) kc_195_890 rfl ?_
  obtain ⟨v51, ev51⟩ : ∃ q : Int32, x4 + 6 = q := ⟨_, rfl⟩
  have zv51 : v51.toInt = (x4.toInt + 6) := by rw [← ev51]; exact (xz_add (X := x4.toInt) (Y := 6) rfl (by decide) (by omega) (by omega)).trans (by omega)
  refine xi_iinc (pc' := 1504) (x := x4) (v := v51) (lv' := [(4, .int v51), (3, .ref 167), (2, .ref 115), (1, .ref 0), (0, .ref 1000000)]) kc_195_1501 rfl rfl ev51 rfl (xm_lt ml_195 rfl) ?_
  refine xi_goto (pc' := 23) kc_195_1504 rfl ?_
  exact kk v51 hh29 (by omega) K31
set_option maxHeartbeats 8000000 in
theorem lc_18 {J : xe_J} {ov : List (List Int32)} (hJ : ∀ d mj as h, mj ≠ xe_loff → J d mj as h = none) (hov1 : ov[1]? = some [10, 0, 0, 0, 0, 0]) (hov2 : ov[2]? = some [99, 30, 50, 50, 1, 99999]) {xs : List Int32} (hov0 : ov[0]? = some xs) {Q : Option Value → xe_H → Prop} {h : xe_H} {x4 : Int32} (hi0 : 0 ≤ x4.toInt) (hi1 : x4.toInt + 6 ≤ xs.length) (hi2 : x4.toInt ≤ 3066) (T : xt h) (kk : ∀ (i : Int32) (h' : xe_H), i.toInt = x4.toInt + 6 → xk [(29, 0), (31, 0), (33, 0), (35, 0), (37, 0), (39, 0), (41, 0), (43, 0), (45, 0), (47, 0), (49, 0), (51, 0), (125, 0)] h h' → xw J ov 100 195 (23, [(4, .int i), (3, .ref 167), (2, .ref 115), (1, .ref 0), (0, .ref 1000000)], [], h') Q) : xw J ov 100 195 (893, [(4, .int x4), (3, .ref 167), (2, .ref 115), (1, .ref 0), (0, .ref 1000000)], [], h) Q := by
  have K : xk [(29, 0), (31, 0), (33, 0), (35, 0), (37, 0), (39, 0), (41, 0), (43, 0), (45, 0), (47, 0), (49, 0), (51, 0), (125, 0)] h h := xk_re T
  refine xi_aload_n (pc' := 894) (x := 0) kc_195_893 rfl rfl ?_
  obtain ⟨u1, u2, bu1, bu2, A3⟩ := xq_0 K.1
  refine xi_virtual (mj := 151) (as := []) (st1 := []) (lv0 := [(0, .ref 0)]) kc_195_894 rfl rfl rfl rfl rfl A3 (Nat.le_of_ble_eq_true rfl) (hJ _ _ _ _ (by decide)) (xm_le ml_151 rfl) rfl ?_
  refine mt_151_0 hJ hov1 hov2 (d := 91)  K.1 (fun r4 hh5 K6 => ?_)
  have br4 := xc_rng r4
  have K7 := xk_tr K K6 rfl
  obtain ⟨u8, u9, bu8, bu9, A10⟩ := xq_0 K7.1
  have e11 : u2 = u9 := xk_eqi (q := 9) K6 rfl A3 A10 rfl rfl
  subst e11
  show xw J ov 100 195 (897, [(4, .int x4), (3, .ref 167), (2, .ref 115), (1, .ref 0), (0, .ref 1000000)], [.int r4], hh5) _
  refine xi_pop (pc' := 898) kc_195_897 rfl rfl ?_
  refine xi_aload_n (pc' := 899) (x := 115) kc_195_898 rfl rfl ?_
  obtain ⟨u12, u13, u14, u15, u16, u17, u18, u19, u20, u21, u22, u23, u24, bu12, bu13, bu14, bu15, bu16, bu17, bu18, bu19, bu20, bu21, bu22, bu23, bu24, A25⟩ := xq_115 K7.1
  refine xi_virtual (mj := 51) (as := []) (st1 := []) (lv0 := [(0, .ref 115)]) kc_195_899 rfl rfl rfl rfl rfl A25 (Nat.le_of_ble_eq_true rfl) (hJ _ _ _ _ (by decide)) (xm_le ml_51 rfl) rfl ?_
  refine mt_51_0 hJ hov1 hov2 (d := 91)  K7.1 (fun r26 hh27 K28 => ?_)
  have br26 := xc_rng r26
  have K29 := xk_tr K7 K28 rfl
  obtain ⟨u30, u31, bu30, bu31, A32⟩ := xq_0 K29.1
  have e33 : u2 = u31 := xk_eqi (q := 9) K28 rfl A10 A32 rfl rfl
  subst e33
  obtain ⟨u34, u35, u36, u37, u38, u39, u40, u41, u42, u43, u44, u45, u46, bu34, bu35, bu36, bu37, bu38, bu39, bu40, bu41, bu42, bu43, bu44, bu45, bu46, A47⟩ := xq_115 K29.1
  have e48 : u13 = u35 := xk_eqi (q := 1) K28 rfl A25 A47 rfl rfl
  subst e48
  show xw J ov 100 195 (902, [(4, .int x4), (3, .ref 167), (2, .ref 115), (1, .ref 0), (0, .ref 1000000)], [.int r26], hh27) _
  refine xi_pop (pc' := 903) kc_195_902 rfl rfl ?_
  refine xi_goto (pc' := 1501) kc_195_903 rfl ?_
  obtain ⟨v49, ev49⟩ : ∃ q : Int32, x4 + 6 = q := ⟨_, rfl⟩
  have zv49 : v49.toInt = (x4.toInt + 6) := by rw [← ev49]; exact (xz_add (X := x4.toInt) (Y := 6) rfl (by decide) (by omega) (by omega)).trans (by omega)
  refine xi_iinc (pc' := 1504) (x := x4) (v := v49) (lv' := [(4, .int v49), (3, .ref 167), (2, .ref 115), (1, .ref 0), (0, .ref 1000000)]) kc_195_1501 rfl rfl ev49 rfl (xm_lt ml_195 rfl) ?_
  refine xi_goto (pc' := 23) kc_195_1504 rfl ?_
  exact kk v49 hh27 (by omega) K29
set_option maxHeartbeats 8000000 in
theorem lc_19 {J : xe_J} {ov : List (List Int32)} (hJ : ∀ d mj as h, mj ≠ xe_loff → J d mj as h = none) (hov1 : ov[1]? = some [10, 0, 0, 0, 0, 0]) (hov2 : ov[2]? = some [99, 30, 50, 50, 1, 99999]) {xs : List Int32} (hov0 : ov[0]? = some xs) {Q : Option Value → xe_H → Prop} {h : xe_H} {x4 : Int32} (hi0 : 0 ≤ x4.toInt) (hi1 : x4.toInt + 6 ≤ xs.length) (hi2 : x4.toInt ≤ 3066) (T : xt h) (kk : ∀ (i : Int32) (h' : xe_H), i.toInt = x4.toInt + 6 → xk [(29, 0), (31, 0), (33, 0), (35, 0), (37, 0), (39, 0), (41, 0), (43, 0), (45, 0), (47, 0), (49, 0), (51, 0), (125, 0)] h h' → xw J ov 100 195 (23, [(4, .int i), (3, .ref 167), (2, .ref 115), (1, .ref 0), (0, .ref 1000000)], [], h') Q) : xw J ov 100 195 (906, [(4, .int x4), (3, .ref 167), (2, .ref 115), (1, .ref 0), (0, .ref 1000000)], [], h) Q := by
  have K : xk [(29, 0), (31, 0), (33, 0), (35, 0), (37, 0), (39, 0), (41, 0), (43, 0), (45, 0), (47, 0), (49, 0), (51, 0), (125, 0)] h h := xk_re T
  refine xi_aload_n (pc' := 907) (x := 0) kc_195_906 rfl rfl ?_
  refine xi_aload_n (pc' := 908) (x := 1000000) kc_195_907 rfl rfl ?_
  refine xi_iload (pc' := 910) (x := x4) kc_195_908 rfl rfl ?_
  refine xi_iconst (pc' := 911) (v := 1) kc_195_910 rfl rfl ?_
  obtain ⟨v1, ev1⟩ : ∃ q : Int32, x4 + 1 = q := ⟨_, rfl⟩
  have zv1 : v1.toInt = (x4.toInt + 1) := by rw [← ev1]; exact (xz_add (X := x4.toInt) (Y := 1) rfl (by decide) (by omega) (by omega)).trans (by omega)
  refine xi_iadd (pc' := 912) (v := v1) kc_195_911 rfl ev1 ?_
  obtain ⟨a2, ea2⟩ : ∃ q : Int32, xs.getD (Int32.toNatClampNeg v1) 0 = q := ⟨_, rfl⟩
  have ra2 := xc_rng a2
  refine xi_ialoadO (pc' := 913) (v := a2) kc_195_912 rfl (by decide) hov0 (xi_in (by omega) (by omega)) ea2 ?_
  refine xi_aload_n (pc' := 914) (x := 1000000) kc_195_913 rfl rfl ?_
  refine xi_iload (pc' := 916) (x := x4) kc_195_914 rfl rfl ?_
  refine xi_iconst (pc' := 917) (v := 2) kc_195_916 rfl rfl ?_
  obtain ⟨v3, ev3⟩ : ∃ q : Int32, x4 + 2 = q := ⟨_, rfl⟩
  have zv3 : v3.toInt = (x4.toInt + 2) := by rw [← ev3]; exact (xz_add (X := x4.toInt) (Y := 2) rfl (by decide) (by omega) (by omega)).trans (by omega)
  refine xi_iadd (pc' := 918) (v := v3) kc_195_917 rfl ev3 ?_
  obtain ⟨a4, ea4⟩ : ∃ q : Int32, xs.getD (Int32.toNatClampNeg v3) 0 = q := ⟨_, rfl⟩
  have ra4 := xc_rng a4
  refine xi_ialoadO (pc' := 919) (v := a4) kc_195_918 rfl (by decide) hov0 (xi_in (by omega) (by omega)) ea4 ?_
  obtain ⟨u5, u6, bu5, bu6, A7⟩ := xq_0 K.1
  refine xi_virtual (mj := 155) (as := [.int a2, .int a4]) (st1 := []) (lv0 := [(0, .ref 0), (1, .int a2), (2, .int a4)]) kc_195_919 rfl rfl rfl rfl rfl A7 (Nat.le_of_ble_eq_true rfl) (hJ _ _ _ _ (by decide)) (xm_le ml_155 rfl) rfl ?_
  refine mt_155_0 hJ hov1 hov2 (d := 97) (x1 := a2) (x2 := a4) K.1 (fun r8 hh9 br8 K10 => ?_)
  have K11 := xk_tr K K10 rfl
  obtain ⟨u12, u13, bu12, bu13, A14⟩ := xq_0 K11.1
  have e15 : u6 = u13 := xk_eqi (q := 9) K10 rfl A7 A14 rfl rfl
  subst e15
  show xw J ov 100 195 (922, [(4, .int x4), (3, .ref 167), (2, .ref 115), (1, .ref 0), (0, .ref 1000000)], [.int r8], hh9) _
  refine xi_pop (pc' := 923) kc_195_922 rfl rfl ?_
  refine xi_aload_n (pc' := 924) (x := 115) kc_195_923 rfl rfl ?_
  refine xi_aload_n (pc' := 925) (x := 1000000) kc_195_924 rfl rfl ?_
  refine xi_iload (pc' := 927) (x := x4) kc_195_925 rfl rfl ?_
  refine xi_iconst (pc' := 928) (v := 1) kc_195_927 rfl rfl ?_
  refine xi_iadd (pc' := 929) (v := v1) kc_195_928 rfl ev1 ?_
  refine xi_ialoadO (pc' := 930) (v := a2) kc_195_929 rfl (by decide) hov0 (xi_in (by omega) (by omega)) ea2 ?_
  refine xi_aload_n (pc' := 931) (x := 1000000) kc_195_930 rfl rfl ?_
  refine xi_iload (pc' := 933) (x := x4) kc_195_931 rfl rfl ?_
  refine xi_iconst (pc' := 934) (v := 2) kc_195_933 rfl rfl ?_
  refine xi_iadd (pc' := 935) (v := v3) kc_195_934 rfl ev3 ?_
  refine xi_ialoadO (pc' := 936) (v := a4) kc_195_935 rfl (by decide) hov0 (xi_in (by omega) (by omega)) ea4 ?_
  obtain ⟨u16, u17, u18, u19, u20, u21, u22, u23, u24, u25, u26, u27, u28, bu16, bu17, bu18, bu19, bu20, bu21, bu22, bu23, bu24, bu25, bu26, bu27, bu28, A29⟩ := xq_115 K11.1
  refine xi_virtual (mj := 55) (as := [.int a2, .int a4]) (st1 := []) (lv0 := [(0, .ref 115), (1, .int a2), (2, .int a4)]) kc_195_936 rfl rfl rfl rfl rfl A29 (Nat.le_of_ble_eq_true rfl) (hJ _ _ _ _ (by decide)) (xm_le ml_55 rfl) rfl ?_
  refine mt_55_0 hJ hov1 hov2 (d := 98) (x1 := a2) (x2 := a4) K11.1 (fun r30 hh31 br30 K32 => ?_)
  have K33 := xk_tr K11 K32 rfl
  obtain ⟨u34, u35, bu34, bu35, A36⟩ := xq_0 K33.1
  have e37 : u6 = u35 := xk_eqi (q := 9) K32 rfl A14 A36 rfl rfl
  subst e37
  obtain ⟨u38, u39, u40, u41, u42, u43, u44, u45, u46, u47, u48, u49, u50, bu38, bu39, bu40, bu41, bu42, bu43, bu44, bu45, bu46, bu47, bu48, bu49, bu50, A51⟩ := xq_115 K33.1
  have e52 : u17 = u39 := xk_eqi (q := 1) K32 rfl A29 A51 rfl rfl
  subst e52
  show xw J ov 100 195 (939, [(4, .int x4), (3, .ref 167), (2, .ref 115), (1, .ref 0), (0, .ref 1000000)], [.int r30], hh31) _
  refine xi_pop (pc' := 940) kc_195_939 rfl rfl ?_
  refine xi_goto (pc' := 1501) kc_195_940 rfl ?_
  obtain ⟨v53, ev53⟩ : ∃ q : Int32, x4 + 6 = q := ⟨_, rfl⟩
  have zv53 : v53.toInt = (x4.toInt + 6) := by rw [← ev53]; exact (xz_add (X := x4.toInt) (Y := 6) rfl (by decide) (by omega) (by omega)).trans (by omega)
  refine xi_iinc (pc' := 1504) (x := x4) (v := v53) (lv' := [(4, .int v53), (3, .ref 167), (2, .ref 115), (1, .ref 0), (0, .ref 1000000)]) kc_195_1501 rfl rfl ev53 rfl (xm_lt ml_195 rfl) ?_
  refine xi_goto (pc' := 23) kc_195_1504 rfl ?_
  exact kk v53 hh31 (by omega) K33
set_option maxHeartbeats 8000000 in
theorem lc_20 {J : xe_J} {ov : List (List Int32)} (hJ : ∀ d mj as h, mj ≠ xe_loff → J d mj as h = none) (hov1 : ov[1]? = some [10, 0, 0, 0, 0, 0]) (hov2 : ov[2]? = some [99, 30, 50, 50, 1, 99999]) {xs : List Int32} (hov0 : ov[0]? = some xs) {Q : Option Value → xe_H → Prop} {h : xe_H} {x4 : Int32} (hi0 : 0 ≤ x4.toInt) (hi1 : x4.toInt + 6 ≤ xs.length) (hi2 : x4.toInt ≤ 3066) (T : xt h) (kk : ∀ (i : Int32) (h' : xe_H), i.toInt = x4.toInt + 6 → xk [(29, 0), (31, 0), (33, 0), (35, 0), (37, 0), (39, 0), (41, 0), (43, 0), (45, 0), (47, 0), (49, 0), (51, 0), (125, 0)] h h' → xw J ov 100 195 (23, [(4, .int i), (3, .ref 167), (2, .ref 115), (1, .ref 0), (0, .ref 1000000)], [], h') Q) : xw J ov 100 195 (943, [(4, .int x4), (3, .ref 167), (2, .ref 115), (1, .ref 0), (0, .ref 1000000)], [], h) Q := by
  have K : xk [(29, 0), (31, 0), (33, 0), (35, 0), (37, 0), (39, 0), (41, 0), (43, 0), (45, 0), (47, 0), (49, 0), (51, 0), (125, 0)] h h := xk_re T
  refine xi_aload_n (pc' := 944) (x := 0) kc_195_943 rfl rfl ?_
  refine xi_aload_n (pc' := 945) (x := 1000000) kc_195_944 rfl rfl ?_
  refine xi_iload (pc' := 947) (x := x4) kc_195_945 rfl rfl ?_
  refine xi_iconst (pc' := 948) (v := 1) kc_195_947 rfl rfl ?_
  obtain ⟨v1, ev1⟩ : ∃ q : Int32, x4 + 1 = q := ⟨_, rfl⟩
  have zv1 : v1.toInt = (x4.toInt + 1) := by rw [← ev1]; exact (xz_add (X := x4.toInt) (Y := 1) rfl (by decide) (by omega) (by omega)).trans (by omega)
  refine xi_iadd (pc' := 949) (v := v1) kc_195_948 rfl ev1 ?_
  obtain ⟨a2, ea2⟩ : ∃ q : Int32, xs.getD (Int32.toNatClampNeg v1) 0 = q := ⟨_, rfl⟩
  have ra2 := xc_rng a2
  refine xi_ialoadO (pc' := 950) (v := a2) kc_195_949 rfl (by decide) hov0 (xi_in (by omega) (by omega)) ea2 ?_
  refine xi_aload_n (pc' := 951) (x := 1000000) kc_195_950 rfl rfl ?_
  refine xi_iload (pc' := 953) (x := x4) kc_195_951 rfl rfl ?_
  refine xi_iconst (pc' := 954) (v := 2) kc_195_953 rfl rfl ?_
  obtain ⟨v3, ev3⟩ : ∃ q : Int32, x4 + 2 = q := ⟨_, rfl⟩
  have zv3 : v3.toInt = (x4.toInt + 2) := by rw [← ev3]; exact (xz_add (X := x4.toInt) (Y := 2) rfl (by decide) (by omega) (by omega)).trans (by omega)
  refine xi_iadd (pc' := 955) (v := v3) kc_195_954 rfl ev3 ?_
  obtain ⟨a4, ea4⟩ : ∃ q : Int32, xs.getD (Int32.toNatClampNeg v3) 0 = q := ⟨_, rfl⟩
  have ra4 := xc_rng a4
  refine xi_ialoadO (pc' := 956) (v := a4) kc_195_955 rfl (by decide) hov0 (xi_in (by omega) (by omega)) ea4 ?_
  by_cases c5 : a4.toInt = 0
  · refine xi_ift (pc' := 963) kc_195_956 rfl (xc_eq_t (X := a4.toInt) (Y := 0) rfl (by decide) (by omega)) ?_
    refine xi_iconst (pc' := 964) (v := 0) kc_195_963 rfl rfl ?_
    obtain ⟨u6, u7, bu6, bu7, A8⟩ := xq_0 K.1
    refine xi_virtual (mj := 157) (as := [.int a2, .int 0]) (st1 := []) (lv0 := [(0, .ref 0), (1, .int a2), (2, .int 0)]) kc_195_964 rfl rfl rfl rfl rfl A8 (Nat.le_of_ble_eq_true rfl) (hJ _ _ _ _ (by decide)) (xm_le ml_157 rfl) rfl ?_
    have zc0 : (0 : Int32).toInt = 0 := by decide
    refine mt_157_0 hJ hov1 hov2 (d := 91) (x1 := a2) (x2 := 0) K.1 (by first | omega | decide) (fun r9 hh10 K11 => ?_)
    have br9 := xc_rng r9
    have K12 := xk_tr K K11 rfl
    obtain ⟨u13, u14, bu13, bu14, A15⟩ := xq_0 K12.1
    have e16 : u7 = u14 := xk_eqi (q := 9) K11 rfl A8 A15 rfl rfl
    subst e16
    show xw J ov 100 195 (967, [(4, .int x4), (3, .ref 167), (2, .ref 115), (1, .ref 0), (0, .ref 1000000)], [.int r9], hh10) _
    refine xi_pop (pc' := 968) kc_195_967 rfl rfl ?_
    refine xi_aload_n (pc' := 969) (x := 115) kc_195_968 rfl rfl ?_
    refine xi_aload_n (pc' := 970) (x := 1000000) kc_195_969 rfl rfl ?_
    refine xi_iload (pc' := 972) (x := x4) kc_195_970 rfl rfl ?_
    refine xi_iconst (pc' := 973) (v := 1) kc_195_972 rfl rfl ?_
    refine xi_iadd (pc' := 974) (v := v1) kc_195_973 rfl ev1 ?_
    refine xi_ialoadO (pc' := 975) (v := a2) kc_195_974 rfl (by decide) hov0 (xi_in (by omega) (by omega)) ea2 ?_
    refine xi_aload_n (pc' := 976) (x := 1000000) kc_195_975 rfl rfl ?_
    refine xi_iload (pc' := 978) (x := x4) kc_195_976 rfl rfl ?_
    refine xi_iconst (pc' := 979) (v := 2) kc_195_978 rfl rfl ?_
    refine xi_iadd (pc' := 980) (v := v3) kc_195_979 rfl ev3 ?_
    refine xi_ialoadO (pc' := 981) (v := a4) kc_195_980 rfl (by decide) hov0 (xi_in (by omega) (by omega)) ea4 ?_
    refine xi_ift (pc' := 988) kc_195_981 rfl (xc_eq_t (X := a4.toInt) (Y := 0) rfl (by decide) (by omega)) ?_
    refine xi_iconst (pc' := 989) (v := 0) kc_195_988 rfl rfl ?_
    obtain ⟨u17, u18, u19, u20, u21, u22, u23, u24, u25, u26, u27, u28, u29, bu17, bu18, bu19, bu20, bu21, bu22, bu23, bu24, bu25, bu26, bu27, bu28, bu29, A30⟩ := xq_115 K12.1
    refine xi_virtual (mj := 56) (as := [.int a2, .int 0]) (st1 := []) (lv0 := [(0, .ref 115), (1, .int a2), (2, .int 0)]) kc_195_989 rfl rfl rfl rfl rfl A30 (Nat.le_of_ble_eq_true rfl) (hJ _ _ _ _ (by decide)) (xm_le ml_56 rfl) rfl ?_
    have zc0 : (0 : Int32).toInt = 0 := by decide
    refine mt_56_0 hJ hov1 hov2 (d := 91) (x1 := a2) (x2 := 0) K12.1 (by first | omega | decide) (fun r31 hh32 K33 => ?_)
    have br31 := xc_rng r31
    have K34 := xk_tr K12 K33 rfl
    obtain ⟨u35, u36, bu35, bu36, A37⟩ := xq_0 K34.1
    have e38 : u7 = u36 := xk_eqi (q := 9) K33 rfl A15 A37 rfl rfl
    subst e38
    obtain ⟨u39, u40, u41, u42, u43, u44, u45, u46, u47, u48, u49, u50, u51, bu39, bu40, bu41, bu42, bu43, bu44, bu45, bu46, bu47, bu48, bu49, bu50, bu51, A52⟩ := xq_115 K34.1
    have e53 : u18 = u40 := xk_eqi (q := 1) K33 rfl A30 A52 rfl rfl
    subst e53
    show xw J ov 100 195 (992, [(4, .int x4), (3, .ref 167), (2, .ref 115), (1, .ref 0), (0, .ref 1000000)], [.int r31], hh32) _
    refine xi_pop (pc' := 993) kc_195_992 rfl rfl ?_
    refine xi_goto (pc' := 1501) kc_195_993 rfl ?_
    obtain ⟨v54, ev54⟩ : ∃ q : Int32, x4 + 6 = q := ⟨_, rfl⟩
    have zv54 : v54.toInt = (x4.toInt + 6) := by rw [← ev54]; exact (xz_add (X := x4.toInt) (Y := 6) rfl (by decide) (by omega) (by omega)).trans (by omega)
    refine xi_iinc (pc' := 1504) (x := x4) (v := v54) (lv' := [(4, .int v54), (3, .ref 167), (2, .ref 115), (1, .ref 0), (0, .ref 1000000)]) kc_195_1501 rfl rfl ev54 rfl (xm_lt ml_195 rfl) ?_
    refine xi_goto (pc' := 23) kc_195_1504 rfl ?_
    exact kk v54 hh32 (by omega) K34
  · refine xi_iff (pc' := 959) kc_195_956 rfl (xc_eq_f (X := a4.toInt) (Y := 0) rfl (by decide) (by omega)) ?_
    refine xi_iconst (pc' := 960) (v := 1) kc_195_959 rfl rfl ?_
    refine xi_goto (pc' := 964) kc_195_960 rfl ?_
    obtain ⟨u55, u56, bu55, bu56, A57⟩ := xq_0 K.1
    refine xi_virtual (mj := 157) (as := [.int a2, .int 1]) (st1 := []) (lv0 := [(0, .ref 0), (1, .int a2), (2, .int 1)]) kc_195_964 rfl rfl rfl rfl rfl A57 (Nat.le_of_ble_eq_true rfl) (hJ _ _ _ _ (by decide)) (xm_le ml_157 rfl) rfl ?_
    have zc1 : (1 : Int32).toInt = 1 := by decide
    refine mt_157_0 hJ hov1 hov2 (d := 91) (x1 := a2) (x2 := 1) K.1 (by first | omega | decide) (fun r58 hh59 K60 => ?_)
    have br58 := xc_rng r58
    have K61 := xk_tr K K60 rfl
    obtain ⟨u62, u63, bu62, bu63, A64⟩ := xq_0 K61.1
    have e65 : u56 = u63 := xk_eqi (q := 9) K60 rfl A57 A64 rfl rfl
    subst e65
    show xw J ov 100 195 (967, [(4, .int x4), (3, .ref 167), (2, .ref 115), (1, .ref 0), (0, .ref 1000000)], [.int r58], hh59) _
    refine xi_pop (pc' := 968) kc_195_967 rfl rfl ?_
    refine xi_aload_n (pc' := 969) (x := 115) kc_195_968 rfl rfl ?_
    refine xi_aload_n (pc' := 970) (x := 1000000) kc_195_969 rfl rfl ?_
    refine xi_iload (pc' := 972) (x := x4) kc_195_970 rfl rfl ?_
    refine xi_iconst (pc' := 973) (v := 1) kc_195_972 rfl rfl ?_
    refine xi_iadd (pc' := 974) (v := v1) kc_195_973 rfl ev1 ?_
    refine xi_ialoadO (pc' := 975) (v := a2) kc_195_974 rfl (by decide) hov0 (xi_in (by omega) (by omega)) ea2 ?_
    refine xi_aload_n (pc' := 976) (x := 1000000) kc_195_975 rfl rfl ?_
    refine xi_iload (pc' := 978) (x := x4) kc_195_976 rfl rfl ?_
    refine xi_iconst (pc' := 979) (v := 2) kc_195_978 rfl rfl ?_
    refine xi_iadd (pc' := 980) (v := v3) kc_195_979 rfl ev3 ?_
    refine xi_ialoadO (pc' := 981) (v := a4) kc_195_980 rfl (by decide) hov0 (xi_in (by omega) (by omega)) ea4 ?_
    refine xi_iff (pc' := 984) kc_195_981 rfl (xc_eq_f (X := a4.toInt) (Y := 0) rfl (by decide) (by omega)) ?_
    refine xi_iconst (pc' := 985) (v := 1) kc_195_984 rfl rfl ?_
    refine xi_goto (pc' := 989) kc_195_985 rfl ?_
    obtain ⟨u66, u67, u68, u69, u70, u71, u72, u73, u74, u75, u76, u77, u78, bu66, bu67, bu68, bu69, bu70, bu71, bu72, bu73, bu74, bu75, bu76, bu77, bu78, A79⟩ := xq_115 K61.1
    refine xi_virtual (mj := 56) (as := [.int a2, .int 1]) (st1 := []) (lv0 := [(0, .ref 115), (1, .int a2), (2, .int 1)]) kc_195_989 rfl rfl rfl rfl rfl A79 (Nat.le_of_ble_eq_true rfl) (hJ _ _ _ _ (by decide)) (xm_le ml_56 rfl) rfl ?_
    have zc1 : (1 : Int32).toInt = 1 := by decide
    refine mt_56_0 hJ hov1 hov2 (d := 91) (x1 := a2) (x2 := 1) K61.1 (by first | omega | decide) (fun r80 hh81 K82 => ?_)
    have br80 := xc_rng r80
    have K83 := xk_tr K61 K82 rfl
    obtain ⟨u84, u85, bu84, bu85, A86⟩ := xq_0 K83.1
    have e87 : u56 = u85 := xk_eqi (q := 9) K82 rfl A64 A86 rfl rfl
    subst e87
    obtain ⟨u88, u89, u90, u91, u92, u93, u94, u95, u96, u97, u98, u99, u100, bu88, bu89, bu90, bu91, bu92, bu93, bu94, bu95, bu96, bu97, bu98, bu99, bu100, A101⟩ := xq_115 K83.1
    have e102 : u67 = u89 := xk_eqi (q := 1) K82 rfl A79 A101 rfl rfl
    subst e102
    show xw J ov 100 195 (992, [(4, .int x4), (3, .ref 167), (2, .ref 115), (1, .ref 0), (0, .ref 1000000)], [.int r80], hh81) _
    refine xi_pop (pc' := 993) kc_195_992 rfl rfl ?_
    refine xi_goto (pc' := 1501) kc_195_993 rfl ?_
    obtain ⟨v103, ev103⟩ : ∃ q : Int32, x4 + 6 = q := ⟨_, rfl⟩
    have zv103 : v103.toInt = (x4.toInt + 6) := by rw [← ev103]; exact (xz_add (X := x4.toInt) (Y := 6) rfl (by decide) (by omega) (by omega)).trans (by omega)
    refine xi_iinc (pc' := 1504) (x := x4) (v := v103) (lv' := [(4, .int v103), (3, .ref 167), (2, .ref 115), (1, .ref 0), (0, .ref 1000000)]) kc_195_1501 rfl rfl ev103 rfl (xm_lt ml_195 rfl) ?_
    refine xi_goto (pc' := 23) kc_195_1504 rfl ?_
    exact kk v103 hh81 (by omega) K83
set_option maxHeartbeats 8000000 in
theorem lc_21 {J : xe_J} {ov : List (List Int32)} (hJ : ∀ d mj as h, mj ≠ xe_loff → J d mj as h = none) (hov1 : ov[1]? = some [10, 0, 0, 0, 0, 0]) (hov2 : ov[2]? = some [99, 30, 50, 50, 1, 99999]) {xs : List Int32} (hov0 : ov[0]? = some xs) {Q : Option Value → xe_H → Prop} {h : xe_H} {x4 : Int32} (hi0 : 0 ≤ x4.toInt) (hi1 : x4.toInt + 6 ≤ xs.length) (hi2 : x4.toInt ≤ 3066) (T : xt h) (kk : ∀ (i : Int32) (h' : xe_H), i.toInt = x4.toInt + 6 → xk [(29, 0), (31, 0), (33, 0), (35, 0), (37, 0), (39, 0), (41, 0), (43, 0), (45, 0), (47, 0), (49, 0), (51, 0), (125, 0)] h h' → xw J ov 100 195 (23, [(4, .int i), (3, .ref 167), (2, .ref 115), (1, .ref 0), (0, .ref 1000000)], [], h') Q) : xw J ov 100 195 (996, [(4, .int x4), (3, .ref 167), (2, .ref 115), (1, .ref 0), (0, .ref 1000000)], [], h) Q := by
  have K : xk [(29, 0), (31, 0), (33, 0), (35, 0), (37, 0), (39, 0), (41, 0), (43, 0), (45, 0), (47, 0), (49, 0), (51, 0), (125, 0)] h h := xk_re T
  refine xi_aload_n (pc' := 997) (x := 0) kc_195_996 rfl rfl ?_
  obtain ⟨u1, u2, bu1, bu2, A3⟩ := xq_0 K.1
  refine xi_virtual (mj := 158) (as := []) (st1 := []) (lv0 := [(0, .ref 0)]) kc_195_997 rfl rfl rfl rfl rfl A3 (Nat.le_of_ble_eq_true rfl) (hJ _ _ _ _ (by decide)) (xm_le ml_158 rfl) rfl ?_
  refine mt_158_0 hJ hov1 hov2 (d := 91)  K.1 (fun r4 hh5 br4 K6 => ?_)
  have K7 := xk_tr K K6 rfl
  obtain ⟨u8, u9, bu8, bu9, A10⟩ := xq_0 K7.1
  have e11 : u2 = u9 := xk_eqi (q := 9) K6 rfl A3 A10 rfl rfl
  subst e11
  show xw J ov 100 195 (1000, [(4, .int x4), (3, .ref 167), (2, .ref 115), (1, .ref 0), (0, .ref 1000000)], [.int r4], hh5) _
  refine xi_pop (pc' := 1001) kc_195_1000 rfl rfl ?_
  refine xi_aload_n (pc' := 1002) (x := 115) kc_195_1001 rfl rfl ?_
  obtain ⟨u12, u13, u14, u15, u16, u17, u18, u19, u20, u21, u22, u23, u24, bu12, bu13, bu14, bu15, bu16, bu17, bu18, bu19, bu20, bu21, bu22, bu23, bu24, A25⟩ := xq_115 K7.1
  refine xi_virtual (mj := 57) (as := []) (st1 := []) (lv0 := [(0, .ref 115)]) kc_195_1002 rfl rfl rfl rfl rfl A25 (Nat.le_of_ble_eq_true rfl) (hJ _ _ _ _ (by decide)) (xm_le ml_57 rfl) rfl ?_
  refine mt_57_0 hJ hov1 hov2 (d := 91)  K7.1 (fun r26 hh27 br26 K28 => ?_)
  have K29 := xk_tr K7 K28 rfl
  obtain ⟨u30, u31, bu30, bu31, A32⟩ := xq_0 K29.1
  have e33 : u2 = u31 := xk_eqi (q := 9) K28 rfl A10 A32 rfl rfl
  subst e33
  obtain ⟨u34, u35, u36, u37, u38, u39, u40, u41, u42, u43, u44, u45, u46, bu34, bu35, bu36, bu37, bu38, bu39, bu40, bu41, bu42, bu43, bu44, bu45, bu46, A47⟩ := xq_115 K29.1
  have e48 : u13 = u35 := xk_eqi (q := 1) K28 rfl A25 A47 rfl rfl
  subst e48
  show xw J ov 100 195 (1005, [(4, .int x4), (3, .ref 167), (2, .ref 115), (1, .ref 0), (0, .ref 1000000)], [.int r26], hh27) _
  refine xi_pop (pc' := 1006) kc_195_1005 rfl rfl ?_
  refine xi_goto (pc' := 1501) kc_195_1006 rfl ?_
  obtain ⟨v49, ev49⟩ : ∃ q : Int32, x4 + 6 = q := ⟨_, rfl⟩
  have zv49 : v49.toInt = (x4.toInt + 6) := by rw [← ev49]; exact (xz_add (X := x4.toInt) (Y := 6) rfl (by decide) (by omega) (by omega)).trans (by omega)
  refine xi_iinc (pc' := 1504) (x := x4) (v := v49) (lv' := [(4, .int v49), (3, .ref 167), (2, .ref 115), (1, .ref 0), (0, .ref 1000000)]) kc_195_1501 rfl rfl ev49 rfl (xm_lt ml_195 rfl) ?_
  refine xi_goto (pc' := 23) kc_195_1504 rfl ?_
  exact kk v49 hh27 (by omega) K29
set_option maxHeartbeats 8000000 in
theorem lc_22 {J : xe_J} {ov : List (List Int32)} (hJ : ∀ d mj as h, mj ≠ xe_loff → J d mj as h = none) (hov1 : ov[1]? = some [10, 0, 0, 0, 0, 0]) (hov2 : ov[2]? = some [99, 30, 50, 50, 1, 99999]) {xs : List Int32} (hov0 : ov[0]? = some xs) {Q : Option Value → xe_H → Prop} {h : xe_H} {x4 : Int32} (hi0 : 0 ≤ x4.toInt) (hi1 : x4.toInt + 6 ≤ xs.length) (hi2 : x4.toInt ≤ 3066) (T : xt h) (kk : ∀ (i : Int32) (h' : xe_H), i.toInt = x4.toInt + 6 → xk [(29, 0), (31, 0), (33, 0), (35, 0), (37, 0), (39, 0), (41, 0), (43, 0), (45, 0), (47, 0), (49, 0), (51, 0), (125, 0)] h h' → xw J ov 100 195 (23, [(4, .int i), (3, .ref 167), (2, .ref 115), (1, .ref 0), (0, .ref 1000000)], [], h') Q) : xw J ov 100 195 (1009, [(4, .int x4), (3, .ref 167), (2, .ref 115), (1, .ref 0), (0, .ref 1000000)], [], h) Q := by
  have K : xk [(29, 0), (31, 0), (33, 0), (35, 0), (37, 0), (39, 0), (41, 0), (43, 0), (45, 0), (47, 0), (49, 0), (51, 0), (125, 0)] h h := xk_re T
  refine xi_aload_n (pc' := 1010) (x := 0) kc_195_1009 rfl rfl ?_
  obtain ⟨u1, u2, bu1, bu2, A3⟩ := xq_0 K.1
  refine xi_virtual (mj := 160) (as := []) (st1 := []) (lv0 := [(0, .ref 0)]) kc_195_1010 rfl rfl rfl rfl rfl A3 (Nat.le_of_ble_eq_true rfl) (hJ _ _ _ _ (by decide)) (xm_le ml_160 rfl) rfl ?_
  refine mt_160_0 hJ hov1 hov2 (d := 86)  K.1 (fun r4 hh5 K6 => ?_)
  have br4 := xc_rng r4
  have K7 := xk_tr K K6 rfl
  obtain ⟨u8, u9, bu8, bu9, A10⟩ := xq_0 K7.1
  have e11 : u2 = u9 := xk_eqi (q := 9) K6 rfl A3 A10 rfl rfl
  subst e11
  show xw J ov 100 195 (1013, [(4, .int x4), (3, .ref 167), (2, .ref 115), (1, .ref 0), (0, .ref 1000000)], [.int r4], hh5) _
  refine xi_pop (pc' := 1014) kc_195_1013 rfl rfl ?_
  refine xi_aload_n (pc' := 1015) (x := 115) kc_195_1014 rfl rfl ?_
  obtain ⟨u12, u13, u14, u15, u16, u17, u18, u19, u20, u21, u22, u23, u24, bu12, bu13, bu14, bu15, bu16, bu17, bu18, bu19, bu20, bu21, bu22, bu23, bu24, A25⟩ := xq_115 K7.1
  refine xi_virtual (mj := 58) (as := []) (st1 := []) (lv0 := [(0, .ref 115)]) kc_195_1015 rfl rfl rfl rfl rfl A25 (Nat.le_of_ble_eq_true rfl) (hJ _ _ _ _ (by decide)) (xm_le ml_58 rfl) rfl ?_
  refine mt_58_0 hJ hov1 hov2 (d := 92)  K7.1 (fun r26 hh27 K28 => ?_)
  have br26 := xc_rng r26
  have K29 := xk_tr K7 K28 rfl
  obtain ⟨u30, u31, bu30, bu31, A32⟩ := xq_0 K29.1
  have e33 : u2 = u31 := xk_eqi (q := 9) K28 rfl A10 A32 rfl rfl
  subst e33
  obtain ⟨u34, u35, u36, u37, u38, u39, u40, u41, u42, u43, u44, u45, u46, bu34, bu35, bu36, bu37, bu38, bu39, bu40, bu41, bu42, bu43, bu44, bu45, bu46, A47⟩ := xq_115 K29.1
  have e48 : u13 = u35 := xk_eqi (q := 1) K28 rfl A25 A47 rfl rfl
  subst e48
  show xw J ov 100 195 (1018, [(4, .int x4), (3, .ref 167), (2, .ref 115), (1, .ref 0), (0, .ref 1000000)], [.int r26], hh27) _
  refine xi_pop (pc' := 1019) kc_195_1018 rfl rfl ?_
  refine xi_goto (pc' := 1501) kc_195_1019 rfl ?_
  obtain ⟨v49, ev49⟩ : ∃ q : Int32, x4 + 6 = q := ⟨_, rfl⟩
  have zv49 : v49.toInt = (x4.toInt + 6) := by rw [← ev49]; exact (xz_add (X := x4.toInt) (Y := 6) rfl (by decide) (by omega) (by omega)).trans (by omega)
  refine xi_iinc (pc' := 1504) (x := x4) (v := v49) (lv' := [(4, .int v49), (3, .ref 167), (2, .ref 115), (1, .ref 0), (0, .ref 1000000)]) kc_195_1501 rfl rfl ev49 rfl (xm_lt ml_195 rfl) ?_
  refine xi_goto (pc' := 23) kc_195_1504 rfl ?_
  exact kk v49 hh27 (by omega) K29
set_option maxHeartbeats 8000000 in
theorem lc_23 {J : xe_J} {ov : List (List Int32)} (hJ : ∀ d mj as h, mj ≠ xe_loff → J d mj as h = none) (hov1 : ov[1]? = some [10, 0, 0, 0, 0, 0]) (hov2 : ov[2]? = some [99, 30, 50, 50, 1, 99999]) {xs : List Int32} (hov0 : ov[0]? = some xs) {Q : Option Value → xe_H → Prop} {h : xe_H} {x4 : Int32} (hi0 : 0 ≤ x4.toInt) (hi1 : x4.toInt + 6 ≤ xs.length) (hi2 : x4.toInt ≤ 3066) (T : xt h) (kk : ∀ (i : Int32) (h' : xe_H), i.toInt = x4.toInt + 6 → xk [(29, 0), (31, 0), (33, 0), (35, 0), (37, 0), (39, 0), (41, 0), (43, 0), (45, 0), (47, 0), (49, 0), (51, 0), (125, 0)] h h' → xw J ov 100 195 (23, [(4, .int i), (3, .ref 167), (2, .ref 115), (1, .ref 0), (0, .ref 1000000)], [], h') Q) : xw J ov 100 195 (1022, [(4, .int x4), (3, .ref 167), (2, .ref 115), (1, .ref 0), (0, .ref 1000000)], [], h) Q := by
  have K : xk [(29, 0), (31, 0), (33, 0), (35, 0), (37, 0), (39, 0), (41, 0), (43, 0), (45, 0), (47, 0), (49, 0), (51, 0), (125, 0)] h h := xk_re T
  refine xi_aload_n (pc' := 1023) (x := 0) kc_195_1022 rfl rfl ?_
  refine xi_aload_n (pc' := 1024) (x := 1000000) kc_195_1023 rfl rfl ?_
  refine xi_iload (pc' := 1026) (x := x4) kc_195_1024 rfl rfl ?_
  refine xi_iconst (pc' := 1027) (v := 1) kc_195_1026 rfl rfl ?_
  obtain ⟨v1, ev1⟩ : ∃ q : Int32, x4 + 1 = q := ⟨_, rfl⟩
  have zv1 : v1.toInt = (x4.toInt + 1) := by rw [← ev1]; exact (xz_add (X := x4.toInt) (Y := 1) rfl (by decide) (by omega) (by omega)).trans (by omega)
  refine xi_iadd (pc' := 1028) (v := v1) kc_195_1027 rfl ev1 ?_
  obtain ⟨a2, ea2⟩ : ∃ q : Int32, xs.getD (Int32.toNatClampNeg v1) 0 = q := ⟨_, rfl⟩
  have ra2 := xc_rng a2
  refine xi_ialoadO (pc' := 1029) (v := a2) kc_195_1028 rfl (by decide) hov0 (xi_in (by omega) (by omega)) ea2 ?_
  refine xi_aload_n (pc' := 1030) (x := 1000000) kc_195_1029 rfl rfl ?_
  refine xi_iload (pc' := 1032) (x := x4) kc_195_1030 rfl rfl ?_
  refine xi_iconst (pc' := 1033) (v := 2) kc_195_1032 rfl rfl ?_
  obtain ⟨v3, ev3⟩ : ∃ q : Int32, x4 + 2 = q := ⟨_, rfl⟩
  have zv3 : v3.toInt = (x4.toInt + 2) := by rw [← ev3]; exact (xz_add (X := x4.toInt) (Y := 2) rfl (by decide) (by omega) (by omega)).trans (by omega)
  refine xi_iadd (pc' := 1034) (v := v3) kc_195_1033 rfl ev3 ?_
  obtain ⟨a4, ea4⟩ : ∃ q : Int32, xs.getD (Int32.toNatClampNeg v3) 0 = q := ⟨_, rfl⟩
  have ra4 := xc_rng a4
  refine xi_ialoadO (pc' := 1035) (v := a4) kc_195_1034 rfl (by decide) hov0 (xi_in (by omega) (by omega)) ea4 ?_
  refine xi_aload_n (pc' := 1036) (x := 1000000) kc_195_1035 rfl rfl ?_
  refine xi_iload (pc' := 1038) (x := x4) kc_195_1036 rfl rfl ?_
  refine xi_iconst (pc' := 1039) (v := 3) kc_195_1038 rfl rfl ?_
  obtain ⟨v5, ev5⟩ : ∃ q : Int32, x4 + 3 = q := ⟨_, rfl⟩
  have zv5 : v5.toInt = (x4.toInt + 3) := by rw [← ev5]; exact (xz_add (X := x4.toInt) (Y := 3) rfl (by decide) (by omega) (by omega)).trans (by omega)
  refine xi_iadd (pc' := 1040) (v := v5) kc_195_1039 rfl ev5 ?_
  obtain ⟨a6, ea6⟩ : ∃ q : Int32, xs.getD (Int32.toNatClampNeg v5) 0 = q := ⟨_, rfl⟩
  have ra6 := xc_rng a6
  refine xi_ialoadO (pc' := 1041) (v := a6) kc_195_1040 rfl (by decide) hov0 (xi_in (by omega) (by omega)) ea6 ?_
  refine xi_aload_n (pc' := 1042) (x := 1000000) kc_195_1041 rfl rfl ?_
  refine xi_iload (pc' := 1044) (x := x4) kc_195_1042 rfl rfl ?_
  refine xi_iconst (pc' := 1045) (v := 4) kc_195_1044 rfl rfl ?_
  obtain ⟨v7, ev7⟩ : ∃ q : Int32, x4 + 4 = q := ⟨_, rfl⟩
  have zv7 : v7.toInt = (x4.toInt + 4) := by rw [← ev7]; exact (xz_add (X := x4.toInt) (Y := 4) rfl (by decide) (by omega) (by omega)).trans (by omega)
  refine xi_iadd (pc' := 1046) (v := v7) kc_195_1045 rfl ev7 ?_
  obtain ⟨a8, ea8⟩ : ∃ q : Int32, xs.getD (Int32.toNatClampNeg v7) 0 = q := ⟨_, rfl⟩
  have ra8 := xc_rng a8
  refine xi_ialoadO (pc' := 1047) (v := a8) kc_195_1046 rfl (by decide) hov0 (xi_in (by omega) (by omega)) ea8 ?_
  refine xi_aload_n (pc' := 1048) (x := 1000000) kc_195_1047 rfl rfl ?_
  refine xi_iload (pc' := 1050) (x := x4) kc_195_1048 rfl rfl ?_
  refine xi_iconst (pc' := 1051) (v := 5) kc_195_1050 rfl rfl ?_
  obtain ⟨v9, ev9⟩ : ∃ q : Int32, x4 + 5 = q := ⟨_, rfl⟩
  have zv9 : v9.toInt = (x4.toInt + 5) := by rw [← ev9]; exact (xz_add (X := x4.toInt) (Y := 5) rfl (by decide) (by omega) (by omega)).trans (by omega)
  refine xi_iadd (pc' := 1052) (v := v9) kc_195_1051 rfl ev9 ?_
  obtain ⟨a10, ea10⟩ : ∃ q : Int32, xs.getD (Int32.toNatClampNeg v9) 0 = q := ⟨_, rfl⟩
  have ra10 := xc_rng a10
  refine xi_ialoadO (pc' := 1053) (v := a10) kc_195_1052 rfl (by decide) hov0 (xi_in (by omega) (by omega)) ea10 ?_
  obtain ⟨u11, u12, bu11, bu12, A13⟩ := xq_0 K.1
  refine xi_virtual (mj := 163) (as := [.int a2, .int a4, .int a6, .int a8, .int a10]) (st1 := []) (lv0 := [(0, .ref 0), (1, .int a2), (2, .int a4), (3, .int a6), (4, .int a8), (5, .int a10)]) kc_195_1053 rfl rfl rfl rfl rfl A13 (Nat.le_of_ble_eq_true rfl) (hJ _ _ _ _ (by decide)) (xm_le ml_163 rfl) rfl ?_
  refine mt_163_0 hJ hov1 hov2 (d := 97) (x1 := a2) (x2 := a4) (x3 := a6) (x4 := a8) (x5 := a10) K.1 (fun r14 hh15 br14 K16 => ?_)
  have K17 := xk_tr K K16 rfl
  obtain ⟨u18, u19, bu18, bu19, A20⟩ := xq_0 K17.1
  have e21 : u12 = u19 := xk_eqi (q := 9) K16 rfl A13 A20 rfl rfl
  subst e21
  show xw J ov 100 195 (1056, [(4, .int x4), (3, .ref 167), (2, .ref 115), (1, .ref 0), (0, .ref 1000000)], [.int r14], hh15) _
  refine xi_pop (pc' := 1057) kc_195_1056 rfl rfl ?_
  refine xi_aload_n (pc' := 1058) (x := 115) kc_195_1057 rfl rfl ?_
  refine xi_aload_n (pc' := 1059) (x := 1000000) kc_195_1058 rfl rfl ?_
  refine xi_iload (pc' := 1061) (x := x4) kc_195_1059 rfl rfl ?_
  refine xi_iconst (pc' := 1062) (v := 1) kc_195_1061 rfl rfl ?_
  refine xi_iadd (pc' := 1063) (v := v1) kc_195_1062 rfl ev1 ?_
  refine xi_ialoadO (pc' := 1064) (v := a2) kc_195_1063 rfl (by decide) hov0 (xi_in (by omega) (by omega)) ea2 ?_
  refine xi_aload_n (pc' := 1065) (x := 1000000) kc_195_1064 rfl rfl ?_
  refine xi_iload (pc' := 1067) (x := x4) kc_195_1065 rfl rfl ?_
  refine xi_iconst (pc' := 1068) (v := 2) kc_195_1067 rfl rfl ?_
  refine xi_iadd (pc' := 1069) (v := v3) kc_195_1068 rfl ev3 ?_
  refine xi_ialoadO (pc' := 1070) (v := a4) kc_195_1069 rfl (by decide) hov0 (xi_in (by omega) (by omega)) ea4 ?_
  refine xi_aload_n (pc' := 1071) (x := 1000000) kc_195_1070 rfl rfl ?_
  refine xi_iload (pc' := 1073) (x := x4) kc_195_1071 rfl rfl ?_
  refine xi_iconst (pc' := 1074) (v := 3) kc_195_1073 rfl rfl ?_
  refine xi_iadd (pc' := 1075) (v := v5) kc_195_1074 rfl ev5 ?_
  refine xi_ialoadO (pc' := 1076) (v := a6) kc_195_1075 rfl (by decide) hov0 (xi_in (by omega) (by omega)) ea6 ?_
  refine xi_aload_n (pc' := 1077) (x := 1000000) kc_195_1076 rfl rfl ?_
  refine xi_iload (pc' := 1079) (x := x4) kc_195_1077 rfl rfl ?_
  refine xi_iconst (pc' := 1080) (v := 4) kc_195_1079 rfl rfl ?_
  refine xi_iadd (pc' := 1081) (v := v7) kc_195_1080 rfl ev7 ?_
  refine xi_ialoadO (pc' := 1082) (v := a8) kc_195_1081 rfl (by decide) hov0 (xi_in (by omega) (by omega)) ea8 ?_
  refine xi_aload_n (pc' := 1083) (x := 1000000) kc_195_1082 rfl rfl ?_
  refine xi_iload (pc' := 1085) (x := x4) kc_195_1083 rfl rfl ?_
  refine xi_iconst (pc' := 1086) (v := 5) kc_195_1085 rfl rfl ?_
  refine xi_iadd (pc' := 1087) (v := v9) kc_195_1086 rfl ev9 ?_
  refine xi_ialoadO (pc' := 1088) (v := a10) kc_195_1087 rfl (by decide) hov0 (xi_in (by omega) (by omega)) ea10 ?_
  obtain ⟨u22, u23, u24, u25, u26, u27, u28, u29, u30, u31, u32, u33, u34, bu22, bu23, bu24, bu25, bu26, bu27, bu28, bu29, bu30, bu31, bu32, bu33, bu34, A35⟩ := xq_115 K17.1
  refine xi_virtual (mj := 61) (as := [.int a2, .int a4, .int a6, .int a8, .int a10]) (st1 := []) (lv0 := [(0, .ref 115), (1, .int a2), (2, .int a4), (3, .int a6), (4, .int a8), (5, .int a10)]) kc_195_1088 rfl rfl rfl rfl rfl A35 (Nat.le_of_ble_eq_true rfl) (hJ _ _ _ _ (by decide)) (xm_le ml_61 rfl) rfl ?_
  refine mt_61_0 hJ hov1 hov2 (d := 97) (x1 := a2) (x2 := a4) (x3 := a6) (x4 := a8) (x5 := a10) K17.1 (fun r36 hh37 br36 K38 => ?_)
  have K39 := xk_tr K17 K38 rfl
  obtain ⟨u40, u41, bu40, bu41, A42⟩ := xq_0 K39.1
  have e43 : u12 = u41 := xk_eqi (q := 9) K38 rfl A20 A42 rfl rfl
  subst e43
  obtain ⟨u44, u45, u46, u47, u48, u49, u50, u51, u52, u53, u54, u55, u56, bu44, bu45, bu46, bu47, bu48, bu49, bu50, bu51, bu52, bu53, bu54, bu55, bu56, A57⟩ := xq_115 K39.1
  have e58 : u23 = u45 := xk_eqi (q := 1) K38 rfl A35 A57 rfl rfl
  subst e58
  show xw J ov 100 195 (1091, [(4, .int x4), (3, .ref 167), (2, .ref 115), (1, .ref 0), (0, .ref 1000000)], [.int r36], hh37) _
  refine xi_pop (pc' := 1092) kc_195_1091 rfl rfl ?_
  refine xi_goto (pc' := 1501) kc_195_1092 rfl ?_
  obtain ⟨v59, ev59⟩ : ∃ q : Int32, x4 + 6 = q := ⟨_, rfl⟩
  have zv59 : v59.toInt = (x4.toInt + 6) := by rw [← ev59]; exact (xz_add (X := x4.toInt) (Y := 6) rfl (by decide) (by omega) (by omega)).trans (by omega)
  refine xi_iinc (pc' := 1504) (x := x4) (v := v59) (lv' := [(4, .int v59), (3, .ref 167), (2, .ref 115), (1, .ref 0), (0, .ref 1000000)]) kc_195_1501 rfl rfl ev59 rfl (xm_lt ml_195 rfl) ?_
  refine xi_goto (pc' := 23) kc_195_1504 rfl ?_
  exact kk v59 hh37 (by omega) K39
set_option maxHeartbeats 8000000 in
theorem lc_24 {J : xe_J} {ov : List (List Int32)} (hJ : ∀ d mj as h, mj ≠ xe_loff → J d mj as h = none) (hov1 : ov[1]? = some [10, 0, 0, 0, 0, 0]) (hov2 : ov[2]? = some [99, 30, 50, 50, 1, 99999]) {xs : List Int32} (hov0 : ov[0]? = some xs) {Q : Option Value → xe_H → Prop} {h : xe_H} {x4 : Int32} (hi0 : 0 ≤ x4.toInt) (hi1 : x4.toInt + 6 ≤ xs.length) (hi2 : x4.toInt ≤ 3066) (T : xt h) (kk : ∀ (i : Int32) (h' : xe_H), i.toInt = x4.toInt + 6 → xk [(29, 0), (31, 0), (33, 0), (35, 0), (37, 0), (39, 0), (41, 0), (43, 0), (45, 0), (47, 0), (49, 0), (51, 0), (125, 0)] h h' → xw J ov 100 195 (23, [(4, .int i), (3, .ref 167), (2, .ref 115), (1, .ref 0), (0, .ref 1000000)], [], h') Q) : xw J ov 100 195 (1095, [(4, .int x4), (3, .ref 167), (2, .ref 115), (1, .ref 0), (0, .ref 1000000)], [], h) Q := by
  have K : xk [(29, 0), (31, 0), (33, 0), (35, 0), (37, 0), (39, 0), (41, 0), (43, 0), (45, 0), (47, 0), (49, 0), (51, 0), (125, 0)] h h := xk_re T
  refine xi_aload_n (pc' := 1096) (x := 0) kc_195_1095 rfl rfl ?_
  refine xi_aload_n (pc' := 1097) (x := 1000000) kc_195_1096 rfl rfl ?_
  refine xi_iload (pc' := 1099) (x := x4) kc_195_1097 rfl rfl ?_
  refine xi_iconst (pc' := 1100) (v := 1) kc_195_1099 rfl rfl ?_
  obtain ⟨v1, ev1⟩ : ∃ q : Int32, x4 + 1 = q := ⟨_, rfl⟩
  have zv1 : v1.toInt = (x4.toInt + 1) := by rw [← ev1]; exact (xz_add (X := x4.toInt) (Y := 1) rfl (by decide) (by omega) (by omega)).trans (by omega)
  refine xi_iadd (pc' := 1101) (v := v1) kc_195_1100 rfl ev1 ?_
  obtain ⟨a2, ea2⟩ : ∃ q : Int32, xs.getD (Int32.toNatClampNeg v1) 0 = q := ⟨_, rfl⟩
  have ra2 := xc_rng a2
  refine xi_ialoadO (pc' := 1102) (v := a2) kc_195_1101 rfl (by decide) hov0 (xi_in (by omega) (by omega)) ea2 ?_
  refine xi_aload_n (pc' := 1103) (x := 1000000) kc_195_1102 rfl rfl ?_
  refine xi_iload (pc' := 1105) (x := x4) kc_195_1103 rfl rfl ?_
  refine xi_iconst (pc' := 1106) (v := 2) kc_195_1105 rfl rfl ?_
  obtain ⟨v3, ev3⟩ : ∃ q : Int32, x4 + 2 = q := ⟨_, rfl⟩
  have zv3 : v3.toInt = (x4.toInt + 2) := by rw [← ev3]; exact (xz_add (X := x4.toInt) (Y := 2) rfl (by decide) (by omega) (by omega)).trans (by omega)
  refine xi_iadd (pc' := 1107) (v := v3) kc_195_1106 rfl ev3 ?_
  obtain ⟨a4, ea4⟩ : ∃ q : Int32, xs.getD (Int32.toNatClampNeg v3) 0 = q := ⟨_, rfl⟩
  have ra4 := xc_rng a4
  refine xi_ialoadO (pc' := 1108) (v := a4) kc_195_1107 rfl (by decide) hov0 (xi_in (by omega) (by omega)) ea4 ?_
  obtain ⟨u5, u6, bu5, bu6, A7⟩ := xq_0 K.1
  refine xi_virtual (mj := 165) (as := [.int a2, .int a4]) (st1 := []) (lv0 := [(0, .ref 0), (1, .int a2), (2, .int a4)]) kc_195_1108 rfl rfl rfl rfl rfl A7 (Nat.le_of_ble_eq_true rfl) (hJ _ _ _ _ (by decide)) (xm_le ml_165 rfl) rfl ?_
  refine mt_165_0 hJ hov1 hov2 (d := 97) (x1 := a2) (x2 := a4) K.1 (fun r8 hh9 K10 => ?_)
  have br8 := xc_rng r8
  have K11 := xk_tr K K10 rfl
  obtain ⟨u12, u13, bu12, bu13, A14⟩ := xq_0 K11.1
  have e15 : u6 = u13 := xk_eqi (q := 9) K10 rfl A7 A14 rfl rfl
  subst e15
  show xw J ov 100 195 (1111, [(4, .int x4), (3, .ref 167), (2, .ref 115), (1, .ref 0), (0, .ref 1000000)], [.int r8], hh9) _
  refine xi_pop (pc' := 1112) kc_195_1111 rfl rfl ?_
  refine xi_aload_n (pc' := 1113) (x := 115) kc_195_1112 rfl rfl ?_
  refine xi_aload_n (pc' := 1114) (x := 1000000) kc_195_1113 rfl rfl ?_
  refine xi_iload (pc' := 1116) (x := x4) kc_195_1114 rfl rfl ?_
  refine xi_iconst (pc' := 1117) (v := 1) kc_195_1116 rfl rfl ?_
  refine xi_iadd (pc' := 1118) (v := v1) kc_195_1117 rfl ev1 ?_
  refine xi_ialoadO (pc' := 1119) (v := a2) kc_195_1118 rfl (by decide) hov0 (xi_in (by omega) (by omega)) ea2 ?_
  refine xi_aload_n (pc' := 1120) (x := 1000000) kc_195_1119 rfl rfl ?_
  refine xi_iload (pc' := 1122) (x := x4) kc_195_1120 rfl rfl ?_
  refine xi_iconst (pc' := 1123) (v := 2) kc_195_1122 rfl rfl ?_
  refine xi_iadd (pc' := 1124) (v := v3) kc_195_1123 rfl ev3 ?_
  refine xi_ialoadO (pc' := 1125) (v := a4) kc_195_1124 rfl (by decide) hov0 (xi_in (by omega) (by omega)) ea4 ?_
  obtain ⟨u16, u17, u18, u19, u20, u21, u22, u23, u24, u25, u26, u27, u28, bu16, bu17, bu18, bu19, bu20, bu21, bu22, bu23, bu24, bu25, bu26, bu27, bu28, A29⟩ := xq_115 K11.1
  refine xi_virtual (mj := 62) (as := [.int a2, .int a4]) (st1 := []) (lv0 := [(0, .ref 115), (1, .int a2), (2, .int a4)]) kc_195_1125 rfl rfl rfl rfl rfl A29 (Nat.le_of_ble_eq_true rfl) (hJ _ _ _ _ (by decide)) (xm_le ml_62 rfl) rfl ?_
  refine mt_62_0 hJ hov1 hov2 (d := 97) (x1 := a2) (x2 := a4) K11.1 (fun r30 hh31 K32 => ?_)
  have br30 := xc_rng r30
  have K33 := xk_tr K11 K32 rfl
  obtain ⟨u34, u35, bu34, bu35, A36⟩ := xq_0 K33.1
  have e37 : u6 = u35 := xk_eqi (q := 9) K32 rfl A14 A36 rfl rfl
  subst e37
  obtain ⟨u38, u39, u40, u41, u42, u43, u44, u45, u46, u47, u48, u49, u50, bu38, bu39, bu40, bu41, bu42, bu43, bu44, bu45, bu46, bu47, bu48, bu49, bu50, A51⟩ := xq_115 K33.1
  have e52 : u17 = u39 := xk_eqi (q := 1) K32 rfl A29 A51 rfl rfl
  subst e52
  show xw J ov 100 195 (1128, [(4, .int x4), (3, .ref 167), (2, .ref 115), (1, .ref 0), (0, .ref 1000000)], [.int r30], hh31) _
  refine xi_pop (pc' := 1129) kc_195_1128 rfl rfl ?_
  refine xi_goto (pc' := 1501) kc_195_1129 rfl ?_
  obtain ⟨v53, ev53⟩ : ∃ q : Int32, x4 + 6 = q := ⟨_, rfl⟩
  have zv53 : v53.toInt = (x4.toInt + 6) := by rw [← ev53]; exact (xz_add (X := x4.toInt) (Y := 6) rfl (by decide) (by omega) (by omega)).trans (by omega)
  refine xi_iinc (pc' := 1504) (x := x4) (v := v53) (lv' := [(4, .int v53), (3, .ref 167), (2, .ref 115), (1, .ref 0), (0, .ref 1000000)]) kc_195_1501 rfl rfl ev53 rfl (xm_lt ml_195 rfl) ?_
  refine xi_goto (pc' := 23) kc_195_1504 rfl ?_
  exact kk v53 hh31 (by omega) K33
set_option maxHeartbeats 8000000 in
theorem lc_25 {J : xe_J} {ov : List (List Int32)} (hJ : ∀ d mj as h, mj ≠ xe_loff → J d mj as h = none) (hov1 : ov[1]? = some [10, 0, 0, 0, 0, 0]) (hov2 : ov[2]? = some [99, 30, 50, 50, 1, 99999]) {xs : List Int32} (hov0 : ov[0]? = some xs) {Q : Option Value → xe_H → Prop} {h : xe_H} {x4 : Int32} (hi0 : 0 ≤ x4.toInt) (hi1 : x4.toInt + 6 ≤ xs.length) (hi2 : x4.toInt ≤ 3066) (T : xt h) (kk : ∀ (i : Int32) (h' : xe_H), i.toInt = x4.toInt + 6 → xk [(29, 0), (31, 0), (33, 0), (35, 0), (37, 0), (39, 0), (41, 0), (43, 0), (45, 0), (47, 0), (49, 0), (51, 0), (125, 0)] h h' → xw J ov 100 195 (23, [(4, .int i), (3, .ref 167), (2, .ref 115), (1, .ref 0), (0, .ref 1000000)], [], h') Q) : xw J ov 100 195 (1132, [(4, .int x4), (3, .ref 167), (2, .ref 115), (1, .ref 0), (0, .ref 1000000)], [], h) Q := by
  have K : xk [(29, 0), (31, 0), (33, 0), (35, 0), (37, 0), (39, 0), (41, 0), (43, 0), (45, 0), (47, 0), (49, 0), (51, 0), (125, 0)] h h := xk_re T
  refine xi_aload_n (pc' := 1133) (x := 0) kc_195_1132 rfl rfl ?_
  refine xi_aload_n (pc' := 1134) (x := 1000000) kc_195_1133 rfl rfl ?_
  refine xi_iload (pc' := 1136) (x := x4) kc_195_1134 rfl rfl ?_
  refine xi_iconst (pc' := 1137) (v := 1) kc_195_1136 rfl rfl ?_
  obtain ⟨v1, ev1⟩ : ∃ q : Int32, x4 + 1 = q := ⟨_, rfl⟩
  have zv1 : v1.toInt = (x4.toInt + 1) := by rw [← ev1]; exact (xz_add (X := x4.toInt) (Y := 1) rfl (by decide) (by omega) (by omega)).trans (by omega)
  refine xi_iadd (pc' := 1138) (v := v1) kc_195_1137 rfl ev1 ?_
  obtain ⟨a2, ea2⟩ : ∃ q : Int32, xs.getD (Int32.toNatClampNeg v1) 0 = q := ⟨_, rfl⟩
  have ra2 := xc_rng a2
  refine xi_ialoadO (pc' := 1139) (v := a2) kc_195_1138 rfl (by decide) hov0 (xi_in (by omega) (by omega)) ea2 ?_
  refine xi_aload_n (pc' := 1140) (x := 1000000) kc_195_1139 rfl rfl ?_
  refine xi_iload (pc' := 1142) (x := x4) kc_195_1140 rfl rfl ?_
  refine xi_iconst (pc' := 1143) (v := 2) kc_195_1142 rfl rfl ?_
  obtain ⟨v3, ev3⟩ : ∃ q : Int32, x4 + 2 = q := ⟨_, rfl⟩
  have zv3 : v3.toInt = (x4.toInt + 2) := by rw [← ev3]; exact (xz_add (X := x4.toInt) (Y := 2) rfl (by decide) (by omega) (by omega)).trans (by omega)
  refine xi_iadd (pc' := 1144) (v := v3) kc_195_1143 rfl ev3 ?_
  obtain ⟨a4, ea4⟩ : ∃ q : Int32, xs.getD (Int32.toNatClampNeg v3) 0 = q := ⟨_, rfl⟩
  have ra4 := xc_rng a4
  refine xi_ialoadO (pc' := 1145) (v := a4) kc_195_1144 rfl (by decide) hov0 (xi_in (by omega) (by omega)) ea4 ?_
  refine xi_aload_n (pc' := 1146) (x := 1000000) kc_195_1145 rfl rfl ?_
  refine xi_iload (pc' := 1148) (x := x4) kc_195_1146 rfl rfl ?_
  refine xi_iconst (pc' := 1149) (v := 3) kc_195_1148 rfl rfl ?_
  obtain ⟨v5, ev5⟩ : ∃ q : Int32, x4 + 3 = q := ⟨_, rfl⟩
  have zv5 : v5.toInt = (x4.toInt + 3) := by rw [← ev5]; exact (xz_add (X := x4.toInt) (Y := 3) rfl (by decide) (by omega) (by omega)).trans (by omega)
  refine xi_iadd (pc' := 1150) (v := v5) kc_195_1149 rfl ev5 ?_
  obtain ⟨a6, ea6⟩ : ∃ q : Int32, xs.getD (Int32.toNatClampNeg v5) 0 = q := ⟨_, rfl⟩
  have ra6 := xc_rng a6
  refine xi_ialoadO (pc' := 1151) (v := a6) kc_195_1150 rfl (by decide) hov0 (xi_in (by omega) (by omega)) ea6 ?_
  refine xi_aload_n (pc' := 1152) (x := 1000000) kc_195_1151 rfl rfl ?_
  refine xi_iload (pc' := 1154) (x := x4) kc_195_1152 rfl rfl ?_
  refine xi_iconst (pc' := 1155) (v := 4) kc_195_1154 rfl rfl ?_
  obtain ⟨v7, ev7⟩ : ∃ q : Int32, x4 + 4 = q := ⟨_, rfl⟩
  have zv7 : v7.toInt = (x4.toInt + 4) := by rw [← ev7]; exact (xz_add (X := x4.toInt) (Y := 4) rfl (by decide) (by omega) (by omega)).trans (by omega)
  refine xi_iadd (pc' := 1156) (v := v7) kc_195_1155 rfl ev7 ?_
  obtain ⟨a8, ea8⟩ : ∃ q : Int32, xs.getD (Int32.toNatClampNeg v7) 0 = q := ⟨_, rfl⟩
  have ra8 := xc_rng a8
  refine xi_ialoadO (pc' := 1157) (v := a8) kc_195_1156 rfl (by decide) hov0 (xi_in (by omega) (by omega)) ea8 ?_
  obtain ⟨u9, u10, bu9, bu10, A11⟩ := xq_0 K.1
  refine xi_virtual (mj := 167) (as := [.int a2, .int a4, .int a6, .int a8]) (st1 := []) (lv0 := [(0, .ref 0), (1, .int a2), (2, .int a4), (3, .int a6), (4, .int a8)]) kc_195_1157 rfl rfl rfl rfl rfl A11 (Nat.le_of_ble_eq_true rfl) (hJ _ _ _ _ (by decide)) (xm_le ml_167 rfl) rfl ?_
  refine mt_167_0 hJ hov1 hov2 (d := 98) (x1 := a2) (x2 := a4) (x3 := a6) (x4 := a8) K.1 (fun r12 hh13 br12 K14 => ?_)
  have K15 := xk_tr K K14 rfl
  obtain ⟨u16, u17, bu16, bu17, A18⟩ := xq_0 K15.1
  have e19 : u10 = u17 := xk_eqi (q := 9) K14 rfl A11 A18 rfl rfl
  subst e19
  show xw J ov 100 195 (1160, [(4, .int x4), (3, .ref 167), (2, .ref 115), (1, .ref 0), (0, .ref 1000000)], [.int r12], hh13) _
  refine xi_pop (pc' := 1161) kc_195_1160 rfl rfl ?_
  refine xi_aload_n (pc' := 1162) (x := 115) kc_195_1161 rfl rfl ?_
  refine xi_aload_n (pc' := 1163) (x := 1000000) kc_195_1162 rfl rfl ?_
  refine xi_iload (pc' := 1165) (x := x4) kc_195_1163 rfl rfl ?_
  refine xi_iconst (pc' := 1166) (v := 1) kc_195_1165 rfl rfl ?_
  refine xi_iadd (pc' := 1167) (v := v1) kc_195_1166 rfl ev1 ?_
  refine xi_ialoadO (pc' := 1168) (v := a2) kc_195_1167 rfl (by decide) hov0 (xi_in (by omega) (by omega)) ea2 ?_
  refine xi_aload_n (pc' := 1169) (x := 1000000) kc_195_1168 rfl rfl ?_
  refine xi_iload (pc' := 1171) (x := x4) kc_195_1169 rfl rfl ?_
  refine xi_iconst (pc' := 1172) (v := 2) kc_195_1171 rfl rfl ?_
  refine xi_iadd (pc' := 1173) (v := v3) kc_195_1172 rfl ev3 ?_
  refine xi_ialoadO (pc' := 1174) (v := a4) kc_195_1173 rfl (by decide) hov0 (xi_in (by omega) (by omega)) ea4 ?_
  refine xi_aload_n (pc' := 1175) (x := 1000000) kc_195_1174 rfl rfl ?_
  refine xi_iload (pc' := 1177) (x := x4) kc_195_1175 rfl rfl ?_
  refine xi_iconst (pc' := 1178) (v := 3) kc_195_1177 rfl rfl ?_
  refine xi_iadd (pc' := 1179) (v := v5) kc_195_1178 rfl ev5 ?_
  refine xi_ialoadO (pc' := 1180) (v := a6) kc_195_1179 rfl (by decide) hov0 (xi_in (by omega) (by omega)) ea6 ?_
  refine xi_aload_n (pc' := 1181) (x := 1000000) kc_195_1180 rfl rfl ?_
  refine xi_iload (pc' := 1183) (x := x4) kc_195_1181 rfl rfl ?_
  refine xi_iconst (pc' := 1184) (v := 4) kc_195_1183 rfl rfl ?_
  refine xi_iadd (pc' := 1185) (v := v7) kc_195_1184 rfl ev7 ?_
  refine xi_ialoadO (pc' := 1186) (v := a8) kc_195_1185 rfl (by decide) hov0 (xi_in (by omega) (by omega)) ea8 ?_
  obtain ⟨u20, u21, u22, u23, u24, u25, u26, u27, u28, u29, u30, u31, u32, bu20, bu21, bu22, bu23, bu24, bu25, bu26, bu27, bu28, bu29, bu30, bu31, bu32, A33⟩ := xq_115 K15.1
  refine xi_virtual (mj := 64) (as := [.int a2, .int a4, .int a6, .int a8]) (st1 := []) (lv0 := [(0, .ref 115), (1, .int a2), (2, .int a4), (3, .int a6), (4, .int a8)]) kc_195_1186 rfl rfl rfl rfl rfl A33 (Nat.le_of_ble_eq_true rfl) (hJ _ _ _ _ (by decide)) (xm_le ml_64 rfl) rfl ?_
  refine mt_64_0 hJ hov1 hov2 (d := 98) (x1 := a2) (x2 := a4) (x3 := a6) (x4 := a8) K15.1 (fun r34 hh35 br34 K36 => ?_)
  have K37 := xk_tr K15 K36 rfl
  obtain ⟨u38, u39, bu38, bu39, A40⟩ := xq_0 K37.1
  have e41 : u10 = u39 := xk_eqi (q := 9) K36 rfl A18 A40 rfl rfl
  subst e41
  obtain ⟨u42, u43, u44, u45, u46, u47, u48, u49, u50, u51, u52, u53, u54, bu42, bu43, bu44, bu45, bu46, bu47, bu48, bu49, bu50, bu51, bu52, bu53, bu54, A55⟩ := xq_115 K37.1
  have e56 : u21 = u43 := xk_eqi (q := 1) K36 rfl A33 A55 rfl rfl
  subst e56
  show xw J ov 100 195 (1189, [(4, .int x4), (3, .ref 167), (2, .ref 115), (1, .ref 0), (0, .ref 1000000)], [.int r34], hh35) _
  refine xi_pop (pc' := 1190) kc_195_1189 rfl rfl ?_
  refine xi_goto (pc' := 1501) kc_195_1190 rfl ?_
  obtain ⟨v57, ev57⟩ : ∃ q : Int32, x4 + 6 = q := ⟨_, rfl⟩
  have zv57 : v57.toInt = (x4.toInt + 6) := by rw [← ev57]; exact (xz_add (X := x4.toInt) (Y := 6) rfl (by decide) (by omega) (by omega)).trans (by omega)
  refine xi_iinc (pc' := 1504) (x := x4) (v := v57) (lv' := [(4, .int v57), (3, .ref 167), (2, .ref 115), (1, .ref 0), (0, .ref 1000000)]) kc_195_1501 rfl rfl ev57 rfl (xm_lt ml_195 rfl) ?_
  refine xi_goto (pc' := 23) kc_195_1504 rfl ?_
  exact kk v57 hh35 (by omega) K37
set_option maxHeartbeats 8000000 in
theorem lc_26 {J : xe_J} {ov : List (List Int32)} (hJ : ∀ d mj as h, mj ≠ xe_loff → J d mj as h = none) (hov1 : ov[1]? = some [10, 0, 0, 0, 0, 0]) (hov2 : ov[2]? = some [99, 30, 50, 50, 1, 99999]) {xs : List Int32} (hov0 : ov[0]? = some xs) {Q : Option Value → xe_H → Prop} {h : xe_H} {x4 : Int32} (hi0 : 0 ≤ x4.toInt) (hi1 : x4.toInt + 6 ≤ xs.length) (hi2 : x4.toInt ≤ 3066) (T : xt h) (kk : ∀ (i : Int32) (h' : xe_H), i.toInt = x4.toInt + 6 → xk [(29, 0), (31, 0), (33, 0), (35, 0), (37, 0), (39, 0), (41, 0), (43, 0), (45, 0), (47, 0), (49, 0), (51, 0), (125, 0)] h h' → xw J ov 100 195 (23, [(4, .int i), (3, .ref 167), (2, .ref 115), (1, .ref 0), (0, .ref 1000000)], [], h') Q) : xw J ov 100 195 (1193, [(4, .int x4), (3, .ref 167), (2, .ref 115), (1, .ref 0), (0, .ref 1000000)], [], h) Q := by
  have K : xk [(29, 0), (31, 0), (33, 0), (35, 0), (37, 0), (39, 0), (41, 0), (43, 0), (45, 0), (47, 0), (49, 0), (51, 0), (125, 0)] h h := xk_re T
  refine xi_aload_n (pc' := 1194) (x := 0) kc_195_1193 rfl rfl ?_
  obtain ⟨u1, u2, bu1, bu2, A3⟩ := xq_0 K.1
  refine xi_virtual (mj := 169) (as := []) (st1 := []) (lv0 := [(0, .ref 0)]) kc_195_1194 rfl rfl rfl rfl rfl A3 (Nat.le_of_ble_eq_true rfl) (hJ _ _ _ _ (by decide)) (xm_le ml_169 rfl) rfl ?_
  refine mt_169_0 hJ hov1 hov2 (d := 95)  K.1 (fun r4 hh5 K6 => ?_)
  have br4 := xc_rng r4
  have K7 := xk_tr K K6 rfl
  obtain ⟨u8, u9, bu8, bu9, A10⟩ := xq_0 K7.1
  have e11 : u2 = u9 := xk_eqi (q := 9) K6 rfl A3 A10 rfl rfl
  subst e11
  show xw J ov 100 195 (1197, [(4, .int x4), (3, .ref 167), (2, .ref 115), (1, .ref 0), (0, .ref 1000000)], [.int r4], hh5) _
  refine xi_pop (pc' := 1198) kc_195_1197 rfl rfl ?_
  refine xi_aload_n (pc' := 1199) (x := 115) kc_195_1198 rfl rfl ?_
  obtain ⟨u12, u13, u14, u15, u16, u17, u18, u19, u20, u21, u22, u23, u24, bu12, bu13, bu14, bu15, bu16, bu17, bu18, bu19, bu20, bu21, bu22, bu23, bu24, A25⟩ := xq_115 K7.1
  refine xi_virtual (mj := 65) (as := []) (st1 := []) (lv0 := [(0, .ref 115)]) kc_195_1199 rfl rfl rfl rfl rfl A25 (Nat.le_of_ble_eq_true rfl) (hJ _ _ _ _ (by decide)) (xm_le ml_65 rfl) rfl ?_
  refine mt_65_0 hJ hov1 hov2 (d := 97)  K7.1 (fun r26 hh27 K28 => ?_)
  have br26 := xc_rng r26
  have K29 := xk_tr K7 K28 rfl
  obtain ⟨u30, u31, bu30, bu31, A32⟩ := xq_0 K29.1
  have e33 : u2 = u31 := xk_eqi (q := 9) K28 rfl A10 A32 rfl rfl
  subst e33
  obtain ⟨u34, u35, u36, u37, u38, u39, u40, u41, u42, u43, u44, u45, u46, bu34, bu35, bu36, bu37, bu38, bu39, bu40, bu41, bu42, bu43, bu44, bu45, bu46, A47⟩ := xq_115 K29.1
  have e48 : u13 = u35 := xk_eqi (q := 1) K28 rfl A25 A47 rfl rfl
  subst e48
  show xw J ov 100 195 (1202, [(4, .int x4), (3, .ref 167), (2, .ref 115), (1, .ref 0), (0, .ref 1000000)], [.int r26], hh27) _
  refine xi_pop (pc' := 1203) kc_195_1202 rfl rfl ?_
  refine xi_goto (pc' := 1501) kc_195_1203 rfl ?_
  obtain ⟨v49, ev49⟩ : ∃ q : Int32, x4 + 6 = q := ⟨_, rfl⟩
  have zv49 : v49.toInt = (x4.toInt + 6) := by rw [← ev49]; exact (xz_add (X := x4.toInt) (Y := 6) rfl (by decide) (by omega) (by omega)).trans (by omega)
  refine xi_iinc (pc' := 1504) (x := x4) (v := v49) (lv' := [(4, .int v49), (3, .ref 167), (2, .ref 115), (1, .ref 0), (0, .ref 1000000)]) kc_195_1501 rfl rfl ev49 rfl (xm_lt ml_195 rfl) ?_
  refine xi_goto (pc' := 23) kc_195_1504 rfl ?_
  exact kk v49 hh27 (by omega) K29
set_option maxHeartbeats 8000000 in
theorem lc_27 {J : xe_J} {ov : List (List Int32)} (hJ : ∀ d mj as h, mj ≠ xe_loff → J d mj as h = none) (hov1 : ov[1]? = some [10, 0, 0, 0, 0, 0]) (hov2 : ov[2]? = some [99, 30, 50, 50, 1, 99999]) {xs : List Int32} (hov0 : ov[0]? = some xs) {Q : Option Value → xe_H → Prop} {h : xe_H} {x4 : Int32} (hi0 : 0 ≤ x4.toInt) (hi1 : x4.toInt + 6 ≤ xs.length) (hi2 : x4.toInt ≤ 3066) (T : xt h) (kk : ∀ (i : Int32) (h' : xe_H), i.toInt = x4.toInt + 6 → xk [(29, 0), (31, 0), (33, 0), (35, 0), (37, 0), (39, 0), (41, 0), (43, 0), (45, 0), (47, 0), (49, 0), (51, 0), (125, 0)] h h' → xw J ov 100 195 (23, [(4, .int i), (3, .ref 167), (2, .ref 115), (1, .ref 0), (0, .ref 1000000)], [], h') Q) : xw J ov 100 195 (1206, [(4, .int x4), (3, .ref 167), (2, .ref 115), (1, .ref 0), (0, .ref 1000000)], [], h) Q := by
  have K : xk [(29, 0), (31, 0), (33, 0), (35, 0), (37, 0), (39, 0), (41, 0), (43, 0), (45, 0), (47, 0), (49, 0), (51, 0), (125, 0)] h h := xk_re T
  refine xi_aload_n (pc' := 1207) (x := 0) kc_195_1206 rfl rfl ?_
  refine xi_aload_n (pc' := 1208) (x := 1000000) kc_195_1207 rfl rfl ?_
  refine xi_iload (pc' := 1210) (x := x4) kc_195_1208 rfl rfl ?_
  refine xi_iconst (pc' := 1211) (v := 1) kc_195_1210 rfl rfl ?_
  obtain ⟨v1, ev1⟩ : ∃ q : Int32, x4 + 1 = q := ⟨_, rfl⟩
  have zv1 : v1.toInt = (x4.toInt + 1) := by rw [← ev1]; exact (xz_add (X := x4.toInt) (Y := 1) rfl (by decide) (by omega) (by omega)).trans (by omega)
  refine xi_iadd (pc' := 1212) (v := v1) kc_195_1211 rfl ev1 ?_
  obtain ⟨a2, ea2⟩ : ∃ q : Int32, xs.getD (Int32.toNatClampNeg v1) 0 = q := ⟨_, rfl⟩
  have ra2 := xc_rng a2
  refine xi_ialoadO (pc' := 1213) (v := a2) kc_195_1212 rfl (by decide) hov0 (xi_in (by omega) (by omega)) ea2 ?_
  obtain ⟨u3, u4, bu3, bu4, A5⟩ := xq_0 K.1
  refine xi_virtual (mj := 172) (as := [.int a2]) (st1 := []) (lv0 := [(0, .ref 0), (1, .int a2)]) kc_195_1213 rfl rfl rfl rfl rfl A5 (Nat.le_of_ble_eq_true rfl) (hJ _ _ _ _ (by decide)) (xm_le ml_172 rfl) rfl ?_
  refine mt_172_0 hJ hov1 hov2 (d := 79) (x1 := a2) K.1 (fun r6 hh7 K8 => ?_)
  have br6 := xc_rng r6
  have K9 := xk_tr K K8 rfl
  obtain ⟨u10, u11, bu10, bu11, A12⟩ := xq_0 K9.1
  have e13 : u4 = u11 := xk_eqi (q := 9) K8 rfl A5 A12 rfl rfl
  subst e13
  show xw J ov 100 195 (1216, [(4, .int x4), (3, .ref 167), (2, .ref 115), (1, .ref 0), (0, .ref 1000000)], [.int r6], hh7) _
  refine xi_pop (pc' := 1217) kc_195_1216 rfl rfl ?_
  refine xi_aload_n (pc' := 1218) (x := 115) kc_195_1217 rfl rfl ?_
  refine xi_aload_n (pc' := 1219) (x := 1000000) kc_195_1218 rfl rfl ?_
  refine xi_iload (pc' := 1221) (x := x4) kc_195_1219 rfl rfl ?_
  refine xi_iconst (pc' := 1222) (v := 1) kc_195_1221 rfl rfl ?_
  refine xi_iadd (pc' := 1223) (v := v1) kc_195_1222 rfl ev1 ?_
  refine xi_ialoadO (pc' := 1224) (v := a2) kc_195_1223 rfl (by decide) hov0 (xi_in (by omega) (by omega)) ea2 ?_
  obtain ⟨u14, u15, u16, u17, u18, u19, u20, u21, u22, u23, u24, u25, u26, bu14, bu15, bu16, bu17, bu18, bu19, bu20, bu21, bu22, bu23, bu24, bu25, bu26, A27⟩ := xq_115 K9.1
  refine xi_virtual (mj := 68) (as := [.int a2]) (st1 := []) (lv0 := [(0, .ref 115), (1, .int a2)]) kc_195_1224 rfl rfl rfl rfl rfl A27 (Nat.le_of_ble_eq_true rfl) (hJ _ _ _ _ (by decide)) (xm_le ml_68 rfl) rfl ?_
  refine mt_68_0 hJ hov1 hov2 (d := 97) (x1 := a2) K9.1 (fun r28 hh29 K30 => ?_)
  have br28 := xc_rng r28
  have K31 := xk_tr K9 K30 rfl
  obtain ⟨u32, u33, bu32, bu33, A34⟩ := xq_0 K31.1
  have e35 : u4 = u33 := xk_eqi (q := 9) K30 rfl A12 A34 rfl rfl
  subst e35
  obtain ⟨u36, u37, u38, u39, u40, u41, u42, u43, u44, u45, u46, u47, u48, bu36, bu37, bu38, bu39, bu40, bu41, bu42, bu43, bu44, bu45, bu46, bu47, bu48, A49⟩ := xq_115 K31.1
  have e50 : u15 = u37 := xk_eqi (q := 1) K30 rfl A27 A49 rfl rfl
  subst e50
  show xw J ov 100 195 (1227, [(4, .int x4), (3, .ref 167), (2, .ref 115), (1, .ref 0), (0, .ref 1000000)], [.int r28], hh29) _
  refine xi_pop (pc' := 1228) kc_195_1227 rfl rfl ?_
  refine xi_goto (pc' := 1501) kc_195_1228 rfl ?_
  obtain ⟨v51, ev51⟩ : ∃ q : Int32, x4 + 6 = q := ⟨_, rfl⟩
  have zv51 : v51.toInt = (x4.toInt + 6) := by rw [← ev51]; exact (xz_add (X := x4.toInt) (Y := 6) rfl (by decide) (by omega) (by omega)).trans (by omega)
  refine xi_iinc (pc' := 1504) (x := x4) (v := v51) (lv' := [(4, .int v51), (3, .ref 167), (2, .ref 115), (1, .ref 0), (0, .ref 1000000)]) kc_195_1501 rfl rfl ev51 rfl (xm_lt ml_195 rfl) ?_
  refine xi_goto (pc' := 23) kc_195_1504 rfl ?_
  exact kk v51 hh29 (by omega) K31
set_option maxHeartbeats 8000000 in
theorem lc_28 {J : xe_J} {ov : List (List Int32)} (hJ : ∀ d mj as h, mj ≠ xe_loff → J d mj as h = none) (hov1 : ov[1]? = some [10, 0, 0, 0, 0, 0]) (hov2 : ov[2]? = some [99, 30, 50, 50, 1, 99999]) {xs : List Int32} (hov0 : ov[0]? = some xs) {Q : Option Value → xe_H → Prop} {h : xe_H} {x4 : Int32} (hi0 : 0 ≤ x4.toInt) (hi1 : x4.toInt + 6 ≤ xs.length) (hi2 : x4.toInt ≤ 3066) (T : xt h) (kk : ∀ (i : Int32) (h' : xe_H), i.toInt = x4.toInt + 6 → xk [(29, 0), (31, 0), (33, 0), (35, 0), (37, 0), (39, 0), (41, 0), (43, 0), (45, 0), (47, 0), (49, 0), (51, 0), (125, 0)] h h' → xw J ov 100 195 (23, [(4, .int i), (3, .ref 167), (2, .ref 115), (1, .ref 0), (0, .ref 1000000)], [], h') Q) : xw J ov 100 195 (1231, [(4, .int x4), (3, .ref 167), (2, .ref 115), (1, .ref 0), (0, .ref 1000000)], [], h) Q := by
  have K : xk [(29, 0), (31, 0), (33, 0), (35, 0), (37, 0), (39, 0), (41, 0), (43, 0), (45, 0), (47, 0), (49, 0), (51, 0), (125, 0)] h h := xk_re T
  refine xi_aload_n (pc' := 1232) (x := 0) kc_195_1231 rfl rfl ?_
  refine xi_aload_n (pc' := 1233) (x := 1000000) kc_195_1232 rfl rfl ?_
  refine xi_iload (pc' := 1235) (x := x4) kc_195_1233 rfl rfl ?_
  refine xi_iconst (pc' := 1236) (v := 1) kc_195_1235 rfl rfl ?_
  obtain ⟨v1, ev1⟩ : ∃ q : Int32, x4 + 1 = q := ⟨_, rfl⟩
  have zv1 : v1.toInt = (x4.toInt + 1) := by rw [← ev1]; exact (xz_add (X := x4.toInt) (Y := 1) rfl (by decide) (by omega) (by omega)).trans (by omega)
  refine xi_iadd (pc' := 1237) (v := v1) kc_195_1236 rfl ev1 ?_
  obtain ⟨a2, ea2⟩ : ∃ q : Int32, xs.getD (Int32.toNatClampNeg v1) 0 = q := ⟨_, rfl⟩
  have ra2 := xc_rng a2
  refine xi_ialoadO (pc' := 1238) (v := a2) kc_195_1237 rfl (by decide) hov0 (xi_in (by omega) (by omega)) ea2 ?_
  refine xi_aload_n (pc' := 1239) (x := 1000000) kc_195_1238 rfl rfl ?_
  refine xi_iload (pc' := 1241) (x := x4) kc_195_1239 rfl rfl ?_
  refine xi_iconst (pc' := 1242) (v := 2) kc_195_1241 rfl rfl ?_
  obtain ⟨v3, ev3⟩ : ∃ q : Int32, x4 + 2 = q := ⟨_, rfl⟩
  have zv3 : v3.toInt = (x4.toInt + 2) := by rw [← ev3]; exact (xz_add (X := x4.toInt) (Y := 2) rfl (by decide) (by omega) (by omega)).trans (by omega)
  refine xi_iadd (pc' := 1243) (v := v3) kc_195_1242 rfl ev3 ?_
  obtain ⟨a4, ea4⟩ : ∃ q : Int32, xs.getD (Int32.toNatClampNeg v3) 0 = q := ⟨_, rfl⟩
  have ra4 := xc_rng a4
  refine xi_ialoadO (pc' := 1244) (v := a4) kc_195_1243 rfl (by decide) hov0 (xi_in (by omega) (by omega)) ea4 ?_
  refine xi_aload_n (pc' := 1245) (x := 1000000) kc_195_1244 rfl rfl ?_
  refine xi_iload (pc' := 1247) (x := x4) kc_195_1245 rfl rfl ?_
  refine xi_iconst (pc' := 1248) (v := 3) kc_195_1247 rfl rfl ?_
  obtain ⟨v5, ev5⟩ : ∃ q : Int32, x4 + 3 = q := ⟨_, rfl⟩
  have zv5 : v5.toInt = (x4.toInt + 3) := by rw [← ev5]; exact (xz_add (X := x4.toInt) (Y := 3) rfl (by decide) (by omega) (by omega)).trans (by omega)
  refine xi_iadd (pc' := 1249) (v := v5) kc_195_1248 rfl ev5 ?_
  obtain ⟨a6, ea6⟩ : ∃ q : Int32, xs.getD (Int32.toNatClampNeg v5) 0 = q := ⟨_, rfl⟩
  have ra6 := xc_rng a6
  refine xi_ialoadO (pc' := 1250) (v := a6) kc_195_1249 rfl (by decide) hov0 (xi_in (by omega) (by omega)) ea6 ?_
  refine xi_aload_n (pc' := 1251) (x := 1000000) kc_195_1250 rfl rfl ?_
  refine xi_iload (pc' := 1253) (x := x4) kc_195_1251 rfl rfl ?_
  refine xi_iconst (pc' := 1254) (v := 4) kc_195_1253 rfl rfl ?_
  obtain ⟨v7, ev7⟩ : ∃ q : Int32, x4 + 4 = q := ⟨_, rfl⟩
  have zv7 : v7.toInt = (x4.toInt + 4) := by rw [← ev7]; exact (xz_add (X := x4.toInt) (Y := 4) rfl (by decide) (by omega) (by omega)).trans (by omega)
  refine xi_iadd (pc' := 1255) (v := v7) kc_195_1254 rfl ev7 ?_
  obtain ⟨a8, ea8⟩ : ∃ q : Int32, xs.getD (Int32.toNatClampNeg v7) 0 = q := ⟨_, rfl⟩
  have ra8 := xc_rng a8
  refine xi_ialoadO (pc' := 1256) (v := a8) kc_195_1255 rfl (by decide) hov0 (xi_in (by omega) (by omega)) ea8 ?_
  obtain ⟨u9, u10, bu9, bu10, A11⟩ := xq_0 K.1
  refine xi_virtual (mj := 177) (as := [.int a2, .int a4, .int a6, .int a8]) (st1 := []) (lv0 := [(0, .ref 0), (1, .int a2), (2, .int a4), (3, .int a6), (4, .int a8)]) kc_195_1256 rfl rfl rfl rfl rfl A11 (Nat.le_of_ble_eq_true rfl) (hJ _ _ _ _ (by decide)) (xm_le ml_177 rfl) rfl ?_
  refine mt_177_0 hJ hov1 hov2 (d := 98) (x1 := a2) (x2 := a4) (x3 := a6) (x4 := a8) K.1 (fun r12 hh13 br12 K14 => ?_)
  have K15 := xk_tr K K14 rfl
  obtain ⟨u16, u17, bu16, bu17, A18⟩ := xq_0 K15.1
  have e19 : u10 = u17 := xk_eqi (q := 9) K14 rfl A11 A18 rfl rfl
  subst e19
  show xw J ov 100 195 (1259, [(4, .int x4), (3, .ref 167), (2, .ref 115), (1, .ref 0), (0, .ref 1000000)], [.int r12], hh13) _
  refine xi_pop (pc' := 1260) kc_195_1259 rfl rfl ?_
  refine xi_aload_n (pc' := 1261) (x := 115) kc_195_1260 rfl rfl ?_
  refine xi_aload_n (pc' := 1262) (x := 1000000) kc_195_1261 rfl rfl ?_
  refine xi_iload (pc' := 1264) (x := x4) kc_195_1262 rfl rfl ?_
  refine xi_iconst (pc' := 1265) (v := 1) kc_195_1264 rfl rfl ?_
  refine xi_iadd (pc' := 1266) (v := v1) kc_195_1265 rfl ev1 ?_
  refine xi_ialoadO (pc' := 1267) (v := a2) kc_195_1266 rfl (by decide) hov0 (xi_in (by omega) (by omega)) ea2 ?_
  refine xi_aload_n (pc' := 1268) (x := 1000000) kc_195_1267 rfl rfl ?_
  refine xi_iload (pc' := 1270) (x := x4) kc_195_1268 rfl rfl ?_
  refine xi_iconst (pc' := 1271) (v := 2) kc_195_1270 rfl rfl ?_
  refine xi_iadd (pc' := 1272) (v := v3) kc_195_1271 rfl ev3 ?_
  refine xi_ialoadO (pc' := 1273) (v := a4) kc_195_1272 rfl (by decide) hov0 (xi_in (by omega) (by omega)) ea4 ?_
  refine xi_aload_n (pc' := 1274) (x := 1000000) kc_195_1273 rfl rfl ?_
  refine xi_iload (pc' := 1276) (x := x4) kc_195_1274 rfl rfl ?_
  refine xi_iconst (pc' := 1277) (v := 3) kc_195_1276 rfl rfl ?_
  refine xi_iadd (pc' := 1278) (v := v5) kc_195_1277 rfl ev5 ?_
  refine xi_ialoadO (pc' := 1279) (v := a6) kc_195_1278 rfl (by decide) hov0 (xi_in (by omega) (by omega)) ea6 ?_
  refine xi_aload_n (pc' := 1280) (x := 1000000) kc_195_1279 rfl rfl ?_
  refine xi_iload (pc' := 1282) (x := x4) kc_195_1280 rfl rfl ?_
  refine xi_iconst (pc' := 1283) (v := 4) kc_195_1282 rfl rfl ?_
  refine xi_iadd (pc' := 1284) (v := v7) kc_195_1283 rfl ev7 ?_
  refine xi_ialoadO (pc' := 1285) (v := a8) kc_195_1284 rfl (by decide) hov0 (xi_in (by omega) (by omega)) ea8 ?_
  obtain ⟨u20, u21, u22, u23, u24, u25, u26, u27, u28, u29, u30, u31, u32, bu20, bu21, bu22, bu23, bu24, bu25, bu26, bu27, bu28, bu29, bu30, bu31, bu32, A33⟩ := xq_115 K15.1
  refine xi_virtual (mj := 70) (as := [.int a2, .int a4, .int a6, .int a8]) (st1 := []) (lv0 := [(0, .ref 115), (1, .int a2), (2, .int a4), (3, .int a6), (4, .int a8)]) kc_195_1285 rfl rfl rfl rfl rfl A33 (Nat.le_of_ble_eq_true rfl) (hJ _ _ _ _ (by decide)) (xm_le ml_70 rfl) rfl ?_
  refine mt_70_0 hJ hov1 hov2 (d := 98) (x1 := a2) (x2 := a4) (x3 := a6) (x4 := a8) K15.1 (fun r34 hh35 br34 K36 => ?_)
  have K37 := xk_tr K15 K36 rfl
  obtain ⟨u38, u39, bu38, bu39, A40⟩ := xq_0 K37.1
  have e41 : u10 = u39 := xk_eqi (q := 9) K36 rfl A18 A40 rfl rfl
  subst e41
  obtain ⟨u42, u43, u44, u45, u46, u47, u48, u49, u50, u51, u52, u53, u54, bu42, bu43, bu44, bu45, bu46, bu47, bu48, bu49, bu50, bu51, bu52, bu53, bu54, A55⟩ := xq_115 K37.1
  have e56 : u21 = u43 := xk_eqi (q := 1) K36 rfl A33 A55 rfl rfl
  subst e56
  show xw J ov 100 195 (1288, [(4, .int x4), (3, .ref 167), (2, .ref 115), (1, .ref 0), (0, .ref 1000000)], [.int r34], hh35) _
  refine xi_pop (pc' := 1289) kc_195_1288 rfl rfl ?_
  refine xi_goto (pc' := 1501) kc_195_1289 rfl ?_
  obtain ⟨v57, ev57⟩ : ∃ q : Int32, x4 + 6 = q := ⟨_, rfl⟩
  have zv57 : v57.toInt = (x4.toInt + 6) := by rw [← ev57]; exact (xz_add (X := x4.toInt) (Y := 6) rfl (by decide) (by omega) (by omega)).trans (by omega)
  refine xi_iinc (pc' := 1504) (x := x4) (v := v57) (lv' := [(4, .int v57), (3, .ref 167), (2, .ref 115), (1, .ref 0), (0, .ref 1000000)]) kc_195_1501 rfl rfl ev57 rfl (xm_lt ml_195 rfl) ?_
  refine xi_goto (pc' := 23) kc_195_1504 rfl ?_
  exact kk v57 hh35 (by omega) K37
set_option maxHeartbeats 8000000 in
theorem lc_29 {J : xe_J} {ov : List (List Int32)} (hJ : ∀ d mj as h, mj ≠ xe_loff → J d mj as h = none) (hov1 : ov[1]? = some [10, 0, 0, 0, 0, 0]) (hov2 : ov[2]? = some [99, 30, 50, 50, 1, 99999]) {xs : List Int32} (hov0 : ov[0]? = some xs) {Q : Option Value → xe_H → Prop} {h : xe_H} {x4 : Int32} (hi0 : 0 ≤ x4.toInt) (hi1 : x4.toInt + 6 ≤ xs.length) (hi2 : x4.toInt ≤ 3066) (T : xt h) (kk : ∀ (i : Int32) (h' : xe_H), i.toInt = x4.toInt + 6 → xk [(29, 0), (31, 0), (33, 0), (35, 0), (37, 0), (39, 0), (41, 0), (43, 0), (45, 0), (47, 0), (49, 0), (51, 0), (125, 0)] h h' → xw J ov 100 195 (23, [(4, .int i), (3, .ref 167), (2, .ref 115), (1, .ref 0), (0, .ref 1000000)], [], h') Q) : xw J ov 100 195 (1292, [(4, .int x4), (3, .ref 167), (2, .ref 115), (1, .ref 0), (0, .ref 1000000)], [], h) Q := by
  have K : xk [(29, 0), (31, 0), (33, 0), (35, 0), (37, 0), (39, 0), (41, 0), (43, 0), (45, 0), (47, 0), (49, 0), (51, 0), (125, 0)] h h := xk_re T
  refine xi_aload_n (pc' := 1293) (x := 0) kc_195_1292 rfl rfl ?_
  refine xi_aload_n (pc' := 1294) (x := 1000000) kc_195_1293 rfl rfl ?_
  refine xi_iload (pc' := 1296) (x := x4) kc_195_1294 rfl rfl ?_
  refine xi_iconst (pc' := 1297) (v := 1) kc_195_1296 rfl rfl ?_
  obtain ⟨v1, ev1⟩ : ∃ q : Int32, x4 + 1 = q := ⟨_, rfl⟩
  have zv1 : v1.toInt = (x4.toInt + 1) := by rw [← ev1]; exact (xz_add (X := x4.toInt) (Y := 1) rfl (by decide) (by omega) (by omega)).trans (by omega)
  refine xi_iadd (pc' := 1298) (v := v1) kc_195_1297 rfl ev1 ?_
  obtain ⟨a2, ea2⟩ : ∃ q : Int32, xs.getD (Int32.toNatClampNeg v1) 0 = q := ⟨_, rfl⟩
  have ra2 := xc_rng a2
  refine xi_ialoadO (pc' := 1299) (v := a2) kc_195_1298 rfl (by decide) hov0 (xi_in (by omega) (by omega)) ea2 ?_
  by_cases c3 : a2.toInt = 0
  · refine xi_ift (pc' := 1306) kc_195_1299 rfl (xc_eq_t (X := a2.toInt) (Y := 0) rfl (by decide) (by omega)) ?_
    refine xi_iconst (pc' := 1307) (v := 0) kc_195_1306 rfl rfl ?_
    obtain ⟨u4, u5, bu4, bu5, A6⟩ := xq_0 K.1
    refine xi_virtual (mj := 179) (as := [.int 0]) (st1 := []) (lv0 := [(0, .ref 0), (1, .int 0)]) kc_195_1307 rfl rfl rfl rfl rfl A6 (Nat.le_of_ble_eq_true rfl) (hJ _ _ _ _ (by decide)) (xm_le ml_179 rfl) rfl ?_
    have zc0 : (0 : Int32).toInt = 0 := by decide
    refine mt_179_0 hJ hov1 hov2 (d := 98) (x1 := 0) K.1 (by first | omega | decide) (fun r7 hh8 br7 K9 => ?_)
    have K10 := xk_tr K K9 rfl
    obtain ⟨u11, u12, bu11, bu12, A13⟩ := xq_0 K10.1
    have e14 : u5 = u12 := xk_eqi (q := 9) K9 rfl A6 A13 rfl rfl
    subst e14
    show xw J ov 100 195 (1310, [(4, .int x4), (3, .ref 167), (2, .ref 115), (1, .ref 0), (0, .ref 1000000)], [.int r7], hh8) _
    refine xi_pop (pc' := 1311) kc_195_1310 rfl rfl ?_
    refine xi_aload_n (pc' := 1312) (x := 115) kc_195_1311 rfl rfl ?_
    refine xi_aload_n (pc' := 1313) (x := 1000000) kc_195_1312 rfl rfl ?_
    refine xi_iload (pc' := 1315) (x := x4) kc_195_1313 rfl rfl ?_
    refine xi_iconst (pc' := 1316) (v := 1) kc_195_1315 rfl rfl ?_
    refine xi_iadd (pc' := 1317) (v := v1) kc_195_1316 rfl ev1 ?_
    refine xi_ialoadO (pc' := 1318) (v := a2) kc_195_1317 rfl (by decide) hov0 (xi_in (by omega) (by omega)) ea2 ?_
    refine xi_ift (pc' := 1325) kc_195_1318 rfl (xc_eq_t (X := a2.toInt) (Y := 0) rfl (by decide) (by omega)) ?_
    refine xi_iconst (pc' := 1326) (v := 0) kc_195_1325 rfl rfl ?_
    obtain ⟨u15, u16, u17, u18, u19, u20, u21, u22, u23, u24, u25, u26, u27, bu15, bu16, bu17, bu18, bu19, bu20, bu21, bu22, bu23, bu24, bu25, bu26, bu27, A28⟩ := xq_115 K10.1
    refine xi_virtual (mj := 71) (as := [.int 0]) (st1 := []) (lv0 := [(0, .ref 115), (1, .int 0)]) kc_195_1326 rfl rfl rfl rfl rfl A28 (Nat.le_of_ble_eq_true rfl) (hJ _ _ _ _ (by decide)) (xm_le ml_71 rfl) rfl ?_
    have zc0 : (0 : Int32).toInt = 0 := by decide
    refine mt_71_0 hJ hov1 hov2 (d := 98) (x1 := 0) K10.1 (by first | omega | decide) (fun r29 hh30 br29 K31 => ?_)
    have K32 := xk_tr K10 K31 rfl
    obtain ⟨u33, u34, bu33, bu34, A35⟩ := xq_0 K32.1
    have e36 : u5 = u34 := xk_eqi (q := 9) K31 rfl A13 A35 rfl rfl
    subst e36
    obtain ⟨u37, u38, u39, u40, u41, u42, u43, u44, u45, u46, u47, u48, u49, bu37, bu38, bu39, bu40, bu41, bu42, bu43, bu44, bu45, bu46, bu47, bu48, bu49, A50⟩ := xq_115 K32.1
    have e51 : u16 = u38 := xk_eqi (q := 1) K31 rfl A28 A50 rfl rfl
    subst e51
    show xw J ov 100 195 (1329, [(4, .int x4), (3, .ref 167), (2, .ref 115), (1, .ref 0), (0, .ref 1000000)], [.int r29], hh30) _
    refine xi_pop (pc' := 1330) kc_195_1329 rfl rfl ?_
    refine xi_goto (pc' := 1501) kc_195_1330 rfl ?_
    obtain ⟨v52, ev52⟩ : ∃ q : Int32, x4 + 6 = q := ⟨_, rfl⟩
    have zv52 : v52.toInt = (x4.toInt + 6) := by rw [← ev52]; exact (xz_add (X := x4.toInt) (Y := 6) rfl (by decide) (by omega) (by omega)).trans (by omega)
    refine xi_iinc (pc' := 1504) (x := x4) (v := v52) (lv' := [(4, .int v52), (3, .ref 167), (2, .ref 115), (1, .ref 0), (0, .ref 1000000)]) kc_195_1501 rfl rfl ev52 rfl (xm_lt ml_195 rfl) ?_
    refine xi_goto (pc' := 23) kc_195_1504 rfl ?_
    exact kk v52 hh30 (by omega) K32
  · refine xi_iff (pc' := 1302) kc_195_1299 rfl (xc_eq_f (X := a2.toInt) (Y := 0) rfl (by decide) (by omega)) ?_
    refine xi_iconst (pc' := 1303) (v := 1) kc_195_1302 rfl rfl ?_
    refine xi_goto (pc' := 1307) kc_195_1303 rfl ?_
    obtain ⟨u53, u54, bu53, bu54, A55⟩ := xq_0 K.1
    refine xi_virtual (mj := 179) (as := [.int 1]) (st1 := []) (lv0 := [(0, .ref 0), (1, .int 1)]) kc_195_1307 rfl rfl rfl rfl rfl A55 (Nat.le_of_ble_eq_true rfl) (hJ _ _ _ _ (by decide)) (xm_le ml_179 rfl) rfl ?_
    have zc1 : (1 : Int32).toInt = 1 := by decide
    refine mt_179_0 hJ hov1 hov2 (d := 98) (x1 := 1) K.1 (by first | omega | decide) (fun r56 hh57 br56 K58 => ?_)
    have K59 := xk_tr K K58 rfl
    obtain ⟨u60, u61, bu60, bu61, A62⟩ := xq_0 K59.1
    have e63 : u54 = u61 := xk_eqi (q := 9) K58 rfl A55 A62 rfl rfl
    subst e63
    show xw J ov 100 195 (1310, [(4, .int x4), (3, .ref 167), (2, .ref 115), (1, .ref 0), (0, .ref 1000000)], [.int r56], hh57) _
    refine xi_pop (pc' := 1311) kc_195_1310 rfl rfl ?_
    refine xi_aload_n (pc' := 1312) (x := 115) kc_195_1311 rfl rfl ?_
    refine xi_aload_n (pc' := 1313) (x := 1000000) kc_195_1312 rfl rfl ?_
    refine xi_iload (pc' := 1315) (x := x4) kc_195_1313 rfl rfl ?_
    refine xi_iconst (pc' := 1316) (v := 1) kc_195_1315 rfl rfl ?_
    refine xi_iadd (pc' := 1317) (v := v1) kc_195_1316 rfl ev1 ?_
    refine xi_ialoadO (pc' := 1318) (v := a2) kc_195_1317 rfl (by decide) hov0 (xi_in (by omega) (by omega)) ea2 ?_
    refine xi_iff (pc' := 1321) kc_195_1318 rfl (xc_eq_f (X := a2.toInt) (Y := 0) rfl (by decide) (by omega)) ?_
    refine xi_iconst (pc' := 1322) (v := 1) kc_195_1321 rfl rfl ?_
    refine xi_goto (pc' := 1326) kc_195_1322 rfl ?_
    obtain ⟨u64, u65, u66, u67, u68, u69, u70, u71, u72, u73, u74, u75, u76, bu64, bu65, bu66, bu67, bu68, bu69, bu70, bu71, bu72, bu73, bu74, bu75, bu76, A77⟩ := xq_115 K59.1
    refine xi_virtual (mj := 71) (as := [.int 1]) (st1 := []) (lv0 := [(0, .ref 115), (1, .int 1)]) kc_195_1326 rfl rfl rfl rfl rfl A77 (Nat.le_of_ble_eq_true rfl) (hJ _ _ _ _ (by decide)) (xm_le ml_71 rfl) rfl ?_
    have zc1 : (1 : Int32).toInt = 1 := by decide
    refine mt_71_0 hJ hov1 hov2 (d := 98) (x1 := 1) K59.1 (by first | omega | decide) (fun r78 hh79 br78 K80 => ?_)
    have K81 := xk_tr K59 K80 rfl
    obtain ⟨u82, u83, bu82, bu83, A84⟩ := xq_0 K81.1
    have e85 : u54 = u83 := xk_eqi (q := 9) K80 rfl A62 A84 rfl rfl
    subst e85
    obtain ⟨u86, u87, u88, u89, u90, u91, u92, u93, u94, u95, u96, u97, u98, bu86, bu87, bu88, bu89, bu90, bu91, bu92, bu93, bu94, bu95, bu96, bu97, bu98, A99⟩ := xq_115 K81.1
    have e100 : u65 = u87 := xk_eqi (q := 1) K80 rfl A77 A99 rfl rfl
    subst e100
    show xw J ov 100 195 (1329, [(4, .int x4), (3, .ref 167), (2, .ref 115), (1, .ref 0), (0, .ref 1000000)], [.int r78], hh79) _
    refine xi_pop (pc' := 1330) kc_195_1329 rfl rfl ?_
    refine xi_goto (pc' := 1501) kc_195_1330 rfl ?_
    obtain ⟨v101, ev101⟩ : ∃ q : Int32, x4 + 6 = q := ⟨_, rfl⟩
    have zv101 : v101.toInt = (x4.toInt + 6) := by rw [← ev101]; exact (xz_add (X := x4.toInt) (Y := 6) rfl (by decide) (by omega) (by omega)).trans (by omega)
    refine xi_iinc (pc' := 1504) (x := x4) (v := v101) (lv' := [(4, .int v101), (3, .ref 167), (2, .ref 115), (1, .ref 0), (0, .ref 1000000)]) kc_195_1501 rfl rfl ev101 rfl (xm_lt ml_195 rfl) ?_
    refine xi_goto (pc' := 23) kc_195_1504 rfl ?_
    exact kk v101 hh79 (by omega) K81
set_option maxHeartbeats 8000000 in
theorem lc_30 {J : xe_J} {ov : List (List Int32)} (hJ : ∀ d mj as h, mj ≠ xe_loff → J d mj as h = none) (hov1 : ov[1]? = some [10, 0, 0, 0, 0, 0]) (hov2 : ov[2]? = some [99, 30, 50, 50, 1, 99999]) {xs : List Int32} (hov0 : ov[0]? = some xs) {Q : Option Value → xe_H → Prop} {h : xe_H} {x4 : Int32} (hi0 : 0 ≤ x4.toInt) (hi1 : x4.toInt + 6 ≤ xs.length) (hi2 : x4.toInt ≤ 3066) (T : xt h) (kk : ∀ (i : Int32) (h' : xe_H), i.toInt = x4.toInt + 6 → xk [(29, 0), (31, 0), (33, 0), (35, 0), (37, 0), (39, 0), (41, 0), (43, 0), (45, 0), (47, 0), (49, 0), (51, 0), (125, 0)] h h' → xw J ov 100 195 (23, [(4, .int i), (3, .ref 167), (2, .ref 115), (1, .ref 0), (0, .ref 1000000)], [], h') Q) : xw J ov 100 195 (1333, [(4, .int x4), (3, .ref 167), (2, .ref 115), (1, .ref 0), (0, .ref 1000000)], [], h) Q := by
  have K : xk [(29, 0), (31, 0), (33, 0), (35, 0), (37, 0), (39, 0), (41, 0), (43, 0), (45, 0), (47, 0), (49, 0), (51, 0), (125, 0)] h h := xk_re T
  refine xi_aload_n (pc' := 1334) (x := 0) kc_195_1333 rfl rfl ?_
  refine xi_aload_n (pc' := 1335) (x := 1000000) kc_195_1334 rfl rfl ?_
  refine xi_iload (pc' := 1337) (x := x4) kc_195_1335 rfl rfl ?_
  refine xi_iconst (pc' := 1338) (v := 1) kc_195_1337 rfl rfl ?_
  obtain ⟨v1, ev1⟩ : ∃ q : Int32, x4 + 1 = q := ⟨_, rfl⟩
  have zv1 : v1.toInt = (x4.toInt + 1) := by rw [← ev1]; exact (xz_add (X := x4.toInt) (Y := 1) rfl (by decide) (by omega) (by omega)).trans (by omega)
  refine xi_iadd (pc' := 1339) (v := v1) kc_195_1338 rfl ev1 ?_
  obtain ⟨a2, ea2⟩ : ∃ q : Int32, xs.getD (Int32.toNatClampNeg v1) 0 = q := ⟨_, rfl⟩
  have ra2 := xc_rng a2
  refine xi_ialoadO (pc' := 1340) (v := a2) kc_195_1339 rfl (by decide) hov0 (xi_in (by omega) (by omega)) ea2 ?_
  by_cases c3 : a2.toInt = 0
  · refine xi_ift (pc' := 1347) kc_195_1340 rfl (xc_eq_t (X := a2.toInt) (Y := 0) rfl (by decide) (by omega)) ?_
    refine xi_iconst (pc' := 1348) (v := 0) kc_195_1347 rfl rfl ?_
    refine xi_aload_n (pc' := 1349) (x := 1000000) kc_195_1348 rfl rfl ?_
    refine xi_iload (pc' := 1351) (x := x4) kc_195_1349 rfl rfl ?_
    refine xi_iconst (pc' := 1352) (v := 2) kc_195_1351 rfl rfl ?_
    obtain ⟨v4, ev4⟩ : ∃ q : Int32, x4 + 2 = q := ⟨_, rfl⟩
    have zv4 : v4.toInt = (x4.toInt + 2) := by rw [← ev4]; exact (xz_add (X := x4.toInt) (Y := 2) rfl (by decide) (by omega) (by omega)).trans (by omega)
    refine xi_iadd (pc' := 1353) (v := v4) kc_195_1352 rfl ev4 ?_
    obtain ⟨a5, ea5⟩ : ∃ q : Int32, xs.getD (Int32.toNatClampNeg v4) 0 = q := ⟨_, rfl⟩
    have ra5 := xc_rng a5
    refine xi_ialoadO (pc' := 1354) (v := a5) kc_195_1353 rfl (by decide) hov0 (xi_in (by omega) (by omega)) ea5 ?_
    refine xi_aload_n (pc' := 1355) (x := 1000000) kc_195_1354 rfl rfl ?_
    refine xi_iload (pc' := 1357) (x := x4) kc_195_1355 rfl rfl ?_
    refine xi_iconst (pc' := 1358) (v := 3) kc_195_1357 rfl rfl ?_
    obtain ⟨v6, ev6⟩ : ∃ q : Int32, x4 + 3 = q := ⟨_, rfl⟩
    have zv6 : v6.toInt = (x4.toInt + 3) := by rw [← ev6]; exact (xz_add (X := x4.toInt) (Y := 3) rfl (by decide) (by omega) (by omega)).trans (by omega)
    refine xi_iadd (pc' := 1359) (v := v6) kc_195_1358 rfl ev6 ?_
    obtain ⟨a7, ea7⟩ : ∃ q : Int32, xs.getD (Int32.toNatClampNeg v6) 0 = q := ⟨_, rfl⟩
    have ra7 := xc_rng a7
    refine xi_ialoadO (pc' := 1360) (v := a7) kc_195_1359 rfl (by decide) hov0 (xi_in (by omega) (by omega)) ea7 ?_
    by_cases c8 : a7.toInt = 0
    · refine xi_ift (pc' := 1367) kc_195_1360 rfl (xc_eq_t (X := a7.toInt) (Y := 0) rfl (by decide) (by omega)) ?_
      refine xi_iconst (pc' := 1368) (v := 0) kc_195_1367 rfl rfl ?_
      obtain ⟨u9, u10, bu9, bu10, A11⟩ := xq_0 K.1
      refine xi_virtual (mj := 180) (as := [.int 0, .int a5, .int 0]) (st1 := []) (lv0 := [(0, .ref 0), (1, .int 0), (2, .int a5), (3, .int 0)]) kc_195_1368 rfl rfl rfl rfl rfl A11 (Nat.le_of_ble_eq_true rfl) (hJ _ _ _ _ (by decide)) (xm_le ml_180 rfl) rfl ?_
      have zc0 : (0 : Int32).toInt = 0 := by decide
      refine mt_180_0 hJ hov1 hov2 (d := 97) (x1 := 0) (x2 := a5) (x3 := 0) K.1 (by first | omega | decide) (by first | omega | decide) (fun r12 hh13 br12 K14 => ?_)
      have K15 := xk_tr K K14 rfl
      obtain ⟨u16, u17, bu16, bu17, A18⟩ := xq_0 K15.1
      have e19 : u10 = u17 := xk_eqi (q := 9) K14 rfl A11 A18 rfl rfl
      subst e19
      show xw J ov 100 195 (1371, [(4, .int x4), (3, .ref 167), (2, .ref 115), (1, .ref 0), (0, .ref 1000000)], [.int r12], hh13) _
      refine xi_pop (pc' := 1372) kc_195_1371 rfl rfl ?_
      refine xi_aload_n (pc' := 1373) (x := 115) kc_195_1372 rfl rfl ?_
      refine xi_aload_n (pc' := 1374) (x := 1000000) kc_195_1373 rfl rfl ?_
      refine xi_iload (pc' := 1376) (x := x4) kc_195_1374 rfl rfl ?_
      refine xi_iconst (pc' := 1377) (v := 1) kc_195_1376 rfl rfl ?_
      refine xi_iadd (pc' := 1378) (v := v1) kc_195_1377 rfl ev1 ?_
      refine xi_ialoadO (pc' := 1379) (v := a2) kc_195_1378 rfl (by decide) hov0 (xi_in (by omega) (by omega)) ea2 ?_
      refine xi_ift (pc' := 1386) kc_195_1379 rfl (xc_eq_t (X := a2.toInt) (Y := 0) rfl (by decide) (by omega)) ?_
      refine xi_iconst (pc' := 1387) (v := 0) kc_195_1386 rfl rfl ?_
      refine xi_aload_n (pc' := 1388) (x := 1000000) kc_195_1387 rfl rfl ?_
      refine xi_iload (pc' := 1390) (x := x4) kc_195_1388 rfl rfl ?_
      refine xi_iconst (pc' := 1391) (v := 2) kc_195_1390 rfl rfl ?_
      refine xi_iadd (pc' := 1392) (v := v4) kc_195_1391 rfl ev4 ?_
      refine xi_ialoadO (pc' := 1393) (v := a5) kc_195_1392 rfl (by decide) hov0 (xi_in (by omega) (by omega)) ea5 ?_
      refine xi_aload_n (pc' := 1394) (x := 1000000) kc_195_1393 rfl rfl ?_
      refine xi_iload (pc' := 1396) (x := x4) kc_195_1394 rfl rfl ?_
      refine xi_iconst (pc' := 1397) (v := 3) kc_195_1396 rfl rfl ?_
      refine xi_iadd (pc' := 1398) (v := v6) kc_195_1397 rfl ev6 ?_
      refine xi_ialoadO (pc' := 1399) (v := a7) kc_195_1398 rfl (by decide) hov0 (xi_in (by omega) (by omega)) ea7 ?_
      refine xi_ift (pc' := 1406) kc_195_1399 rfl (xc_eq_t (X := a7.toInt) (Y := 0) rfl (by decide) (by omega)) ?_
      refine xi_iconst (pc' := 1407) (v := 0) kc_195_1406 rfl rfl ?_
      obtain ⟨u20, u21, u22, u23, u24, u25, u26, u27, u28, u29, u30, u31, u32, bu20, bu21, bu22, bu23, bu24, bu25, bu26, bu27, bu28, bu29, bu30, bu31, bu32, A33⟩ := xq_115 K15.1
      refine xi_virtual (mj := 72) (as := [.int 0, .int a5, .int 0]) (st1 := []) (lv0 := [(0, .ref 115), (1, .int 0), (2, .int a5), (3, .int 0)]) kc_195_1407 rfl rfl rfl rfl rfl A33 (Nat.le_of_ble_eq_true rfl) (hJ _ _ _ _ (by decide)) (xm_le ml_72 rfl) rfl ?_
      have zc0 : (0 : Int32).toInt = 0 := by decide
      refine mt_72_0 hJ hov1 hov2 (d := 98) (x1 := 0) (x2 := a5) (x3 := 0) K15.1 (by first | omega | decide) (by first | omega | decide) (fun r34 hh35 br34 K36 => ?_)
      have K37 := xk_tr K15 K36 rfl
      obtain ⟨u38, u39, bu38, bu39, A40⟩ := xq_0 K37.1
      have e41 : u10 = u39 := xk_eqi (q := 9) K36 rfl A18 A40 rfl rfl
      subst e41
      obtain ⟨u42, u43, u44, u45, u46, u47, u48, u49, u50, u51, u52, u53, u54, bu42, bu43, bu44, bu45, bu46, bu47, bu48, bu49, bu50, bu51, bu52, bu53, bu54, A55⟩ := xq_115 K37.1
      have e56 : u21 = u43 := xk_eqi (q := 1) K36 rfl A33 A55 rfl rfl
      subst e56
      show xw J ov 100 195 (1410, [(4, .int x4), (3, .ref 167), (2, .ref 115), (1, .ref 0), (0, .ref 1000000)], [.int r34], hh35) _
      refine xi_pop (pc' := 1411) kc_195_1410 rfl rfl ?_
      refine xi_goto (pc' := 1501) kc_195_1411 rfl ?_
      obtain ⟨v57, ev57⟩ : ∃ q : Int32, x4 + 6 = q := ⟨_, rfl⟩
      have zv57 : v57.toInt = (x4.toInt + 6) := by rw [← ev57]; exact (xz_add (X := x4.toInt) (Y := 6) rfl (by decide) (by omega) (by omega)).trans (by omega)
      refine xi_iinc (pc' := 1504) (x := x4) (v := v57) (lv' := [(4, .int v57), (3, .ref 167), (2, .ref 115), (1, .ref 0), (0, .ref 1000000)]) kc_195_1501 rfl rfl ev57 rfl (xm_lt ml_195 rfl) ?_
      refine xi_goto (pc' := 23) kc_195_1504 rfl ?_
      exact kk v57 hh35 (by omega) K37
    · refine xi_iff (pc' := 1363) kc_195_1360 rfl (xc_eq_f (X := a7.toInt) (Y := 0) rfl (by decide) (by omega)) ?_
      refine xi_iconst (pc' := 1364) (v := 1) kc_195_1363 rfl rfl ?_
      refine xi_goto (pc' := 1368) kc_195_1364 rfl ?_
      obtain ⟨u58, u59, bu58, bu59, A60⟩ := xq_0 K.1
      refine xi_virtual (mj := 180) (as := [.int 0, .int a5, .int 1]) (st1 := []) (lv0 := [(0, .ref 0), (1, .int 0), (2, .int a5), (3, .int 1)]) kc_195_1368 rfl rfl rfl rfl rfl A60 (Nat.le_of_ble_eq_true rfl) (hJ _ _ _ _ (by decide)) (xm_le ml_180 rfl) rfl ?_
      have zc0 : (0 : Int32).toInt = 0 := by decide
      have zc1 : (1 : Int32).toInt = 1 := by decide
      refine mt_180_0 hJ hov1 hov2 (d := 97) (x1 := 0) (x2 := a5) (x3 := 1) K.1 (by first | omega | decide) (by first | omega | decide) (fun r61 hh62 br61 K63 => ?_)
      have K64 := xk_tr K K63 rfl
      obtain ⟨u65, u66, bu65, bu66, A67⟩ := xq_0 K64.1
      have e68 : u59 = u66 := xk_eqi (q := 9) K63 rfl A60 A67 rfl rfl
      subst e68
      show xw J ov 100 195 (1371, [(4, .int x4), (3, .ref 167), (2, .ref 115), (1, .ref 0), (0, .ref 1000000)], [.int r61], hh62) _
      refine xi_pop (pc' := 1372) kc_195_1371 rfl rfl ?_
      refine xi_aload_n (pc' := 1373) (x := 115) kc_195_1372 rfl rfl ?_
      refine xi_aload_n (pc' := 1374) (x := 1000000) kc_195_1373 rfl rfl ?_
      refine xi_iload (pc' := 1376) (x := x4) kc_195_1374 rfl rfl ?_
      refine xi_iconst (pc' := 1377) (v := 1) kc_195_1376 rfl rfl ?_
      refine xi_iadd (pc' := 1378) (v := v1) kc_195_1377 rfl ev1 ?_
      refine xi_ialoadO (pc' := 1379) (v := a2) kc_195_1378 rfl (by decide) hov0 (xi_in (by omega) (by omega)) ea2 ?_
      refine xi_ift (pc' := 1386) kc_195_1379 rfl (xc_eq_t (X := a2.toInt) (Y := 0) rfl (by decide) (by omega)) ?_
      refine xi_iconst (pc' := 1387) (v := 0) kc_195_1386 rfl rfl ?_
      refine xi_aload_n (pc' := 1388) (x := 1000000) kc_195_1387 rfl rfl ?_
      refine xi_iload (pc' := 1390) (x := x4) kc_195_1388 rfl rfl ?_
      refine xi_iconst (pc' := 1391) (v := 2) kc_195_1390 rfl rfl ?_
      refine xi_iadd (pc' := 1392) (v := v4) kc_195_1391 rfl ev4 ?_
      refine xi_ialoadO (pc' := 1393) (v := a5) kc_195_1392 rfl (by decide) hov0 (xi_in (by omega) (by omega)) ea5 ?_
      refine xi_aload_n (pc' := 1394) (x := 1000000) kc_195_1393 rfl rfl ?_
      refine xi_iload (pc' := 1396) (x := x4) kc_195_1394 rfl rfl ?_
      refine xi_iconst (pc' := 1397) (v := 3) kc_195_1396 rfl rfl ?_
      refine xi_iadd (pc' := 1398) (v := v6) kc_195_1397 rfl ev6 ?_
      refine xi_ialoadO (pc' := 1399) (v := a7) kc_195_1398 rfl (by decide) hov0 (xi_in (by omega) (by omega)) ea7 ?_
      refine xi_iff (pc' := 1402) kc_195_1399 rfl (xc_eq_f (X := a7.toInt) (Y := 0) rfl (by decide) (by omega)) ?_
      refine xi_iconst (pc' := 1403) (v := 1) kc_195_1402 rfl rfl ?_
      refine xi_goto (pc' := 1407) kc_195_1403 rfl ?_
      obtain ⟨u69, u70, u71, u72, u73, u74, u75, u76, u77, u78, u79, u80, u81, bu69, bu70, bu71, bu72, bu73, bu74, bu75, bu76, bu77, bu78, bu79, bu80, bu81, A82⟩ := xq_115 K64.1
      refine xi_virtual (mj := 72) (as := [.int 0, .int a5, .int 1]) (st1 := []) (lv0 := [(0, .ref 115), (1, .int 0), (2, .int a5), (3, .int 1)]) kc_195_1407 rfl rfl rfl rfl rfl A82 (Nat.le_of_ble_eq_true rfl) (hJ _ _ _ _ (by decide)) (xm_le ml_72 rfl) rfl ?_
      have zc0 : (0 : Int32).toInt = 0 := by decide
      have zc1 : (1 : Int32).toInt = 1 := by decide
      refine mt_72_0 hJ hov1 hov2 (d := 98) (x1 := 0) (x2 := a5) (x3 := 1) K64.1 (by first | omega | decide) (by first | omega | decide) (fun r83 hh84 br83 K85 => ?_)
      have K86 := xk_tr K64 K85 rfl
      obtain ⟨u87, u88, bu87, bu88, A89⟩ := xq_0 K86.1
      have e90 : u59 = u88 := xk_eqi (q := 9) K85 rfl A67 A89 rfl rfl
      subst e90
      obtain ⟨u91, u92, u93, u94, u95, u96, u97, u98, u99, u100, u101, u102, u103, bu91, bu92, bu93, bu94, bu95, bu96, bu97, bu98, bu99, bu100, bu101, bu102, bu103, A104⟩ := xq_115 K86.1
      have e105 : u70 = u92 := xk_eqi (q := 1) K85 rfl A82 A104 rfl rfl
      subst e105
      show xw J ov 100 195 (1410, [(4, .int x4), (3, .ref 167), (2, .ref 115), (1, .ref 0), (0, .ref 1000000)], [.int r83], hh84) _
      refine xi_pop (pc' := 1411) kc_195_1410 rfl rfl ?_
      refine xi_goto (pc' := 1501) kc_195_1411 rfl ?_
      obtain ⟨v106, ev106⟩ : ∃ q : Int32, x4 + 6 = q := ⟨_, rfl⟩
      have zv106 : v106.toInt = (x4.toInt + 6) := by rw [← ev106]; exact (xz_add (X := x4.toInt) (Y := 6) rfl (by decide) (by omega) (by omega)).trans (by omega)
      refine xi_iinc (pc' := 1504) (x := x4) (v := v106) (lv' := [(4, .int v106), (3, .ref 167), (2, .ref 115), (1, .ref 0), (0, .ref 1000000)]) kc_195_1501 rfl rfl ev106 rfl (xm_lt ml_195 rfl) ?_
      refine xi_goto (pc' := 23) kc_195_1504 rfl ?_
      exact kk v106 hh84 (by omega) K86
  · refine xi_iff (pc' := 1343) kc_195_1340 rfl (xc_eq_f (X := a2.toInt) (Y := 0) rfl (by decide) (by omega)) ?_
    refine xi_iconst (pc' := 1344) (v := 1) kc_195_1343 rfl rfl ?_
    refine xi_goto (pc' := 1348) kc_195_1344 rfl ?_
    refine xi_aload_n (pc' := 1349) (x := 1000000) kc_195_1348 rfl rfl ?_
    refine xi_iload (pc' := 1351) (x := x4) kc_195_1349 rfl rfl ?_
    refine xi_iconst (pc' := 1352) (v := 2) kc_195_1351 rfl rfl ?_
    obtain ⟨v107, ev107⟩ : ∃ q : Int32, x4 + 2 = q := ⟨_, rfl⟩
    have zv107 : v107.toInt = (x4.toInt + 2) := by rw [← ev107]; exact (xz_add (X := x4.toInt) (Y := 2) rfl (by decide) (by omega) (by omega)).trans (by omega)
    refine xi_iadd (pc' := 1353) (v := v107) kc_195_1352 rfl ev107 ?_
    obtain ⟨a108, ea108⟩ : ∃ q : Int32, xs.getD (Int32.toNatClampNeg v107) 0 = q := ⟨_, rfl⟩
    have ra108 := xc_rng a108
    refine xi_ialoadO (pc' := 1354) (v := a108) kc_195_1353 rfl (by decide) hov0 (xi_in (by omega) (by omega)) ea108 ?_
    refine xi_aload_n (pc' := 1355) (x := 1000000) kc_195_1354 rfl rfl ?_
    refine xi_iload (pc' := 1357) (x := x4) kc_195_1355 rfl rfl ?_
    refine xi_iconst (pc' := 1358) (v := 3) kc_195_1357 rfl rfl ?_
    obtain ⟨v109, ev109⟩ : ∃ q : Int32, x4 + 3 = q := ⟨_, rfl⟩
    have zv109 : v109.toInt = (x4.toInt + 3) := by rw [← ev109]; exact (xz_add (X := x4.toInt) (Y := 3) rfl (by decide) (by omega) (by omega)).trans (by omega)
    refine xi_iadd (pc' := 1359) (v := v109) kc_195_1358 rfl ev109 ?_
    obtain ⟨a110, ea110⟩ : ∃ q : Int32, xs.getD (Int32.toNatClampNeg v109) 0 = q := ⟨_, rfl⟩
    have ra110 := xc_rng a110
    refine xi_ialoadO (pc' := 1360) (v := a110) kc_195_1359 rfl (by decide) hov0 (xi_in (by omega) (by omega)) ea110 ?_
    by_cases c111 : a110.toInt = 0
    · refine xi_ift (pc' := 1367) kc_195_1360 rfl (xc_eq_t (X := a110.toInt) (Y := 0) rfl (by decide) (by omega)) ?_
      refine xi_iconst (pc' := 1368) (v := 0) kc_195_1367 rfl rfl ?_
      obtain ⟨u112, u113, bu112, bu113, A114⟩ := xq_0 K.1
      refine xi_virtual (mj := 180) (as := [.int 1, .int a108, .int 0]) (st1 := []) (lv0 := [(0, .ref 0), (1, .int 1), (2, .int a108), (3, .int 0)]) kc_195_1368 rfl rfl rfl rfl rfl A114 (Nat.le_of_ble_eq_true rfl) (hJ _ _ _ _ (by decide)) (xm_le ml_180 rfl) rfl ?_
      have zc0 : (0 : Int32).toInt = 0 := by decide
      have zc1 : (1 : Int32).toInt = 1 := by decide
      refine mt_180_0 hJ hov1 hov2 (d := 97) (x1 := 1) (x2 := a108) (x3 := 0) K.1 (by first | omega | decide) (by first | omega | decide) (fun r115 hh116 br115 K117 => ?_)
      have K118 := xk_tr K K117 rfl
      obtain ⟨u119, u120, bu119, bu120, A121⟩ := xq_0 K118.1
      have e122 : u113 = u120 := xk_eqi (q := 9) K117 rfl A114 A121 rfl rfl
      subst e122
      show xw J ov 100 195 (1371, [(4, .int x4), (3, .ref 167), (2, .ref 115), (1, .ref 0), (0, .ref 1000000)], [.int r115], hh116) _
      refine xi_pop (pc' := 1372) kc_195_1371 rfl rfl ?_
      refine xi_aload_n (pc' := 1373) (x := 115) kc_195_1372 rfl rfl ?_
      refine xi_aload_n (pc' := 1374) (x := 1000000) kc_195_1373 rfl rfl ?_
      refine xi_iload (pc' := 1376) (x := x4) kc_195_1374 rfl rfl ?_
      refine xi_iconst (pc' := 1377) (v := 1) kc_195_1376 rfl rfl ?_
      refine xi_iadd (pc' := 1378) (v := v1) kc_195_1377 rfl ev1 ?_
      refine xi_ialoadO (pc' := 1379) (v := a2) kc_195_1378 rfl (by decide) hov0 (xi_in (by omega) (by omega)) ea2 ?_
      refine xi_iff (pc' := 1382) kc_195_1379 rfl (xc_eq_f (X := a2.toInt) (Y := 0) rfl (by decide) (by omega)) ?_
      refine xi_iconst (pc' := 1383) (v := 1) kc_195_1382 rfl rfl ?_
      refine xi_goto (pc' := 1387) kc_195_1383 rfl ?_
      refine xi_aload_n (pc' := 1388) (x := 1000000) kc_195_1387 rfl rfl ?_
      refine xi_iload (pc' := 1390) (x := x4) kc_195_1388 rfl rfl ?_
      refine xi_iconst (pc' := 1391) (v := 2) kc_195_1390 rfl rfl ?_
      refine xi_iadd (pc' := 1392) (v := v107) kc_195_1391 rfl ev107 ?_
      refine xi_ialoadO (pc' := 1393) (v := a108) kc_195_1392 rfl (by decide) hov0 (xi_in (by omega) (by omega)) ea108 ?_
      refine xi_aload_n (pc' := 1394) (x := 1000000) kc_195_1393 rfl rfl ?_
      refine xi_iload (pc' := 1396) (x := x4) kc_195_1394 rfl rfl ?_
      refine xi_iconst (pc' := 1397) (v := 3) kc_195_1396 rfl rfl ?_
      refine xi_iadd (pc' := 1398) (v := v109) kc_195_1397 rfl ev109 ?_
      refine xi_ialoadO (pc' := 1399) (v := a110) kc_195_1398 rfl (by decide) hov0 (xi_in (by omega) (by omega)) ea110 ?_
      refine xi_ift (pc' := 1406) kc_195_1399 rfl (xc_eq_t (X := a110.toInt) (Y := 0) rfl (by decide) (by omega)) ?_
      refine xi_iconst (pc' := 1407) (v := 0) kc_195_1406 rfl rfl ?_
      obtain ⟨u123, u124, u125, u126, u127, u128, u129, u130, u131, u132, u133, u134, u135, bu123, bu124, bu125, bu126, bu127, bu128, bu129, bu130, bu131, bu132, bu133, bu134, bu135, A136⟩ := xq_115 K118.1
      refine xi_virtual (mj := 72) (as := [.int 1, .int a108, .int 0]) (st1 := []) (lv0 := [(0, .ref 115), (1, .int 1), (2, .int a108), (3, .int 0)]) kc_195_1407 rfl rfl rfl rfl rfl A136 (Nat.le_of_ble_eq_true rfl) (hJ _ _ _ _ (by decide)) (xm_le ml_72 rfl) rfl ?_
      have zc0 : (0 : Int32).toInt = 0 := by decide
      have zc1 : (1 : Int32).toInt = 1 := by decide
      refine mt_72_0 hJ hov1 hov2 (d := 98) (x1 := 1) (x2 := a108) (x3 := 0) K118.1 (by first | omega | decide) (by first | omega | decide) (fun r137 hh138 br137 K139 => ?_)
      have K140 := xk_tr K118 K139 rfl
      obtain ⟨u141, u142, bu141, bu142, A143⟩ := xq_0 K140.1
      have e144 : u113 = u142 := xk_eqi (q := 9) K139 rfl A121 A143 rfl rfl
      subst e144
      obtain ⟨u145, u146, u147, u148, u149, u150, u151, u152, u153, u154, u155, u156, u157, bu145, bu146, bu147, bu148, bu149, bu150, bu151, bu152, bu153, bu154, bu155, bu156, bu157, A158⟩ := xq_115 K140.1
      have e159 : u124 = u146 := xk_eqi (q := 1) K139 rfl A136 A158 rfl rfl
      subst e159
      show xw J ov 100 195 (1410, [(4, .int x4), (3, .ref 167), (2, .ref 115), (1, .ref 0), (0, .ref 1000000)], [.int r137], hh138) _
      refine xi_pop (pc' := 1411) kc_195_1410 rfl rfl ?_
      refine xi_goto (pc' := 1501) kc_195_1411 rfl ?_
      obtain ⟨v160, ev160⟩ : ∃ q : Int32, x4 + 6 = q := ⟨_, rfl⟩
      have zv160 : v160.toInt = (x4.toInt + 6) := by rw [← ev160]; exact (xz_add (X := x4.toInt) (Y := 6) rfl (by decide) (by omega) (by omega)).trans (by omega)
      refine xi_iinc (pc' := 1504) (x := x4) (v := v160) (lv' := [(4, .int v160), (3, .ref 167), (2, .ref 115), (1, .ref 0), (0, .ref 1000000)]) kc_195_1501 rfl rfl ev160 rfl (xm_lt ml_195 rfl) ?_
      refine xi_goto (pc' := 23) kc_195_1504 rfl ?_
      exact kk v160 hh138 (by omega) K140
    · refine xi_iff (pc' := 1363) kc_195_1360 rfl (xc_eq_f (X := a110.toInt) (Y := 0) rfl (by decide) (by omega)) ?_
      refine xi_iconst (pc' := 1364) (v := 1) kc_195_1363 rfl rfl ?_
      refine xi_goto (pc' := 1368) kc_195_1364 rfl ?_
      obtain ⟨u161, u162, bu161, bu162, A163⟩ := xq_0 K.1
      refine xi_virtual (mj := 180) (as := [.int 1, .int a108, .int 1]) (st1 := []) (lv0 := [(0, .ref 0), (1, .int 1), (2, .int a108), (3, .int 1)]) kc_195_1368 rfl rfl rfl rfl rfl A163 (Nat.le_of_ble_eq_true rfl) (hJ _ _ _ _ (by decide)) (xm_le ml_180 rfl) rfl ?_
      have zc1 : (1 : Int32).toInt = 1 := by decide
      refine mt_180_0 hJ hov1 hov2 (d := 97) (x1 := 1) (x2 := a108) (x3 := 1) K.1 (by first | omega | decide) (by first | omega | decide) (fun r164 hh165 br164 K166 => ?_)
      have K167 := xk_tr K K166 rfl
      obtain ⟨u168, u169, bu168, bu169, A170⟩ := xq_0 K167.1
      have e171 : u162 = u169 := xk_eqi (q := 9) K166 rfl A163 A170 rfl rfl
      subst e171
      show xw J ov 100 195 (1371, [(4, .int x4), (3, .ref 167), (2, .ref 115), (1, .ref 0), (0, .ref 1000000)], [.int r164], hh165) _
      refine xi_pop (pc' := 1372) kc_195_1371 rfl rfl ?_
      refine xi_aload_n (pc' := 1373) (x := 115) kc_195_1372 rfl rfl ?_
      refine xi_aload_n (pc' := 1374) (x := 1000000) kc_195_1373 rfl rfl ?_
      refine xi_iload (pc' := 1376) (x := x4) kc_195_1374 rfl rfl ?_
      refine xi_iconst (pc' := 1377) (v := 1) kc_195_1376 rfl rfl ?_
      refine xi_iadd (pc' := 1378) (v := v1) kc_195_1377 rfl ev1 ?_
      refine xi_ialoadO (pc' := 1379) (v := a2) kc_195_1378 rfl (by decide) hov0 (xi_in (by omega) (by omega)) ea2 ?_
      refine xi_iff (pc' := 1382) kc_195_1379 rfl (xc_eq_f (X := a2.toInt) (Y := 0) rfl (by decide) (by omega)) ?_
      refine xi_iconst (pc' := 1383) (v := 1) kc_195_1382 rfl rfl ?_
      refine xi_goto (pc' := 1387) kc_195_1383 rfl ?_
      refine xi_aload_n (pc' := 1388) (x := 1000000) kc_195_1387 rfl rfl ?_
      refine xi_iload (pc' := 1390) (x := x4) kc_195_1388 rfl rfl ?_
      refine xi_iconst (pc' := 1391) (v := 2) kc_195_1390 rfl rfl ?_
      refine xi_iadd (pc' := 1392) (v := v107) kc_195_1391 rfl ev107 ?_
      refine xi_ialoadO (pc' := 1393) (v := a108) kc_195_1392 rfl (by decide) hov0 (xi_in (by omega) (by omega)) ea108 ?_
      refine xi_aload_n (pc' := 1394) (x := 1000000) kc_195_1393 rfl rfl ?_
      refine xi_iload (pc' := 1396) (x := x4) kc_195_1394 rfl rfl ?_
      refine xi_iconst (pc' := 1397) (v := 3) kc_195_1396 rfl rfl ?_
      refine xi_iadd (pc' := 1398) (v := v109) kc_195_1397 rfl ev109 ?_
      refine xi_ialoadO (pc' := 1399) (v := a110) kc_195_1398 rfl (by decide) hov0 (xi_in (by omega) (by omega)) ea110 ?_
      refine xi_iff (pc' := 1402) kc_195_1399 rfl (xc_eq_f (X := a110.toInt) (Y := 0) rfl (by decide) (by omega)) ?_
      refine xi_iconst (pc' := 1403) (v := 1) kc_195_1402 rfl rfl ?_
      refine xi_goto (pc' := 1407) kc_195_1403 rfl ?_
      obtain ⟨u172, u173, u174, u175, u176, u177, u178, u179, u180, u181, u182, u183, u184, bu172, bu173, bu174, bu175, bu176, bu177, bu178, bu179, bu180, bu181, bu182, bu183, bu184, A185⟩ := xq_115 K167.1
      refine xi_virtual (mj := 72) (as := [.int 1, .int a108, .int 1]) (st1 := []) (lv0 := [(0, .ref 115), (1, .int 1), (2, .int a108), (3, .int 1)]) kc_195_1407 rfl rfl rfl rfl rfl A185 (Nat.le_of_ble_eq_true rfl) (hJ _ _ _ _ (by decide)) (xm_le ml_72 rfl) rfl ?_
      have zc1 : (1 : Int32).toInt = 1 := by decide
      refine mt_72_0 hJ hov1 hov2 (d := 98) (x1 := 1) (x2 := a108) (x3 := 1) K167.1 (by first | omega | decide) (by first | omega | decide) (fun r186 hh187 br186 K188 => ?_)
      have K189 := xk_tr K167 K188 rfl
      obtain ⟨u190, u191, bu190, bu191, A192⟩ := xq_0 K189.1
      have e193 : u162 = u191 := xk_eqi (q := 9) K188 rfl A170 A192 rfl rfl
      subst e193
      obtain ⟨u194, u195, u196, u197, u198, u199, u200, u201, u202, u203, u204, u205, u206, bu194, bu195, bu196, bu197, bu198, bu199, bu200, bu201, bu202, bu203, bu204, bu205, bu206, A207⟩ := xq_115 K189.1
      have e208 : u173 = u195 := xk_eqi (q := 1) K188 rfl A185 A207 rfl rfl
      subst e208
      show xw J ov 100 195 (1410, [(4, .int x4), (3, .ref 167), (2, .ref 115), (1, .ref 0), (0, .ref 1000000)], [.int r186], hh187) _
      refine xi_pop (pc' := 1411) kc_195_1410 rfl rfl ?_
      refine xi_goto (pc' := 1501) kc_195_1411 rfl ?_
      obtain ⟨v209, ev209⟩ : ∃ q : Int32, x4 + 6 = q := ⟨_, rfl⟩
      have zv209 : v209.toInt = (x4.toInt + 6) := by rw [← ev209]; exact (xz_add (X := x4.toInt) (Y := 6) rfl (by decide) (by omega) (by omega)).trans (by omega)
      refine xi_iinc (pc' := 1504) (x := x4) (v := v209) (lv' := [(4, .int v209), (3, .ref 167), (2, .ref 115), (1, .ref 0), (0, .ref 1000000)]) kc_195_1501 rfl rfl ev209 rfl (xm_lt ml_195 rfl) ?_
      refine xi_goto (pc' := 23) kc_195_1504 rfl ?_
      exact kk v209 hh187 (by omega) K189
set_option maxHeartbeats 8000000 in
theorem lc_31 {J : xe_J} {ov : List (List Int32)} (hJ : ∀ d mj as h, mj ≠ xe_loff → J d mj as h = none) (hov1 : ov[1]? = some [10, 0, 0, 0, 0, 0]) (hov2 : ov[2]? = some [99, 30, 50, 50, 1, 99999]) {xs : List Int32} (hov0 : ov[0]? = some xs) {Q : Option Value → xe_H → Prop} {h : xe_H} {x4 : Int32} (hi0 : 0 ≤ x4.toInt) (hi1 : x4.toInt + 6 ≤ xs.length) (hi2 : x4.toInt ≤ 3066) (T : xt h) (kk : ∀ (i : Int32) (h' : xe_H), i.toInt = x4.toInt + 6 → xk [(29, 0), (31, 0), (33, 0), (35, 0), (37, 0), (39, 0), (41, 0), (43, 0), (45, 0), (47, 0), (49, 0), (51, 0), (125, 0)] h h' → xw J ov 100 195 (23, [(4, .int i), (3, .ref 167), (2, .ref 115), (1, .ref 0), (0, .ref 1000000)], [], h') Q) : xw J ov 100 195 (1414, [(4, .int x4), (3, .ref 167), (2, .ref 115), (1, .ref 0), (0, .ref 1000000)], [], h) Q := by
  have K : xk [(29, 0), (31, 0), (33, 0), (35, 0), (37, 0), (39, 0), (41, 0), (43, 0), (45, 0), (47, 0), (49, 0), (51, 0), (125, 0)] h h := xk_re T
  refine xi_aload_n (pc' := 1415) (x := 0) kc_195_1414 rfl rfl ?_
  refine xi_aload_n (pc' := 1416) (x := 1000000) kc_195_1415 rfl rfl ?_
  refine xi_iload (pc' := 1418) (x := x4) kc_195_1416 rfl rfl ?_
  refine xi_iconst (pc' := 1419) (v := 1) kc_195_1418 rfl rfl ?_
  obtain ⟨v1, ev1⟩ : ∃ q : Int32, x4 + 1 = q := ⟨_, rfl⟩
  have zv1 : v1.toInt = (x4.toInt + 1) := by rw [← ev1]; exact (xz_add (X := x4.toInt) (Y := 1) rfl (by decide) (by omega) (by omega)).trans (by omega)
  refine xi_iadd (pc' := 1420) (v := v1) kc_195_1419 rfl ev1 ?_
  obtain ⟨a2, ea2⟩ : ∃ q : Int32, xs.getD (Int32.toNatClampNeg v1) 0 = q := ⟨_, rfl⟩
  have ra2 := xc_rng a2
  refine xi_ialoadO (pc' := 1421) (v := a2) kc_195_1420 rfl (by decide) hov0 (xi_in (by omega) (by omega)) ea2 ?_
  refine xi_aload_n (pc' := 1422) (x := 1000000) kc_195_1421 rfl rfl ?_
  refine xi_iload (pc' := 1424) (x := x4) kc_195_1422 rfl rfl ?_
  refine xi_iconst (pc' := 1425) (v := 2) kc_195_1424 rfl rfl ?_
  obtain ⟨v3, ev3⟩ : ∃ q : Int32, x4 + 2 = q := ⟨_, rfl⟩
  have zv3 : v3.toInt = (x4.toInt + 2) := by rw [← ev3]; exact (xz_add (X := x4.toInt) (Y := 2) rfl (by decide) (by omega) (by omega)).trans (by omega)
  refine xi_iadd (pc' := 1426) (v := v3) kc_195_1425 rfl ev3 ?_
  obtain ⟨a4, ea4⟩ : ∃ q : Int32, xs.getD (Int32.toNatClampNeg v3) 0 = q := ⟨_, rfl⟩
  have ra4 := xc_rng a4
  refine xi_ialoadO (pc' := 1427) (v := a4) kc_195_1426 rfl (by decide) hov0 (xi_in (by omega) (by omega)) ea4 ?_
  obtain ⟨u5, u6, bu5, bu6, A7⟩ := xq_0 K.1
  refine xi_virtual (mj := 182) (as := [.int a2, .int a4]) (st1 := []) (lv0 := [(0, .ref 0), (1, .int a2), (2, .int a4)]) kc_195_1427 rfl rfl rfl rfl rfl A7 (Nat.le_of_ble_eq_true rfl) (hJ _ _ _ _ (by decide)) (xm_le ml_182 rfl) rfl ?_
  refine mt_182_0 hJ hov1 hov2 (d := 92) (x1 := a2) (x2 := a4) K.1 (fun r8 hh9 K10 => ?_)
  have br8 := xc_rng r8
  have K11 := xk_tr K K10 rfl
  obtain ⟨u12, u13, bu12, bu13, A14⟩ := xq_0 K11.1
  have e15 : u6 = u13 := xk_eqi (q := 9) K10 rfl A7 A14 rfl rfl
  subst e15
  show xw J ov 100 195 (1430, [(4, .int x4), (3, .ref 167), (2, .ref 115), (1, .ref 0), (0, .ref 1000000)], [.int r8], hh9) _
  refine xi_pop (pc' := 1431) kc_195_1430 rfl rfl ?_
  refine xi_aload_n (pc' := 1432) (x := 115) kc_195_1431 rfl rfl ?_
  refine xi_aload_n (pc' := 1433) (x := 1000000) kc_195_1432 rfl rfl ?_
  refine xi_iload (pc' := 1435) (x := x4) kc_195_1433 rfl rfl ?_
  refine xi_iconst (pc' := 1436) (v := 1) kc_195_1435 rfl rfl ?_
  refine xi_iadd (pc' := 1437) (v := v1) kc_195_1436 rfl ev1 ?_
  refine xi_ialoadO (pc' := 1438) (v := a2) kc_195_1437 rfl (by decide) hov0 (xi_in (by omega) (by omega)) ea2 ?_
  refine xi_aload_n (pc' := 1439) (x := 1000000) kc_195_1438 rfl rfl ?_
  refine xi_iload (pc' := 1441) (x := x4) kc_195_1439 rfl rfl ?_
  refine xi_iconst (pc' := 1442) (v := 2) kc_195_1441 rfl rfl ?_
  refine xi_iadd (pc' := 1443) (v := v3) kc_195_1442 rfl ev3 ?_
  refine xi_ialoadO (pc' := 1444) (v := a4) kc_195_1443 rfl (by decide) hov0 (xi_in (by omega) (by omega)) ea4 ?_
  obtain ⟨u16, u17, u18, u19, u20, u21, u22, u23, u24, u25, u26, u27, u28, bu16, bu17, bu18, bu19, bu20, bu21, bu22, bu23, bu24, bu25, bu26, bu27, bu28, A29⟩ := xq_115 K11.1
  refine xi_virtual (mj := 73) (as := [.int a2, .int a4]) (st1 := []) (lv0 := [(0, .ref 115), (1, .int a2), (2, .int a4)]) kc_195_1444 rfl rfl rfl rfl rfl A29 (Nat.le_of_ble_eq_true rfl) (hJ _ _ _ _ (by decide)) (xm_le ml_73 rfl) rfl ?_
  refine mt_73_0 hJ hov1 hov2 (d := 91) (x1 := a2) (x2 := a4) K11.1 (fun r30 hh31 K32 => ?_)
  have br30 := xc_rng r30
  have K33 := xk_tr K11 K32 rfl
  obtain ⟨u34, u35, bu34, bu35, A36⟩ := xq_0 K33.1
  have e37 : u6 = u35 := xk_eqi (q := 9) K32 rfl A14 A36 rfl rfl
  subst e37
  obtain ⟨u38, u39, u40, u41, u42, u43, u44, u45, u46, u47, u48, u49, u50, bu38, bu39, bu40, bu41, bu42, bu43, bu44, bu45, bu46, bu47, bu48, bu49, bu50, A51⟩ := xq_115 K33.1
  have e52 : u17 = u39 := xk_eqi (q := 1) K32 rfl A29 A51 rfl rfl
  subst e52
  show xw J ov 100 195 (1447, [(4, .int x4), (3, .ref 167), (2, .ref 115), (1, .ref 0), (0, .ref 1000000)], [.int r30], hh31) _
  refine xi_pop (pc' := 1448) kc_195_1447 rfl rfl ?_
  refine xi_goto (pc' := 1501) kc_195_1448 rfl ?_
  obtain ⟨v53, ev53⟩ : ∃ q : Int32, x4 + 6 = q := ⟨_, rfl⟩
  have zv53 : v53.toInt = (x4.toInt + 6) := by rw [← ev53]; exact (xz_add (X := x4.toInt) (Y := 6) rfl (by decide) (by omega) (by omega)).trans (by omega)
  refine xi_iinc (pc' := 1504) (x := x4) (v := v53) (lv' := [(4, .int v53), (3, .ref 167), (2, .ref 115), (1, .ref 0), (0, .ref 1000000)]) kc_195_1501 rfl rfl ev53 rfl (xm_lt ml_195 rfl) ?_
  refine xi_goto (pc' := 23) kc_195_1504 rfl ?_
  exact kk v53 hh31 (by omega) K33
set_option maxHeartbeats 8000000 in
theorem lc_32 {J : xe_J} {ov : List (List Int32)} (hJ : ∀ d mj as h, mj ≠ xe_loff → J d mj as h = none) (hov1 : ov[1]? = some [10, 0, 0, 0, 0, 0]) (hov2 : ov[2]? = some [99, 30, 50, 50, 1, 99999]) {xs : List Int32} (hov0 : ov[0]? = some xs) {Q : Option Value → xe_H → Prop} {h : xe_H} {x4 : Int32} (hi0 : 0 ≤ x4.toInt) (hi1 : x4.toInt + 6 ≤ xs.length) (hi2 : x4.toInt ≤ 3066) (T : xt h) (kk : ∀ (i : Int32) (h' : xe_H), i.toInt = x4.toInt + 6 → xk [(29, 0), (31, 0), (33, 0), (35, 0), (37, 0), (39, 0), (41, 0), (43, 0), (45, 0), (47, 0), (49, 0), (51, 0), (125, 0)] h h' → xw J ov 100 195 (23, [(4, .int i), (3, .ref 167), (2, .ref 115), (1, .ref 0), (0, .ref 1000000)], [], h') Q) : xw J ov 100 195 (1451, [(4, .int x4), (3, .ref 167), (2, .ref 115), (1, .ref 0), (0, .ref 1000000)], [], h) Q := by
  have K : xk [(29, 0), (31, 0), (33, 0), (35, 0), (37, 0), (39, 0), (41, 0), (43, 0), (45, 0), (47, 0), (49, 0), (51, 0), (125, 0)] h h := xk_re T
  refine xi_aload_n (pc' := 1452) (x := 0) kc_195_1451 rfl rfl ?_
  refine xi_aload_n (pc' := 1453) (x := 1000000) kc_195_1452 rfl rfl ?_
  refine xi_iload (pc' := 1455) (x := x4) kc_195_1453 rfl rfl ?_
  refine xi_iconst (pc' := 1456) (v := 1) kc_195_1455 rfl rfl ?_
  obtain ⟨v1, ev1⟩ : ∃ q : Int32, x4 + 1 = q := ⟨_, rfl⟩
  have zv1 : v1.toInt = (x4.toInt + 1) := by rw [← ev1]; exact (xz_add (X := x4.toInt) (Y := 1) rfl (by decide) (by omega) (by omega)).trans (by omega)
  refine xi_iadd (pc' := 1457) (v := v1) kc_195_1456 rfl ev1 ?_
  obtain ⟨a2, ea2⟩ : ∃ q : Int32, xs.getD (Int32.toNatClampNeg v1) 0 = q := ⟨_, rfl⟩
  have ra2 := xc_rng a2
  refine xi_ialoadO (pc' := 1458) (v := a2) kc_195_1457 rfl (by decide) hov0 (xi_in (by omega) (by omega)) ea2 ?_
  obtain ⟨u3, u4, bu3, bu4, A5⟩ := xq_0 K.1
  refine xi_virtual (mj := 188) (as := [.int a2]) (st1 := []) (lv0 := [(0, .ref 0), (1, .int a2)]) kc_195_1458 rfl rfl rfl rfl rfl A5 (Nat.le_of_ble_eq_true rfl) (hJ _ _ _ _ (by decide)) (xm_le ml_188 rfl) rfl ?_
  refine mt_188_0 hJ hov1 hov2 (d := 97) (x1 := a2) K.1 (fun r6 hh7 br6 K8 => ?_)
  have K9 := xk_tr K K8 rfl
  obtain ⟨u10, u11, bu10, bu11, A12⟩ := xq_0 K9.1
  have e13 : u4 = u11 := xk_eqi (q := 9) K8 rfl A5 A12 rfl rfl
  subst e13
  show xw J ov 100 195 (1461, [(4, .int x4), (3, .ref 167), (2, .ref 115), (1, .ref 0), (0, .ref 1000000)], [.int r6], hh7) _
  refine xi_pop (pc' := 1462) kc_195_1461 rfl rfl ?_
  refine xi_aload_n (pc' := 1463) (x := 115) kc_195_1462 rfl rfl ?_
  refine xi_aload_n (pc' := 1464) (x := 1000000) kc_195_1463 rfl rfl ?_
  refine xi_iload (pc' := 1466) (x := x4) kc_195_1464 rfl rfl ?_
  refine xi_iconst (pc' := 1467) (v := 1) kc_195_1466 rfl rfl ?_
  refine xi_iadd (pc' := 1468) (v := v1) kc_195_1467 rfl ev1 ?_
  refine xi_ialoadO (pc' := 1469) (v := a2) kc_195_1468 rfl (by decide) hov0 (xi_in (by omega) (by omega)) ea2 ?_
  obtain ⟨u14, u15, u16, u17, u18, u19, u20, u21, u22, u23, u24, u25, u26, bu14, bu15, bu16, bu17, bu18, bu19, bu20, bu21, bu22, bu23, bu24, bu25, bu26, A27⟩ := xq_115 K9.1
  refine xi_virtual (mj := 74) (as := [.int a2]) (st1 := []) (lv0 := [(0, .ref 115), (1, .int a2)]) kc_195_1469 rfl rfl rfl rfl rfl A27 (Nat.le_of_ble_eq_true rfl) (hJ _ _ _ _ (by decide)) (xm_le ml_74 rfl) rfl ?_
  refine mt_74_0 hJ hov1 hov2 (d := 98) (x1 := a2) K9.1 (fun r28 hh29 br28 K30 => ?_)
  have K31 := xk_tr K9 K30 rfl
  obtain ⟨u32, u33, bu32, bu33, A34⟩ := xq_0 K31.1
  have e35 : u4 = u33 := xk_eqi (q := 9) K30 rfl A12 A34 rfl rfl
  subst e35
  obtain ⟨u36, u37, u38, u39, u40, u41, u42, u43, u44, u45, u46, u47, u48, bu36, bu37, bu38, bu39, bu40, bu41, bu42, bu43, bu44, bu45, bu46, bu47, bu48, A49⟩ := xq_115 K31.1
  have e50 : u15 = u37 := xk_eqi (q := 1) K30 rfl A27 A49 rfl rfl
  subst e50
  show xw J ov 100 195 (1472, [(4, .int x4), (3, .ref 167), (2, .ref 115), (1, .ref 0), (0, .ref 1000000)], [.int r28], hh29) _
  refine xi_pop (pc' := 1473) kc_195_1472 rfl rfl ?_
  refine xi_goto (pc' := 1501) kc_195_1473 rfl ?_
  obtain ⟨v51, ev51⟩ : ∃ q : Int32, x4 + 6 = q := ⟨_, rfl⟩
  have zv51 : v51.toInt = (x4.toInt + 6) := by rw [← ev51]; exact (xz_add (X := x4.toInt) (Y := 6) rfl (by decide) (by omega) (by omega)).trans (by omega)
  refine xi_iinc (pc' := 1504) (x := x4) (v := v51) (lv' := [(4, .int v51), (3, .ref 167), (2, .ref 115), (1, .ref 0), (0, .ref 1000000)]) kc_195_1501 rfl rfl ev51 rfl (xm_lt ml_195 rfl) ?_
  refine xi_goto (pc' := 23) kc_195_1504 rfl ?_
  exact kk v51 hh29 (by omega) K31
set_option maxHeartbeats 8000000 in
theorem lc_33 {J : xe_J} {ov : List (List Int32)} (hJ : ∀ d mj as h, mj ≠ xe_loff → J d mj as h = none) (hov1 : ov[1]? = some [10, 0, 0, 0, 0, 0]) (hov2 : ov[2]? = some [99, 30, 50, 50, 1, 99999]) {xs : List Int32} (hov0 : ov[0]? = some xs) {Q : Option Value → xe_H → Prop} {h : xe_H} {x4 : Int32} (hi0 : 0 ≤ x4.toInt) (hi1 : x4.toInt + 6 ≤ xs.length) (hi2 : x4.toInt ≤ 3066) (T : xt h) (kk : ∀ (i : Int32) (h' : xe_H), i.toInt = x4.toInt + 6 → xk [(29, 0), (31, 0), (33, 0), (35, 0), (37, 0), (39, 0), (41, 0), (43, 0), (45, 0), (47, 0), (49, 0), (51, 0), (125, 0)] h h' → xw J ov 100 195 (23, [(4, .int i), (3, .ref 167), (2, .ref 115), (1, .ref 0), (0, .ref 1000000)], [], h') Q) : xw J ov 100 195 (1476, [(4, .int x4), (3, .ref 167), (2, .ref 115), (1, .ref 0), (0, .ref 1000000)], [], h) Q := by
  have K : xk [(29, 0), (31, 0), (33, 0), (35, 0), (37, 0), (39, 0), (41, 0), (43, 0), (45, 0), (47, 0), (49, 0), (51, 0), (125, 0)] h h := xk_re T
  refine xi_aload_n (pc' := 1477) (x := 0) kc_195_1476 rfl rfl ?_
  refine xi_aload_n (pc' := 1478) (x := 1000000) kc_195_1477 rfl rfl ?_
  refine xi_iload (pc' := 1480) (x := x4) kc_195_1478 rfl rfl ?_
  refine xi_iconst (pc' := 1481) (v := 1) kc_195_1480 rfl rfl ?_
  obtain ⟨v1, ev1⟩ : ∃ q : Int32, x4 + 1 = q := ⟨_, rfl⟩
  have zv1 : v1.toInt = (x4.toInt + 1) := by rw [← ev1]; exact (xz_add (X := x4.toInt) (Y := 1) rfl (by decide) (by omega) (by omega)).trans (by omega)
  refine xi_iadd (pc' := 1482) (v := v1) kc_195_1481 rfl ev1 ?_
  obtain ⟨a2, ea2⟩ : ∃ q : Int32, xs.getD (Int32.toNatClampNeg v1) 0 = q := ⟨_, rfl⟩
  have ra2 := xc_rng a2
  refine xi_ialoadO (pc' := 1483) (v := a2) kc_195_1482 rfl (by decide) hov0 (xi_in (by omega) (by omega)) ea2 ?_
  obtain ⟨u3, u4, bu3, bu4, A5⟩ := xq_0 K.1
  refine xi_virtual (mj := 190) (as := [.int a2]) (st1 := []) (lv0 := [(0, .ref 0), (1, .int a2)]) kc_195_1483 rfl rfl rfl rfl rfl A5 (Nat.le_of_ble_eq_true rfl) (hJ _ _ _ _ (by decide)) (xm_le ml_190 rfl) rfl ?_
  refine mt_190_0 hJ hov1 hov2 (d := 96) (x1 := a2) K.1 (fun r6 hh7 K8 => ?_)
  have br6 := xc_rng r6
  have K9 := xk_tr K K8 rfl
  obtain ⟨u10, u11, bu10, bu11, A12⟩ := xq_0 K9.1
  have e13 : u4 = u11 := xk_eqi (q := 9) K8 rfl A5 A12 rfl rfl
  subst e13
  show xw J ov 100 195 (1486, [(4, .int x4), (3, .ref 167), (2, .ref 115), (1, .ref 0), (0, .ref 1000000)], [.int r6], hh7) _
  refine xi_pop (pc' := 1487) kc_195_1486 rfl rfl ?_
  refine xi_aload_n (pc' := 1488) (x := 115) kc_195_1487 rfl rfl ?_
  refine xi_aload_n (pc' := 1489) (x := 1000000) kc_195_1488 rfl rfl ?_
  refine xi_iload (pc' := 1491) (x := x4) kc_195_1489 rfl rfl ?_
  refine xi_iconst (pc' := 1492) (v := 1) kc_195_1491 rfl rfl ?_
  refine xi_iadd (pc' := 1493) (v := v1) kc_195_1492 rfl ev1 ?_
  refine xi_ialoadO (pc' := 1494) (v := a2) kc_195_1493 rfl (by decide) hov0 (xi_in (by omega) (by omega)) ea2 ?_
  obtain ⟨u14, u15, u16, u17, u18, u19, u20, u21, u22, u23, u24, u25, u26, bu14, bu15, bu16, bu17, bu18, bu19, bu20, bu21, bu22, bu23, bu24, bu25, bu26, A27⟩ := xq_115 K9.1
  refine xi_virtual (mj := 75) (as := [.int a2]) (st1 := []) (lv0 := [(0, .ref 115), (1, .int a2)]) kc_195_1494 rfl rfl rfl rfl rfl A27 (Nat.le_of_ble_eq_true rfl) (hJ _ _ _ _ (by decide)) (xm_le ml_75 rfl) rfl ?_
  refine mt_75_0 hJ hov1 hov2 (d := 97) (x1 := a2) K9.1 (fun r28 hh29 K30 => ?_)
  have br28 := xc_rng r28
  have K31 := xk_tr K9 K30 rfl
  obtain ⟨u32, u33, bu32, bu33, A34⟩ := xq_0 K31.1
  have e35 : u4 = u33 := xk_eqi (q := 9) K30 rfl A12 A34 rfl rfl
  subst e35
  obtain ⟨u36, u37, u38, u39, u40, u41, u42, u43, u44, u45, u46, u47, u48, bu36, bu37, bu38, bu39, bu40, bu41, bu42, bu43, bu44, bu45, bu46, bu47, bu48, A49⟩ := xq_115 K31.1
  have e50 : u15 = u37 := xk_eqi (q := 1) K30 rfl A27 A49 rfl rfl
  subst e50
  show xw J ov 100 195 (1497, [(4, .int x4), (3, .ref 167), (2, .ref 115), (1, .ref 0), (0, .ref 1000000)], [.int r28], hh29) _
  refine xi_pop (pc' := 1498) kc_195_1497 rfl rfl ?_
  refine xi_goto (pc' := 1501) kc_195_1498 rfl ?_
  obtain ⟨v51, ev51⟩ : ∃ q : Int32, x4 + 6 = q := ⟨_, rfl⟩
  have zv51 : v51.toInt = (x4.toInt + 6) := by rw [← ev51]; exact (xz_add (X := x4.toInt) (Y := 6) rfl (by decide) (by omega) (by omega)).trans (by omega)
  refine xi_iinc (pc' := 1504) (x := x4) (v := v51) (lv' := [(4, .int v51), (3, .ref 167), (2, .ref 115), (1, .ref 0), (0, .ref 1000000)]) kc_195_1501 rfl rfl ev51 rfl (xm_lt ml_195 rfl) ?_
  refine xi_goto (pc' := 23) kc_195_1504 rfl ?_
  exact kk v51 hh29 (by omega) K31
