def xI (h : xe_H) : Prop := xGR h xG_wall 0 125 ∧ xl h (0, 9) = xl h (115, 1) ∧ xl h (66, 8) = xl h (115, 18) ∧ xl h (71, 0) = xl h (132, 0)
theorem xI_kept {h h' : xe_H} (I : xI h) (F : ∀ l : Nat × Nat, List.elem l [(29, 0), (31, 0), (33, 0), (35, 0), (37, 0), (39, 0), (41, 0), (43, 0), (45, 0), (47, 0), (49, 0), (51, 0), (125, 0), (0, 9), (115, 1), (66, 8), (115, 18), (71, 0), (132, 0)] = true → xl h' l = xl h l) : xI h' := ⟨xGR_fr I.1 F rfl rfl, (F (0, 9) rfl).trans (I.2.1.trans (F (115, 1) rfl).symm), (F (66, 8) rfl).trans (I.2.2.1.trans (F (115, 18) rfl).symm), (F (71, 0) rfl).trans (I.2.2.2.trans (F (132, 0) rfl).symm)⟩
set_option maxHeartbeats 8000000 in
theorem lc_d {J : xe_J} {ov : List (List Int32)} (hJ : ∀ d mj as h, mj ≠ xe_loff → J d mj as h = none) (hov1 : ov[1]? = some [10, 0, 0, 0, 0, 0]) (hov2 : ov[2]? = some [99, 30, 50, 50, 1, 99999]) {xs : List Int32} (hov0 : ov[0]? = some xs) {Q : Option Value → xe_H → Prop} {h : xe_H} {x4 : Int32} (hi0 : 0 ≤ x4.toInt) (hi1 : x4.toInt + 6 ≤ xs.length) (hi2 : x4.toInt ≤ 3066) (T : xt h) (kk : ∀ (i : Int32) (h' : xe_H), i.toInt = x4.toInt + 6 → xk [(29, 0), (31, 0), (33, 0), (35, 0), (37, 0), (39, 0), (41, 0), (43, 0), (45, 0), (47, 0), (49, 0), (51, 0), (125, 0), (0, 9), (115, 1), (66, 8), (115, 18), (71, 0), (132, 0)] h h' → xw J ov 100 195 (23, [(4, .int i), (3, .ref 167), (2, .ref 115), (1, .ref 0), (0, .ref 1000000)], [], h') Q) : xw J ov 100 195 (1501, [(4, .int x4), (3, .ref 167), (2, .ref 115), (1, .ref 0), (0, .ref 1000000)], [], h) Q := by
  have K : xk [(29, 0), (31, 0), (33, 0), (35, 0), (37, 0), (39, 0), (41, 0), (43, 0), (45, 0), (47, 0), (49, 0), (51, 0), (125, 0), (0, 9), (115, 1), (66, 8), (115, 18), (71, 0), (132, 0)] h h := xk_re T
  obtain ⟨v1, ev1⟩ : ∃ q : Int32, x4 + 6 = q := ⟨_, rfl⟩
  have zv1 : v1.toInt = (x4.toInt + 6) := by rw [← ev1]; exact (xz_add (X := x4.toInt) (Y := 6) rfl (by decide) (by omega) (by omega)).trans (by omega)
  refine xi_iinc (pc' := 1504) (x := x4) (v := v1) (lv' := [(4, .int v1), (3, .ref 167), (2, .ref 115), (1, .ref 0), (0, .ref 1000000)]) kc_195_1501 rfl rfl ev1 rfl (xm_lt ml_195 rfl) ?_
  refine xi_goto (pc' := 23) kc_195_1504 rfl ?_
  exact kk v1 h (by omega) K
set_option maxHeartbeats 8000000 in
theorem lc_0 {J : xe_J} {ov : List (List Int32)} (hJ : ∀ d mj as h, mj ≠ xe_loff → J d mj as h = none) (hov1 : ov[1]? = some [10, 0, 0, 0, 0, 0]) (hov2 : ov[2]? = some [99, 30, 50, 50, 1, 99999]) {xs : List Int32} (hov0 : ov[0]? = some xs) {Q : Option Value → xe_H → Prop} {h : xe_H} {x4 : Int32} (hi0 : 0 ≤ x4.toInt) (hi1 : x4.toInt + 6 ≤ xs.length) (hi2 : x4.toInt ≤ 3066) (T : xt h) (kk : ∀ (i : Int32) (h' : xe_H), i.toInt = x4.toInt + 6 → xk [(29, 0), (31, 0), (33, 0), (35, 0), (37, 0), (39, 0), (41, 0), (43, 0), (45, 0), (47, 0), (49, 0), (51, 0), (125, 0), (0, 9), (115, 1), (66, 8), (115, 18), (71, 0), (132, 0)] h h' → xw J ov 100 195 (23, [(4, .int i), (3, .ref 167), (2, .ref 115), (1, .ref 0), (0, .ref 1000000)], [], h') Q) : xw J ov 100 195 (192, [(4, .int x4), (3, .ref 167), (2, .ref 115), (1, .ref 0), (0, .ref 1000000)], [], h) Q := by
  have K : xk [(29, 0), (31, 0), (33, 0), (35, 0), (37, 0), (39, 0), (41, 0), (43, 0), (45, 0), (47, 0), (49, 0), (51, 0), (125, 0), (0, 9), (115, 1), (66, 8), (115, 18), (71, 0), (132, 0)] h h := xk_re T
  refine xi_aload_n (pc' := 193) (x := 0) kc_195_192 rfl rfl ?_
  refine xi_aload_n (pc' := 194) (x := 1000000) kc_195_193 rfl rfl ?_
  refine xi_iload (pc' := 196) (x := x4) kc_195_194 rfl rfl ?_
  refine xi_iconst (pc' := 197) (v := 1) kc_195_196 rfl rfl ?_
  obtain ⟨v1, ev1⟩ : ∃ q : Int32, x4 + 1 = q := ⟨_, rfl⟩
  have zv1 : v1.toInt = (x4.toInt + 1) := by rw [← ev1]; exact (xz_add (X := x4.toInt) (Y := 1) rfl (by decide) (by omega) (by omega)).trans (by omega)
  refine xi_iadd (pc' := 198) (v := v1) kc_195_197 rfl ev1 ?_
  obtain ⟨a2, ea2⟩ : ∃ q : Int32, xs.getD (Int32.toNatClampNeg v1) 0 = q := ⟨_, rfl⟩
  have ra2 := xc_rng a2
  refine xi_ialoadO (pc' := 199) (v := a2) kc_195_198 rfl (by decide) hov0 (xi_in (by omega) (by omega)) ea2 ?_
  refine xi_aload_n (pc' := 200) (x := 1000000) kc_195_199 rfl rfl ?_
  refine xi_iload (pc' := 202) (x := x4) kc_195_200 rfl rfl ?_
  refine xi_iconst (pc' := 203) (v := 2) kc_195_202 rfl rfl ?_
  obtain ⟨v3, ev3⟩ : ∃ q : Int32, x4 + 2 = q := ⟨_, rfl⟩
  have zv3 : v3.toInt = (x4.toInt + 2) := by rw [← ev3]; exact (xz_add (X := x4.toInt) (Y := 2) rfl (by decide) (by omega) (by omega)).trans (by omega)
  refine xi_iadd (pc' := 204) (v := v3) kc_195_203 rfl ev3 ?_
  obtain ⟨a4, ea4⟩ : ∃ q : Int32, xs.getD (Int32.toNatClampNeg v3) 0 = q := ⟨_, rfl⟩
  have ra4 := xc_rng a4
  refine xi_ialoadO (pc' := 205) (v := a4) kc_195_204 rfl (by decide) hov0 (xi_in (by omega) (by omega)) ea4 ?_
  refine xi_aload_n (pc' := 206) (x := 1000000) kc_195_205 rfl rfl ?_
  refine xi_iload (pc' := 208) (x := x4) kc_195_206 rfl rfl ?_
  refine xi_iconst (pc' := 209) (v := 3) kc_195_208 rfl rfl ?_
  obtain ⟨v5, ev5⟩ : ∃ q : Int32, x4 + 3 = q := ⟨_, rfl⟩
  have zv5 : v5.toInt = (x4.toInt + 3) := by rw [← ev5]; exact (xz_add (X := x4.toInt) (Y := 3) rfl (by decide) (by omega) (by omega)).trans (by omega)
  refine xi_iadd (pc' := 210) (v := v5) kc_195_209 rfl ev5 ?_
  obtain ⟨a6, ea6⟩ : ∃ q : Int32, xs.getD (Int32.toNatClampNeg v5) 0 = q := ⟨_, rfl⟩
  have ra6 := xc_rng a6
  refine xi_ialoadO (pc' := 211) (v := a6) kc_195_210 rfl (by decide) hov0 (xi_in (by omega) (by omega)) ea6 ?_
  obtain ⟨u7, u8, bu7, bu8, A9⟩ := xq_0 K.1
  refine xi_virtual (mj := 88) (as := [.int a2, .int a4, .int a6]) (st1 := []) (lv0 := [(0, .ref 0), (1, .int a2), (2, .int a4), (3, .int a6)]) kc_195_211 rfl rfl rfl rfl rfl A9 (Nat.le_of_ble_eq_true rfl) (hJ _ _ _ _ (by decide)) (xm_le ml_88 rfl) rfl ?_
  refine mt_88_0 hJ hov1 hov2 (d := 97) (x1 := a2) (x2 := a4) (x3 := a6) K.1 (fun r10 hh11 K12 => ?_)
  have br10 := xc_rng r10
  have K13 := xk_tr K K12 rfl
  obtain ⟨u14, u15, bu14, bu15, A16⟩ := xq_0 K13.1
  have e17 : u8 = u15 := xk_eqi (q := 9) K12 rfl A9 A16 rfl rfl
  subst e17
  show xw J ov 100 195 (214, [(4, .int x4), (3, .ref 167), (2, .ref 115), (1, .ref 0), (0, .ref 1000000)], [.int r10], hh11) _
  refine xi_pop (pc' := 215) kc_195_214 rfl rfl ?_
  refine xi_aload_n (pc' := 216) (x := 115) kc_195_215 rfl rfl ?_
  refine xi_aload_n (pc' := 217) (x := 1000000) kc_195_216 rfl rfl ?_
  refine xi_iload (pc' := 219) (x := x4) kc_195_217 rfl rfl ?_
  refine xi_iconst (pc' := 220) (v := 1) kc_195_219 rfl rfl ?_
  refine xi_iadd (pc' := 221) (v := v1) kc_195_220 rfl ev1 ?_
  refine xi_ialoadO (pc' := 222) (v := a2) kc_195_221 rfl (by decide) hov0 (xi_in (by omega) (by omega)) ea2 ?_
  refine xi_aload_n (pc' := 223) (x := 1000000) kc_195_222 rfl rfl ?_
  refine xi_iload (pc' := 225) (x := x4) kc_195_223 rfl rfl ?_
  refine xi_iconst (pc' := 226) (v := 2) kc_195_225 rfl rfl ?_
  refine xi_iadd (pc' := 227) (v := v3) kc_195_226 rfl ev3 ?_
  refine xi_ialoadO (pc' := 228) (v := a4) kc_195_227 rfl (by decide) hov0 (xi_in (by omega) (by omega)) ea4 ?_
  refine xi_aload_n (pc' := 229) (x := 1000000) kc_195_228 rfl rfl ?_
  refine xi_iload (pc' := 231) (x := x4) kc_195_229 rfl rfl ?_
  refine xi_iconst (pc' := 232) (v := 3) kc_195_231 rfl rfl ?_
  refine xi_iadd (pc' := 233) (v := v5) kc_195_232 rfl ev5 ?_
  refine xi_ialoadO (pc' := 234) (v := a6) kc_195_233 rfl (by decide) hov0 (xi_in (by omega) (by omega)) ea6 ?_
  obtain ⟨u18, u19, u20, u21, u22, u23, u24, u25, u26, u27, u28, u29, u30, bu18, bu19, bu20, bu21, bu22, bu23, bu24, bu25, bu26, bu27, bu28, bu29, bu30, A31⟩ := xq_115 K13.1
  refine xi_virtual (mj := 9) (as := [.int a2, .int a4, .int a6]) (st1 := []) (lv0 := [(0, .ref 115), (1, .int a2), (2, .int a4), (3, .int a6)]) kc_195_234 rfl rfl rfl rfl rfl A31 (Nat.le_of_ble_eq_true rfl) (hJ _ _ _ _ (by decide)) (xm_le ml_9 rfl) rfl ?_
  refine mt_9_0 hJ hov1 hov2 (d := 97) (x1 := a2) (x2 := a4) (x3 := a6) K13.1 (fun r32 hh33 K34 => ?_)
  have br32 := xc_rng r32
  have K35 := xk_tr K13 K34 rfl
  obtain ⟨u36, u37, bu36, bu37, A38⟩ := xq_0 K35.1
  have e39 : u8 = u37 := xk_eqi (q := 9) K34 rfl A16 A38 rfl rfl
  subst e39
  obtain ⟨u40, u41, u42, u43, u44, u45, u46, u47, u48, u49, u50, u51, u52, bu40, bu41, bu42, bu43, bu44, bu45, bu46, bu47, bu48, bu49, bu50, bu51, bu52, A53⟩ := xq_115 K35.1
  have e54 : u19 = u41 := xk_eqi (q := 1) K34 rfl A31 A53 rfl rfl
  subst e54
  have e55 : u21 = u43 := xk_eqi (q := 18) K34 rfl A31 A53 rfl rfl
  subst e55
  show xw J ov 100 195 (237, [(4, .int x4), (3, .ref 167), (2, .ref 115), (1, .ref 0), (0, .ref 1000000)], [.int r32], hh33) _
  refine xi_pop (pc' := 238) kc_195_237 rfl rfl ?_
  refine xi_goto (pc' := 1501) kc_195_238 rfl ?_
  obtain ⟨v56, ev56⟩ : ∃ q : Int32, x4 + 6 = q := ⟨_, rfl⟩
  have zv56 : v56.toInt = (x4.toInt + 6) := by rw [← ev56]; exact (xz_add (X := x4.toInt) (Y := 6) rfl (by decide) (by omega) (by omega)).trans (by omega)
  refine xi_iinc (pc' := 1504) (x := x4) (v := v56) (lv' := [(4, .int v56), (3, .ref 167), (2, .ref 115), (1, .ref 0), (0, .ref 1000000)]) kc_195_1501 rfl rfl ev56 rfl (xm_lt ml_195 rfl) ?_
  refine xi_goto (pc' := 23) kc_195_1504 rfl ?_
  exact kk v56 hh33 (by omega) K35
set_option maxHeartbeats 8000000 in
theorem lc_1 {J : xe_J} {ov : List (List Int32)} (hJ : ∀ d mj as h, mj ≠ xe_loff → J d mj as h = none) (hov1 : ov[1]? = some [10, 0, 0, 0, 0, 0]) (hov2 : ov[2]? = some [99, 30, 50, 50, 1, 99999]) {xs : List Int32} (hov0 : ov[0]? = some xs) {Q : Option Value → xe_H → Prop} {h : xe_H} {x4 : Int32} (hi0 : 0 ≤ x4.toInt) (hi1 : x4.toInt + 6 ≤ xs.length) (hi2 : x4.toInt ≤ 3066) (T : xt h) (kk : ∀ (i : Int32) (h' : xe_H), i.toInt = x4.toInt + 6 → xk [(29, 0), (31, 0), (33, 0), (35, 0), (37, 0), (39, 0), (41, 0), (43, 0), (45, 0), (47, 0), (49, 0), (51, 0), (125, 0), (0, 9), (115, 1), (66, 8), (115, 18), (71, 0), (132, 0)] h h' → xw J ov 100 195 (23, [(4, .int i), (3, .ref 167), (2, .ref 115), (1, .ref 0), (0, .ref 1000000)], [], h') Q) : xw J ov 100 195 (241, [(4, .int x4), (3, .ref 167), (2, .ref 115), (1, .ref 0), (0, .ref 1000000)], [], h) Q := by
  have K : xk [(29, 0), (31, 0), (33, 0), (35, 0), (37, 0), (39, 0), (41, 0), (43, 0), (45, 0), (47, 0), (49, 0), (51, 0), (125, 0), (0, 9), (115, 1), (66, 8), (115, 18), (71, 0), (132, 0)] h h := xk_re T
  refine xi_aload_n (pc' := 242) (x := 0) kc_195_241 rfl rfl ?_
  refine xi_aload_n (pc' := 243) (x := 1000000) kc_195_242 rfl rfl ?_
  refine xi_iload (pc' := 245) (x := x4) kc_195_243 rfl rfl ?_
  refine xi_iconst (pc' := 246) (v := 1) kc_195_245 rfl rfl ?_
  obtain ⟨v1, ev1⟩ : ∃ q : Int32, x4 + 1 = q := ⟨_, rfl⟩
  have zv1 : v1.toInt = (x4.toInt + 1) := by rw [← ev1]; exact (xz_add (X := x4.toInt) (Y := 1) rfl (by decide) (by omega) (by omega)).trans (by omega)
  refine xi_iadd (pc' := 247) (v := v1) kc_195_246 rfl ev1 ?_
  obtain ⟨a2, ea2⟩ : ∃ q : Int32, xs.getD (Int32.toNatClampNeg v1) 0 = q := ⟨_, rfl⟩
  have ra2 := xc_rng a2
  refine xi_ialoadO (pc' := 248) (v := a2) kc_195_247 rfl (by decide) hov0 (xi_in (by omega) (by omega)) ea2 ?_
  refine xi_aload_n (pc' := 249) (x := 1000000) kc_195_248 rfl rfl ?_
  refine xi_iload (pc' := 251) (x := x4) kc_195_249 rfl rfl ?_
  refine xi_iconst (pc' := 252) (v := 2) kc_195_251 rfl rfl ?_
  obtain ⟨v3, ev3⟩ : ∃ q : Int32, x4 + 2 = q := ⟨_, rfl⟩
  have zv3 : v3.toInt = (x4.toInt + 2) := by rw [← ev3]; exact (xz_add (X := x4.toInt) (Y := 2) rfl (by decide) (by omega) (by omega)).trans (by omega)
  refine xi_iadd (pc' := 253) (v := v3) kc_195_252 rfl ev3 ?_
  obtain ⟨a4, ea4⟩ : ∃ q : Int32, xs.getD (Int32.toNatClampNeg v3) 0 = q := ⟨_, rfl⟩
  have ra4 := xc_rng a4
  refine xi_ialoadO (pc' := 254) (v := a4) kc_195_253 rfl (by decide) hov0 (xi_in (by omega) (by omega)) ea4 ?_
  refine xi_aload_n (pc' := 255) (x := 1000000) kc_195_254 rfl rfl ?_
  refine xi_iload (pc' := 257) (x := x4) kc_195_255 rfl rfl ?_
  refine xi_iconst (pc' := 258) (v := 3) kc_195_257 rfl rfl ?_
  obtain ⟨v5, ev5⟩ : ∃ q : Int32, x4 + 3 = q := ⟨_, rfl⟩
  have zv5 : v5.toInt = (x4.toInt + 3) := by rw [← ev5]; exact (xz_add (X := x4.toInt) (Y := 3) rfl (by decide) (by omega) (by omega)).trans (by omega)
  refine xi_iadd (pc' := 259) (v := v5) kc_195_258 rfl ev5 ?_
  obtain ⟨a6, ea6⟩ : ∃ q : Int32, xs.getD (Int32.toNatClampNeg v5) 0 = q := ⟨_, rfl⟩
  have ra6 := xc_rng a6
  refine xi_ialoadO (pc' := 260) (v := a6) kc_195_259 rfl (by decide) hov0 (xi_in (by omega) (by omega)) ea6 ?_
  obtain ⟨u7, u8, bu7, bu8, A9⟩ := xq_0 K.1
  refine xi_virtual (mj := 94) (as := [.int a2, .int a4, .int a6]) (st1 := []) (lv0 := [(0, .ref 0), (1, .int a2), (2, .int a4), (3, .int a6)]) kc_195_260 rfl rfl rfl rfl rfl A9 (Nat.le_of_ble_eq_true rfl) (hJ _ _ _ _ (by decide)) (xm_le ml_94 rfl) rfl ?_
  refine mt_94_0 hJ hov1 hov2 (d := 98) (x1 := a2) (x2 := a4) (x3 := a6) K.1 (fun r10 hh11 K12 => ?_)
  have br10 := xc_rng r10
  have K13 := xk_tr K K12 rfl
  obtain ⟨u14, u15, bu14, bu15, A16⟩ := xq_0 K13.1
  have e17 : u8 = u15 := xk_eqi (q := 9) K12 rfl A9 A16 rfl rfl
  subst e17
  show xw J ov 100 195 (263, [(4, .int x4), (3, .ref 167), (2, .ref 115), (1, .ref 0), (0, .ref 1000000)], [.int r10], hh11) _
  refine xi_pop (pc' := 264) kc_195_263 rfl rfl ?_
  refine xi_aload_n (pc' := 265) (x := 115) kc_195_264 rfl rfl ?_
  refine xi_aload_n (pc' := 266) (x := 1000000) kc_195_265 rfl rfl ?_
  refine xi_iload (pc' := 268) (x := x4) kc_195_266 rfl rfl ?_
  refine xi_iconst (pc' := 269) (v := 1) kc_195_268 rfl rfl ?_
  refine xi_iadd (pc' := 270) (v := v1) kc_195_269 rfl ev1 ?_
  refine xi_ialoadO (pc' := 271) (v := a2) kc_195_270 rfl (by decide) hov0 (xi_in (by omega) (by omega)) ea2 ?_
  refine xi_aload_n (pc' := 272) (x := 1000000) kc_195_271 rfl rfl ?_
  refine xi_iload (pc' := 274) (x := x4) kc_195_272 rfl rfl ?_
  refine xi_iconst (pc' := 275) (v := 2) kc_195_274 rfl rfl ?_
  refine xi_iadd (pc' := 276) (v := v3) kc_195_275 rfl ev3 ?_
  refine xi_ialoadO (pc' := 277) (v := a4) kc_195_276 rfl (by decide) hov0 (xi_in (by omega) (by omega)) ea4 ?_
  refine xi_aload_n (pc' := 278) (x := 1000000) kc_195_277 rfl rfl ?_
  refine xi_iload (pc' := 280) (x := x4) kc_195_278 rfl rfl ?_
  refine xi_iconst (pc' := 281) (v := 3) kc_195_280 rfl rfl ?_
  refine xi_iadd (pc' := 282) (v := v5) kc_195_281 rfl ev5 ?_
  refine xi_ialoadO (pc' := 283) (v := a6) kc_195_282 rfl (by decide) hov0 (xi_in (by omega) (by omega)) ea6 ?_
  obtain ⟨u18, u19, u20, u21, u22, u23, u24, u25, u26, u27, u28, u29, u30, bu18, bu19, bu20, bu21, bu22, bu23, bu24, bu25, bu26, bu27, bu28, bu29, bu30, A31⟩ := xq_115 K13.1
  refine xi_virtual (mj := 15) (as := [.int a2, .int a4, .int a6]) (st1 := []) (lv0 := [(0, .ref 115), (1, .int a2), (2, .int a4), (3, .int a6)]) kc_195_283 rfl rfl rfl rfl rfl A31 (Nat.le_of_ble_eq_true rfl) (hJ _ _ _ _ (by decide)) (xm_le ml_15 rfl) rfl ?_
  refine mt_15_0 hJ hov1 hov2 (d := 97) (x1 := a2) (x2 := a4) (x3 := a6) K13.1 (fun r32 hh33 K34 => ?_)
  have br32 := xc_rng r32
  have K35 := xk_tr K13 K34 rfl
  obtain ⟨u36, u37, bu36, bu37, A38⟩ := xq_0 K35.1
  have e39 : u8 = u37 := xk_eqi (q := 9) K34 rfl A16 A38 rfl rfl
  subst e39
  obtain ⟨u40, u41, u42, u43, u44, u45, u46, u47, u48, u49, u50, u51, u52, bu40, bu41, bu42, bu43, bu44, bu45, bu46, bu47, bu48, bu49, bu50, bu51, bu52, A53⟩ := xq_115 K35.1
  have e54 : u19 = u41 := xk_eqi (q := 1) K34 rfl A31 A53 rfl rfl
  subst e54
  have e55 : u21 = u43 := xk_eqi (q := 18) K34 rfl A31 A53 rfl rfl
  subst e55
  show xw J ov 100 195 (286, [(4, .int x4), (3, .ref 167), (2, .ref 115), (1, .ref 0), (0, .ref 1000000)], [.int r32], hh33) _
  refine xi_pop (pc' := 287) kc_195_286 rfl rfl ?_
  refine xi_goto (pc' := 1501) kc_195_287 rfl ?_
  obtain ⟨v56, ev56⟩ : ∃ q : Int32, x4 + 6 = q := ⟨_, rfl⟩
  have zv56 : v56.toInt = (x4.toInt + 6) := by rw [← ev56]; exact (xz_add (X := x4.toInt) (Y := 6) rfl (by decide) (by omega) (by omega)).trans (by omega)
  refine xi_iinc (pc' := 1504) (x := x4) (v := v56) (lv' := [(4, .int v56), (3, .ref 167), (2, .ref 115), (1, .ref 0), (0, .ref 1000000)]) kc_195_1501 rfl rfl ev56 rfl (xm_lt ml_195 rfl) ?_
  refine xi_goto (pc' := 23) kc_195_1504 rfl ?_
  exact kk v56 hh33 (by omega) K35
set_option maxHeartbeats 8000000 in
theorem lc_2 {J : xe_J} {ov : List (List Int32)} (hJ : ∀ d mj as h, mj ≠ xe_loff → J d mj as h = none) (hov1 : ov[1]? = some [10, 0, 0, 0, 0, 0]) (hov2 : ov[2]? = some [99, 30, 50, 50, 1, 99999]) {xs : List Int32} (hov0 : ov[0]? = some xs) {Q : Option Value → xe_H → Prop} {h : xe_H} {x4 : Int32} (hi0 : 0 ≤ x4.toInt) (hi1 : x4.toInt + 6 ≤ xs.length) (hi2 : x4.toInt ≤ 3066) (T : xt h) (kk : ∀ (i : Int32) (h' : xe_H), i.toInt = x4.toInt + 6 → xk [(29, 0), (31, 0), (33, 0), (35, 0), (37, 0), (39, 0), (41, 0), (43, 0), (45, 0), (47, 0), (49, 0), (51, 0), (125, 0), (0, 9), (115, 1), (66, 8), (115, 18), (71, 0), (132, 0)] h h' → xw J ov 100 195 (23, [(4, .int i), (3, .ref 167), (2, .ref 115), (1, .ref 0), (0, .ref 1000000)], [], h') Q) : xw J ov 100 195 (290, [(4, .int x4), (3, .ref 167), (2, .ref 115), (1, .ref 0), (0, .ref 1000000)], [], h) Q := by
  have K : xk [(29, 0), (31, 0), (33, 0), (35, 0), (37, 0), (39, 0), (41, 0), (43, 0), (45, 0), (47, 0), (49, 0), (51, 0), (125, 0), (0, 9), (115, 1), (66, 8), (115, 18), (71, 0), (132, 0)] h h := xk_re T
  refine xi_aload_n (pc' := 291) (x := 0) kc_195_290 rfl rfl ?_
  refine xi_aload_n (pc' := 292) (x := 1000000) kc_195_291 rfl rfl ?_
  refine xi_iload (pc' := 294) (x := x4) kc_195_292 rfl rfl ?_
  refine xi_iconst (pc' := 295) (v := 1) kc_195_294 rfl rfl ?_
  obtain ⟨v1, ev1⟩ : ∃ q : Int32, x4 + 1 = q := ⟨_, rfl⟩
  have zv1 : v1.toInt = (x4.toInt + 1) := by rw [← ev1]; exact (xz_add (X := x4.toInt) (Y := 1) rfl (by decide) (by omega) (by omega)).trans (by omega)
  refine xi_iadd (pc' := 296) (v := v1) kc_195_295 rfl ev1 ?_
  obtain ⟨a2, ea2⟩ : ∃ q : Int32, xs.getD (Int32.toNatClampNeg v1) 0 = q := ⟨_, rfl⟩
  have ra2 := xc_rng a2
  refine xi_ialoadO (pc' := 297) (v := a2) kc_195_296 rfl (by decide) hov0 (xi_in (by omega) (by omega)) ea2 ?_
  refine xi_aload_n (pc' := 298) (x := 1000000) kc_195_297 rfl rfl ?_
  refine xi_iload (pc' := 300) (x := x4) kc_195_298 rfl rfl ?_
  refine xi_iconst (pc' := 301) (v := 2) kc_195_300 rfl rfl ?_
  obtain ⟨v3, ev3⟩ : ∃ q : Int32, x4 + 2 = q := ⟨_, rfl⟩
  have zv3 : v3.toInt = (x4.toInt + 2) := by rw [← ev3]; exact (xz_add (X := x4.toInt) (Y := 2) rfl (by decide) (by omega) (by omega)).trans (by omega)
  refine xi_iadd (pc' := 302) (v := v3) kc_195_301 rfl ev3 ?_
  obtain ⟨a4, ea4⟩ : ∃ q : Int32, xs.getD (Int32.toNatClampNeg v3) 0 = q := ⟨_, rfl⟩
  have ra4 := xc_rng a4
  refine xi_ialoadO (pc' := 303) (v := a4) kc_195_302 rfl (by decide) hov0 (xi_in (by omega) (by omega)) ea4 ?_
  refine xi_aload_n (pc' := 304) (x := 1000000) kc_195_303 rfl rfl ?_
  refine xi_iload (pc' := 306) (x := x4) kc_195_304 rfl rfl ?_
  refine xi_iconst (pc' := 307) (v := 3) kc_195_306 rfl rfl ?_
  obtain ⟨v5, ev5⟩ : ∃ q : Int32, x4 + 3 = q := ⟨_, rfl⟩
  have zv5 : v5.toInt = (x4.toInt + 3) := by rw [← ev5]; exact (xz_add (X := x4.toInt) (Y := 3) rfl (by decide) (by omega) (by omega)).trans (by omega)
  refine xi_iadd (pc' := 308) (v := v5) kc_195_307 rfl ev5 ?_
  obtain ⟨a6, ea6⟩ : ∃ q : Int32, xs.getD (Int32.toNatClampNeg v5) 0 = q := ⟨_, rfl⟩
  have ra6 := xc_rng a6
  refine xi_ialoadO (pc' := 309) (v := a6) kc_195_308 rfl (by decide) hov0 (xi_in (by omega) (by omega)) ea6 ?_
  obtain ⟨u7, u8, bu7, bu8, A9⟩ := xq_0 K.1
  refine xi_virtual (mj := 95) (as := [.int a2, .int a4, .int a6]) (st1 := []) (lv0 := [(0, .ref 0), (1, .int a2), (2, .int a4), (3, .int a6)]) kc_195_309 rfl rfl rfl rfl rfl A9 (Nat.le_of_ble_eq_true rfl) (hJ _ _ _ _ (by decide)) (xm_le ml_95 rfl) rfl ?_
  refine mt_95_0 hJ hov1 hov2 (d := 97) (x1 := a2) (x2 := a4) (x3 := a6) K.1 (fun r10 hh11 K12 => ?_)
  have br10 := xc_rng r10
  have K13 := xk_tr K K12 rfl
  obtain ⟨u14, u15, bu14, bu15, A16⟩ := xq_0 K13.1
  have e17 : u8 = u15 := xk_eqi (q := 9) K12 rfl A9 A16 rfl rfl
  subst e17
  show xw J ov 100 195 (312, [(4, .int x4), (3, .ref 167), (2, .ref 115), (1, .ref 0), (0, .ref 1000000)], [.int r10], hh11) _
  refine xi_pop (pc' := 313) kc_195_312 rfl rfl ?_
  refine xi_aload_n (pc' := 314) (x := 115) kc_195_313 rfl rfl ?_
  refine xi_aload_n (pc' := 315) (x := 1000000) kc_195_314 rfl rfl ?_
  refine xi_iload (pc' := 317) (x := x4) kc_195_315 rfl rfl ?_
  refine xi_iconst (pc' := 318) (v := 1) kc_195_317 rfl rfl ?_
  refine xi_iadd (pc' := 319) (v := v1) kc_195_318 rfl ev1 ?_
  refine xi_ialoadO (pc' := 320) (v := a2) kc_195_319 rfl (by decide) hov0 (xi_in (by omega) (by omega)) ea2 ?_
  refine xi_aload_n (pc' := 321) (x := 1000000) kc_195_320 rfl rfl ?_
  refine xi_iload (pc' := 323) (x := x4) kc_195_321 rfl rfl ?_
  refine xi_iconst (pc' := 324) (v := 2) kc_195_323 rfl rfl ?_
  refine xi_iadd (pc' := 325) (v := v3) kc_195_324 rfl ev3 ?_
  refine xi_ialoadO (pc' := 326) (v := a4) kc_195_325 rfl (by decide) hov0 (xi_in (by omega) (by omega)) ea4 ?_
  refine xi_aload_n (pc' := 327) (x := 1000000) kc_195_326 rfl rfl ?_
  refine xi_iload (pc' := 329) (x := x4) kc_195_327 rfl rfl ?_
  refine xi_iconst (pc' := 330) (v := 3) kc_195_329 rfl rfl ?_
  refine xi_iadd (pc' := 331) (v := v5) kc_195_330 rfl ev5 ?_
  refine xi_ialoadO (pc' := 332) (v := a6) kc_195_331 rfl (by decide) hov0 (xi_in (by omega) (by omega)) ea6 ?_
  obtain ⟨u18, u19, u20, u21, u22, u23, u24, u25, u26, u27, u28, u29, u30, bu18, bu19, bu20, bu21, bu22, bu23, bu24, bu25, bu26, bu27, bu28, bu29, bu30, A31⟩ := xq_115 K13.1
  refine xi_virtual (mj := 16) (as := [.int a2, .int a4, .int a6]) (st1 := []) (lv0 := [(0, .ref 115), (1, .int a2), (2, .int a4), (3, .int a6)]) kc_195_332 rfl rfl rfl rfl rfl A31 (Nat.le_of_ble_eq_true rfl) (hJ _ _ _ _ (by decide)) (xm_le ml_16 rfl) rfl ?_
  refine mt_16_0 hJ hov1 hov2 (d := 98) (x1 := a2) (x2 := a4) (x3 := a6) K13.1 (fun r32 hh33 K34 => ?_)
  have br32 := xc_rng r32
  have K35 := xk_tr K13 K34 rfl
  obtain ⟨u36, u37, bu36, bu37, A38⟩ := xq_0 K35.1
  have e39 : u8 = u37 := xk_eqi (q := 9) K34 rfl A16 A38 rfl rfl
  subst e39
  obtain ⟨u40, u41, u42, u43, u44, u45, u46, u47, u48, u49, u50, u51, u52, bu40, bu41, bu42, bu43, bu44, bu45, bu46, bu47, bu48, bu49, bu50, bu51, bu52, A53⟩ := xq_115 K35.1
  have e54 : u19 = u41 := xk_eqi (q := 1) K34 rfl A31 A53 rfl rfl
  subst e54
  have e55 : u21 = u43 := xk_eqi (q := 18) K34 rfl A31 A53 rfl rfl
  subst e55
  show xw J ov 100 195 (335, [(4, .int x4), (3, .ref 167), (2, .ref 115), (1, .ref 0), (0, .ref 1000000)], [.int r32], hh33) _
  refine xi_pop (pc' := 336) kc_195_335 rfl rfl ?_
  refine xi_goto (pc' := 1501) kc_195_336 rfl ?_
  obtain ⟨v56, ev56⟩ : ∃ q : Int32, x4 + 6 = q := ⟨_, rfl⟩
  have zv56 : v56.toInt = (x4.toInt + 6) := by rw [← ev56]; exact (xz_add (X := x4.toInt) (Y := 6) rfl (by decide) (by omega) (by omega)).trans (by omega)
  refine xi_iinc (pc' := 1504) (x := x4) (v := v56) (lv' := [(4, .int v56), (3, .ref 167), (2, .ref 115), (1, .ref 0), (0, .ref 1000000)]) kc_195_1501 rfl rfl ev56 rfl (xm_lt ml_195 rfl) ?_
  refine xi_goto (pc' := 23) kc_195_1504 rfl ?_
  exact kk v56 hh33 (by omega) K35
set_option maxHeartbeats 8000000 in
theorem lc_3 {J : xe_J} {ov : List (List Int32)} (hJ : ∀ d mj as h, mj ≠ xe_loff → J d mj as h = none) (hov1 : ov[1]? = some [10, 0, 0, 0, 0, 0]) (hov2 : ov[2]? = some [99, 30, 50, 50, 1, 99999]) {xs : List Int32} (hov0 : ov[0]? = some xs) {Q : Option Value → xe_H → Prop} {h : xe_H} {x4 : Int32} (hi0 : 0 ≤ x4.toInt) (hi1 : x4.toInt + 6 ≤ xs.length) (hi2 : x4.toInt ≤ 3066) (T : xt h) (kk : ∀ (i : Int32) (h' : xe_H), i.toInt = x4.toInt + 6 → xk [(29, 0), (31, 0), (33, 0), (35, 0), (37, 0), (39, 0), (41, 0), (43, 0), (45, 0), (47, 0), (49, 0), (51, 0), (125, 0), (0, 9), (115, 1), (66, 8), (115, 18), (71, 0), (132, 0)] h h' → xw J ov 100 195 (23, [(4, .int i), (3, .ref 167), (2, .ref 115), (1, .ref 0), (0, .ref 1000000)], [], h') Q) : xw J ov 100 195 (339, [(4, .int x4), (3, .ref 167), (2, .ref 115), (1, .ref 0), (0, .ref 1000000)], [], h) Q := by
  have K : xk [(29, 0), (31, 0), (33, 0), (35, 0), (37, 0), (39, 0), (41, 0), (43, 0), (45, 0), (47, 0), (49, 0), (51, 0), (125, 0), (0, 9), (115, 1), (66, 8), (115, 18), (71, 0), (132, 0)] h h := xk_re T
  refine xi_aload_n (pc' := 340) (x := 0) kc_195_339 rfl rfl ?_
  refine xi_aload_n (pc' := 341) (x := 1000000) kc_195_340 rfl rfl ?_
  refine xi_iload (pc' := 343) (x := x4) kc_195_341 rfl rfl ?_
  refine xi_iconst (pc' := 344) (v := 1) kc_195_343 rfl rfl ?_
  obtain ⟨v1, ev1⟩ : ∃ q : Int32, x4 + 1 = q := ⟨_, rfl⟩
  have zv1 : v1.toInt = (x4.toInt + 1) := by rw [← ev1]; exact (xz_add (X := x4.toInt) (Y := 1) rfl (by decide) (by omega) (by omega)).trans (by omega)
  refine xi_iadd (pc' := 345) (v := v1) kc_195_344 rfl ev1 ?_
  obtain ⟨a2, ea2⟩ : ∃ q : Int32, xs.getD (Int32.toNatClampNeg v1) 0 = q := ⟨_, rfl⟩
  have ra2 := xc_rng a2
  refine xi_ialoadO (pc' := 346) (v := a2) kc_195_345 rfl (by decide) hov0 (xi_in (by omega) (by omega)) ea2 ?_
  refine xi_aload_n (pc' := 347) (x := 1000000) kc_195_346 rfl rfl ?_
  refine xi_iload (pc' := 349) (x := x4) kc_195_347 rfl rfl ?_
  refine xi_iconst (pc' := 350) (v := 2) kc_195_349 rfl rfl ?_
  obtain ⟨v3, ev3⟩ : ∃ q : Int32, x4 + 2 = q := ⟨_, rfl⟩
  have zv3 : v3.toInt = (x4.toInt + 2) := by rw [← ev3]; exact (xz_add (X := x4.toInt) (Y := 2) rfl (by decide) (by omega) (by omega)).trans (by omega)
  refine xi_iadd (pc' := 351) (v := v3) kc_195_350 rfl ev3 ?_
  obtain ⟨a4, ea4⟩ : ∃ q : Int32, xs.getD (Int32.toNatClampNeg v3) 0 = q := ⟨_, rfl⟩
  have ra4 := xc_rng a4
  refine xi_ialoadO (pc' := 352) (v := a4) kc_195_351 rfl (by decide) hov0 (xi_in (by omega) (by omega)) ea4 ?_
  obtain ⟨u5, u6, bu5, bu6, A7⟩ := xq_0 K.1
  refine xi_virtual (mj := 100) (as := [.int a2, .int a4]) (st1 := []) (lv0 := [(0, .ref 0), (1, .int a2), (2, .int a4)]) kc_195_352 rfl rfl rfl rfl rfl A7 (Nat.le_of_ble_eq_true rfl) (hJ _ _ _ _ (by decide)) (xm_le ml_100 rfl) rfl ?_
  refine mt_100_0 hJ hov1 hov2 (d := 97) (x1 := a2) (x2 := a4) K.1 (fun r8 hh9 K10 => ?_)
  have br8 := xc_rng r8
  have K11 := xk_tr K K10 rfl
  obtain ⟨u12, u13, bu12, bu13, A14⟩ := xq_0 K11.1
  have e15 : u6 = u13 := xk_eqi (q := 9) K10 rfl A7 A14 rfl rfl
  subst e15
  show xw J ov 100 195 (355, [(4, .int x4), (3, .ref 167), (2, .ref 115), (1, .ref 0), (0, .ref 1000000)], [.int r8], hh9) _
  refine xi_pop (pc' := 356) kc_195_355 rfl rfl ?_
  refine xi_aload_n (pc' := 357) (x := 115) kc_195_356 rfl rfl ?_
  refine xi_aload_n (pc' := 358) (x := 1000000) kc_195_357 rfl rfl ?_
  refine xi_iload (pc' := 360) (x := x4) kc_195_358 rfl rfl ?_
  refine xi_iconst (pc' := 361) (v := 1) kc_195_360 rfl rfl ?_
  refine xi_iadd (pc' := 362) (v := v1) kc_195_361 rfl ev1 ?_
  refine xi_ialoadO (pc' := 363) (v := a2) kc_195_362 rfl (by decide) hov0 (xi_in (by omega) (by omega)) ea2 ?_
  refine xi_aload_n (pc' := 364) (x := 1000000) kc_195_363 rfl rfl ?_
  refine xi_iload (pc' := 366) (x := x4) kc_195_364 rfl rfl ?_
  refine xi_iconst (pc' := 367) (v := 2) kc_195_366 rfl rfl ?_
  refine xi_iadd (pc' := 368) (v := v3) kc_195_367 rfl ev3 ?_
  refine xi_ialoadO (pc' := 369) (v := a4) kc_195_368 rfl (by decide) hov0 (xi_in (by omega) (by omega)) ea4 ?_
  obtain ⟨u16, u17, u18, u19, u20, u21, u22, u23, u24, u25, u26, u27, u28, bu16, bu17, bu18, bu19, bu20, bu21, bu22, bu23, bu24, bu25, bu26, bu27, bu28, A29⟩ := xq_115 K11.1
  refine xi_virtual (mj := 18) (as := [.int a2, .int a4]) (st1 := []) (lv0 := [(0, .ref 115), (1, .int a2), (2, .int a4)]) kc_195_369 rfl rfl rfl rfl rfl A29 (Nat.le_of_ble_eq_true rfl) (hJ _ _ _ _ (by decide)) (xm_le ml_18 rfl) rfl ?_
  refine mt_18_0 hJ hov1 hov2 (d := 97) (x1 := a2) (x2 := a4) K11.1 (fun r30 hh31 K32 => ?_)
  have br30 := xc_rng r30
  have K33 := xk_tr K11 K32 rfl
  obtain ⟨u34, u35, bu34, bu35, A36⟩ := xq_0 K33.1
  have e37 : u6 = u35 := xk_eqi (q := 9) K32 rfl A14 A36 rfl rfl
  subst e37
  obtain ⟨u38, u39, u40, u41, u42, u43, u44, u45, u46, u47, u48, u49, u50, bu38, bu39, bu40, bu41, bu42, bu43, bu44, bu45, bu46, bu47, bu48, bu49, bu50, A51⟩ := xq_115 K33.1
  have e52 : u17 = u39 := xk_eqi (q := 1) K32 rfl A29 A51 rfl rfl
  subst e52
  have e53 : u19 = u41 := xk_eqi (q := 18) K32 rfl A29 A51 rfl rfl
  subst e53
  show xw J ov 100 195 (372, [(4, .int x4), (3, .ref 167), (2, .ref 115), (1, .ref 0), (0, .ref 1000000)], [.int r30], hh31) _
  refine xi_pop (pc' := 373) kc_195_372 rfl rfl ?_
  refine xi_goto (pc' := 1501) kc_195_373 rfl ?_
  obtain ⟨v54, ev54⟩ : ∃ q : Int32, x4 + 6 = q := ⟨_, rfl⟩
  have zv54 : v54.toInt = (x4.toInt + 6) := by rw [← ev54]; exact (xz_add (X := x4.toInt) (Y := 6) rfl (by decide) (by omega) (by omega)).trans (by omega)
  refine xi_iinc (pc' := 1504) (x := x4) (v := v54) (lv' := [(4, .int v54), (3, .ref 167), (2, .ref 115), (1, .ref 0), (0, .ref 1000000)]) kc_195_1501 rfl rfl ev54 rfl (xm_lt ml_195 rfl) ?_
  refine xi_goto (pc' := 23) kc_195_1504 rfl ?_
  exact kk v54 hh31 (by omega) K33
set_option maxHeartbeats 8000000 in
theorem lc_4 {J : xe_J} {ov : List (List Int32)} (hJ : ∀ d mj as h, mj ≠ xe_loff → J d mj as h = none) (hov1 : ov[1]? = some [10, 0, 0, 0, 0, 0]) (hov2 : ov[2]? = some [99, 30, 50, 50, 1, 99999]) {xs : List Int32} (hov0 : ov[0]? = some xs) {Q : Option Value → xe_H → Prop} {h : xe_H} {x4 : Int32} (hi0 : 0 ≤ x4.toInt) (hi1 : x4.toInt + 6 ≤ xs.length) (hi2 : x4.toInt ≤ 3066) (T : xt h) (kk : ∀ (i : Int32) (h' : xe_H), i.toInt = x4.toInt + 6 → xk [(29, 0), (31, 0), (33, 0), (35, 0), (37, 0), (39, 0), (41, 0), (43, 0), (45, 0), (47, 0), (49, 0), (51, 0), (125, 0), (0, 9), (115, 1), (66, 8), (115, 18), (71, 0), (132, 0)] h h' → xw J ov 100 195 (23, [(4, .int i), (3, .ref 167), (2, .ref 115), (1, .ref 0), (0, .ref 1000000)], [], h') Q) : xw J ov 100 195 (376, [(4, .int x4), (3, .ref 167), (2, .ref 115), (1, .ref 0), (0, .ref 1000000)], [], h) Q := by
  have K : xk [(29, 0), (31, 0), (33, 0), (35, 0), (37, 0), (39, 0), (41, 0), (43, 0), (45, 0), (47, 0), (49, 0), (51, 0), (125, 0), (0, 9), (115, 1), (66, 8), (115, 18), (71, 0), (132, 0)] h h := xk_re T
  refine xi_aload_n (pc' := 377) (x := 0) kc_195_376 rfl rfl ?_
  refine xi_aload_n (pc' := 378) (x := 1000000) kc_195_377 rfl rfl ?_
  refine xi_iload (pc' := 380) (x := x4) kc_195_378 rfl rfl ?_
  refine xi_iconst (pc' := 381) (v := 1) kc_195_380 rfl rfl ?_
  obtain ⟨v1, ev1⟩ : ∃ q : Int32, x4 + 1 = q := ⟨_, rfl⟩
  have zv1 : v1.toInt = (x4.toInt + 1) := by rw [← ev1]; exact (xz_add (X := x4.toInt) (Y := 1) rfl (by decide) (by omega) (by omega)).trans (by omega)
  refine xi_iadd (pc' := 382) (v := v1) kc_195_381 rfl ev1 ?_
  obtain ⟨a2, ea2⟩ : ∃ q : Int32, xs.getD (Int32.toNatClampNeg v1) 0 = q := ⟨_, rfl⟩
  have ra2 := xc_rng a2
  refine xi_ialoadO (pc' := 383) (v := a2) kc_195_382 rfl (by decide) hov0 (xi_in (by omega) (by omega)) ea2 ?_
  obtain ⟨u3, u4, bu3, bu4, A5⟩ := xq_0 K.1
  refine xi_virtual (mj := 101) (as := [.int a2]) (st1 := []) (lv0 := [(0, .ref 0), (1, .int a2)]) kc_195_383 rfl rfl rfl rfl rfl A5 (Nat.le_of_ble_eq_true rfl) (hJ _ _ _ _ (by decide)) (xm_le ml_101 rfl) rfl ?_
  refine mt_101_0 hJ hov1 hov2 (d := 96) (x1 := a2) K.1 (fun r6 hh7 br6 K8 => ?_)
  have K9 := xk_tr K K8 rfl
  obtain ⟨u10, u11, bu10, bu11, A12⟩ := xq_0 K9.1
  have e13 : u4 = u11 := xk_eqi (q := 9) K8 rfl A5 A12 rfl rfl
  subst e13
  show xw J ov 100 195 (386, [(4, .int x4), (3, .ref 167), (2, .ref 115), (1, .ref 0), (0, .ref 1000000)], [.int r6], hh7) _
  refine xi_pop (pc' := 387) kc_195_386 rfl rfl ?_
  refine xi_aload_n (pc' := 388) (x := 115) kc_195_387 rfl rfl ?_
  refine xi_aload_n (pc' := 389) (x := 1000000) kc_195_388 rfl rfl ?_
  refine xi_iload (pc' := 391) (x := x4) kc_195_389 rfl rfl ?_
  refine xi_iconst (pc' := 392) (v := 1) kc_195_391 rfl rfl ?_
  refine xi_iadd (pc' := 393) (v := v1) kc_195_392 rfl ev1 ?_
  refine xi_ialoadO (pc' := 394) (v := a2) kc_195_393 rfl (by decide) hov0 (xi_in (by omega) (by omega)) ea2 ?_
  obtain ⟨u14, u15, u16, u17, u18, u19, u20, u21, u22, u23, u24, u25, u26, bu14, bu15, bu16, bu17, bu18, bu19, bu20, bu21, bu22, bu23, bu24, bu25, bu26, A27⟩ := xq_115 K9.1
  refine xi_virtual (mj := 21) (as := [.int a2]) (st1 := []) (lv0 := [(0, .ref 115), (1, .int a2)]) kc_195_394 rfl rfl rfl rfl rfl A27 (Nat.le_of_ble_eq_true rfl) (hJ _ _ _ _ (by decide)) (xm_le ml_21 rfl) rfl ?_
  refine mt_21_0 hJ hov1 hov2 (d := 97) (x1 := a2) K9.1 (fun r28 hh29 br28 K30 => ?_)
  have K31 := xk_tr K9 K30 rfl
  obtain ⟨u32, u33, bu32, bu33, A34⟩ := xq_0 K31.1
  have e35 : u4 = u33 := xk_eqi (q := 9) K30 rfl A12 A34 rfl rfl
  subst e35
  obtain ⟨u36, u37, u38, u39, u40, u41, u42, u43, u44, u45, u46, u47, u48, bu36, bu37, bu38, bu39, bu40, bu41, bu42, bu43, bu44, bu45, bu46, bu47, bu48, A49⟩ := xq_115 K31.1
  have e50 : u15 = u37 := xk_eqi (q := 1) K30 rfl A27 A49 rfl rfl
  subst e50
  have e51 : u17 = u39 := xk_eqi (q := 18) K30 rfl A27 A49 rfl rfl
  subst e51
  show xw J ov 100 195 (397, [(4, .int x4), (3, .ref 167), (2, .ref 115), (1, .ref 0), (0, .ref 1000000)], [.int r28], hh29) _
  refine xi_pop (pc' := 398) kc_195_397 rfl rfl ?_
  refine xi_goto (pc' := 1501) kc_195_398 rfl ?_
  obtain ⟨v52, ev52⟩ : ∃ q : Int32, x4 + 6 = q := ⟨_, rfl⟩
  have zv52 : v52.toInt = (x4.toInt + 6) := by rw [← ev52]; exact (xz_add (X := x4.toInt) (Y := 6) rfl (by decide) (by omega) (by omega)).trans (by omega)
  refine xi_iinc (pc' := 1504) (x := x4) (v := v52) (lv' := [(4, .int v52), (3, .ref 167), (2, .ref 115), (1, .ref 0), (0, .ref 1000000)]) kc_195_1501 rfl rfl ev52 rfl (xm_lt ml_195 rfl) ?_
  refine xi_goto (pc' := 23) kc_195_1504 rfl ?_
  exact kk v52 hh29 (by omega) K31
set_option maxHeartbeats 8000000 in
theorem lc_5 {J : xe_J} {ov : List (List Int32)} (hJ : ∀ d mj as h, mj ≠ xe_loff → J d mj as h = none) (hov1 : ov[1]? = some [10, 0, 0, 0, 0, 0]) (hov2 : ov[2]? = some [99, 30, 50, 50, 1, 99999]) {xs : List Int32} (hov0 : ov[0]? = some xs) {Q : Option Value → xe_H → Prop} {h : xe_H} {x4 : Int32} (hi0 : 0 ≤ x4.toInt) (hi1 : x4.toInt + 6 ≤ xs.length) (hi2 : x4.toInt ≤ 3066) (T : xt h) (I : xI h) (kk : ∀ (i : Int32) (h' : xe_H), i.toInt = x4.toInt + 6 → xk [] h h' → xI h' → xw J ov 100 195 (23, [(4, .int i), (3, .ref 167), (2, .ref 115), (1, .ref 0), (0, .ref 1000000)], [], h') Q) : xw J ov 100 195 (401, [(4, .int x4), (3, .ref 167), (2, .ref 115), (1, .ref 0), (0, .ref 1000000)], [], h) Q := by
  have K : xk [] h h := xk_re T
  obtain ⟨u1, u2, bu1, bu2, A3⟩ := xq_0 K.1
  obtain ⟨u4, u5, u6, u7, u8, u9, u10, u11, u12, u13, u14, u15, u16, bu4, bu5, bu6, bu7, bu8, bu9, bu10, bu11, bu12, bu13, bu14, bu15, bu16, A17⟩ := xq_115 K.1
  have ee1 : u2 = u5 := xl_eqf I.2.1 A3 A17 rfl rfl
  subst ee1
  obtain ⟨u19, wl18, bu19, A20⟩ := xq_66 K.1
  have ee2 : u19 = u7 := xl_eqf I.2.2.1 A20 A17 rfl rfl
  subst ee2
  obtain ⟨y21, A21, hy21, ry21⟩ := xk_arr K.1 xD_71
  obtain ⟨y22, A22, hy22, ry22⟩ := xk_arr K.1 xD_132
  have ee3 : y21 = y22 := xl_eqa I.2.2.2 A21 A22
  subst ee3
  refine xi_aload_n (pc' := 402) (x := 0) kc_195_401 rfl rfl ?_
  refine xi_aload_n (pc' := 403) (x := 1000000) kc_195_402 rfl rfl ?_
  refine xi_iload (pc' := 405) (x := x4) kc_195_403 rfl rfl ?_
  refine xi_iconst (pc' := 406) (v := 1) kc_195_405 rfl rfl ?_
  obtain ⟨v23, ev23⟩ : ∃ q : Int32, x4 + 1 = q := ⟨_, rfl⟩
  have zv23 : v23.toInt = (x4.toInt + 1) := by rw [← ev23]; exact (xz_add (X := x4.toInt) (Y := 1) rfl (by decide) (by omega) (by omega)).trans (by omega)
  refine xi_iadd (pc' := 407) (v := v23) kc_195_406 rfl ev23 ?_
  obtain ⟨a24, ea24⟩ : ∃ q : Int32, xs.getD (Int32.toNatClampNeg v23) 0 = q := ⟨_, rfl⟩
  have ra24 := xc_rng a24
  refine xi_ialoadO (pc' := 408) (v := a24) kc_195_407 rfl (by decide) hov0 (xi_in (by omega) (by omega)) ea24 ?_
  refine xi_aload_n (pc' := 409) (x := 1000000) kc_195_408 rfl rfl ?_
  refine xi_iload (pc' := 411) (x := x4) kc_195_409 rfl rfl ?_
  refine xi_iconst (pc' := 412) (v := 2) kc_195_411 rfl rfl ?_
  obtain ⟨v25, ev25⟩ : ∃ q : Int32, x4 + 2 = q := ⟨_, rfl⟩
  have zv25 : v25.toInt = (x4.toInt + 2) := by rw [← ev25]; exact (xz_add (X := x4.toInt) (Y := 2) rfl (by decide) (by omega) (by omega)).trans (by omega)
  refine xi_iadd (pc' := 413) (v := v25) kc_195_412 rfl ev25 ?_
  obtain ⟨a26, ea26⟩ : ∃ q : Int32, xs.getD (Int32.toNatClampNeg v25) 0 = q := ⟨_, rfl⟩
  have ra26 := xc_rng a26
  refine xi_ialoadO (pc' := 414) (v := a26) kc_195_413 rfl (by decide) hov0 (xi_in (by omega) (by omega)) ea26 ?_
  refine xi_aload_n (pc' := 415) (x := 1000000) kc_195_414 rfl rfl ?_
  refine xi_iload (pc' := 417) (x := x4) kc_195_415 rfl rfl ?_
  refine xi_iconst (pc' := 418) (v := 3) kc_195_417 rfl rfl ?_
  obtain ⟨v27, ev27⟩ : ∃ q : Int32, x4 + 3 = q := ⟨_, rfl⟩
  have zv27 : v27.toInt = (x4.toInt + 3) := by rw [← ev27]; exact (xz_add (X := x4.toInt) (Y := 3) rfl (by decide) (by omega) (by omega)).trans (by omega)
  refine xi_iadd (pc' := 419) (v := v27) kc_195_418 rfl ev27 ?_
  obtain ⟨a28, ea28⟩ : ∃ q : Int32, xs.getD (Int32.toNatClampNeg v27) 0 = q := ⟨_, rfl⟩
  have ra28 := xc_rng a28
  refine xi_ialoadO (pc' := 420) (v := a28) kc_195_419 rfl (by decide) hov0 (xi_in (by omega) (by omega)) ea28 ?_
  refine xi_aload_n (pc' := 421) (x := 1000000) kc_195_420 rfl rfl ?_
  refine xi_iload (pc' := 423) (x := x4) kc_195_421 rfl rfl ?_
  refine xi_iconst (pc' := 424) (v := 4) kc_195_423 rfl rfl ?_
  obtain ⟨v29, ev29⟩ : ∃ q : Int32, x4 + 4 = q := ⟨_, rfl⟩
  have zv29 : v29.toInt = (x4.toInt + 4) := by rw [← ev29]; exact (xz_add (X := x4.toInt) (Y := 4) rfl (by decide) (by omega) (by omega)).trans (by omega)
  refine xi_iadd (pc' := 425) (v := v29) kc_195_424 rfl ev29 ?_
  obtain ⟨a30, ea30⟩ : ∃ q : Int32, xs.getD (Int32.toNatClampNeg v29) 0 = q := ⟨_, rfl⟩
  have ra30 := xc_rng a30
  refine xi_ialoadO (pc' := 426) (v := a30) kc_195_425 rfl (by decide) hov0 (xi_in (by omega) (by omega)) ea30 ?_
  by_cases c31 : a30.toInt = 0
  · refine xi_ift (pc' := 433) kc_195_426 rfl (xc_eq_t (X := a30.toInt) (Y := 0) rfl (by decide) (by omega)) ?_
    refine xi_iconst (pc' := 434) (v := 0) kc_195_433 rfl rfl ?_
    refine xi_virtual (mj := 103) (as := [.int a24, .int a26, .int a28, .int 0]) (st1 := []) (lv0 := [(0, .ref 0), (1, .int a24), (2, .int a26), (3, .int a28), (4, .int 0)]) kc_195_434 rfl rfl rfl rfl rfl A3 (Nat.le_of_ble_eq_true rfl) (hJ _ _ _ _ (by decide)) (xm_le ml_103 rfl) rfl ?_
    refine xi_iload_n (pc' := 1) (x := a24) kc_103_0 rfl rfl ?_
    refine xi_static (mj := 104) (as := [.int a24]) (st1 := []) (lv0 := [(0, .int a24)]) kc_103_1 rfl rfl (Nat.le_of_ble_eq_true rfl) rfl rfl (Nat.le_of_ble_eq_true rfl) (hJ _ _ _ _ (by decide)) (xm_le ml_104 rfl) rfl ?_
    refine xi_iload_n (pc' := 1) (x := a24) kc_104_0 rfl rfl ?_
    by_cases c32 : a24.toInt < 0
    · refine xi_ift (pc' := 14) kc_104_1 rfl (xc_lt_t (X := a24.toInt) (Y := 0) rfl (by decide) (by omega)) ?_
      refine xi_iconst (pc' := 15) (v := 0) kc_104_14 rfl rfl ?_
      refine xi_ireturn kc_104_15 mr_104 rfl ?_
      show xw J ov 99 103 (4, [(0, .ref 0), (1, .int a24), (2, .int a26), (3, .int a28), (4, .int 0)], [.int 0], h) _
      refine xi_ift (pc' := 14) kc_103_4 rfl rfl ?_
      refine xi_aload_n (pc' := 15) (x := 0) kc_103_14 rfl rfl ?_
      refine xi_iconst (pc' := 16) (v := (-1)) kc_103_15 rfl rfl ?_
      refine xi_virtual (mj := 90) (as := [.int (-1)]) (st1 := []) (lv0 := [(0, .ref 0), (1, .int (-1))]) kc_103_16 rfl rfl rfl rfl rfl A3 (Nat.le_of_ble_eq_true rfl) (hJ _ _ _ _ (by decide)) (xm_le ml_90 rfl) rfl ?_
      refine xi_iload_n (pc' := 1) (x := (-1)) kc_90_0 rfl rfl ?_
      refine xi_ineg (pc' := 2) (v := 1) kc_90_1 rfl rfl ?_
      refine xi_istore_n (pc' := 3) (lv' := [(2, .int 1), (0, .ref 0), (1, .int (-1))]) kc_90_2 rfl rfl (xm_lt ml_90 rfl) ?_
      refine xi_iload_n (pc' := 4) (x := 1) kc_90_3 rfl rfl ?_
      refine xi_iff (pc' := 7) kc_90_4 rfl rfl ?_
      refine xi_iload_n (pc' := 8) (x := 1) kc_90_7 rfl rfl ?_
      refine xi_aload_n (pc' := 9) (x := 0) kc_90_8 rfl rfl ?_
      refine xi_getfield (pc' := 12) (v := .ref 94) kc_90_9 rfl rfl rfl A3 rfl ?_
      obtain ⟨y33, A33, hy33, ry33⟩ := xk_arr K.1 xD_94
      refine xi_arraylength (pc' := 13) (n := 7) (v := 7) kc_90_12 rfl (xl_lenI (by decide) (by decide) A33 hy33) rfl ?_
      refine xi_cmf (pc' := 16) kc_90_13 rfl rfl ?_
      refine xi_aload_n (pc' := 17) (x := 0) kc_90_16 rfl rfl ?_
      refine xi_getfield (pc' := 20) (v := .ref 94) kc_90_17 rfl rfl rfl A3 rfl ?_
      refine xi_iload_n (pc' := 21) (x := 1) kc_90_20 rfl rfl ?_
      refine xi_dup2 (pc' := 22) kc_90_21 rfl ⟨rfl, rfl⟩ ?_
      obtain ⟨v34, ev34, bv34, dv34⟩ := xj_get hy33 ry33 (i := 1) (by decide) (by decide)
      refine xi_iaload (pc' := 23) (v := v34) kc_90_22 rfl A33 (by decide) rfl (xi_in (by decide) (by rw [hy33]; decide)) ev34 ?_
      refine xi_iconst (pc' := 24) (v := 1) kc_90_23 rfl rfl ?_
      obtain ⟨v35, ev35⟩ : ∃ q : Int32, (v34 : Int32) + 1 = q := ⟨_, rfl⟩
      have rv35 := xc_rng v35
      refine xi_iadd (pc' := 25) (v := v35) kc_90_24 rfl ev35 ?_
      obtain ⟨y36, s36, hy36, ry36⟩ := xj_set (v := v35) hy33 ry33 1 (by first | omega | decide) (by first | omega | decide)
      refine xi_iastore (pc' := 26) (x' := y36) kc_90_25 rfl A33 rfl (xi_in (by decide) (by rw [hy33]; decide)) s36 (fun hh36 eh36 => ?_)
      have K37 := xk_pa K (xk_wa rfl) xD_94 hy36 ry36 eh36
      refine xi_iload_n (pc' := 27) (x := (-1)) kc_90_26 rfl rfl ?_
      refine xi_ireturn kc_90_27 mr_90 rfl ?_
      show xw J ov 99 103 (19, [(0, .ref 0), (1, .int a24), (2, .int a26), (3, .int a28), (4, .int 0)], [.int (-1)], hh36) _
      refine xi_ireturn kc_103_19 mr_103 rfl ?_
      show xw J ov 100 195 (437, [(4, .int x4), (3, .ref 167), (2, .ref 115), (1, .ref 0), (0, .ref 1000000)], [.int (-1)], hh36) _
      refine xi_pop (pc' := 438) kc_195_437 rfl rfl ?_
      refine xi_aload_n (pc' := 439) (x := 115) kc_195_438 rfl rfl ?_
      refine xi_aload_n (pc' := 440) (x := 1000000) kc_195_439 rfl rfl ?_
      refine xi_iload (pc' := 442) (x := x4) kc_195_440 rfl rfl ?_
      refine xi_iconst (pc' := 443) (v := 1) kc_195_442 rfl rfl ?_
      refine xi_iadd (pc' := 444) (v := v23) kc_195_443 rfl ev23 ?_
      refine xi_ialoadO (pc' := 445) (v := a24) kc_195_444 rfl (by decide) hov0 (xi_in (by omega) (by omega)) ea24 ?_
      refine xi_aload_n (pc' := 446) (x := 1000000) kc_195_445 rfl rfl ?_
      refine xi_iload (pc' := 448) (x := x4) kc_195_446 rfl rfl ?_
      refine xi_iconst (pc' := 449) (v := 2) kc_195_448 rfl rfl ?_
      refine xi_iadd (pc' := 450) (v := v25) kc_195_449 rfl ev25 ?_
      refine xi_ialoadO (pc' := 451) (v := a26) kc_195_450 rfl (by decide) hov0 (xi_in (by omega) (by omega)) ea26 ?_
      refine xi_aload_n (pc' := 452) (x := 1000000) kc_195_451 rfl rfl ?_
      refine xi_iload (pc' := 454) (x := x4) kc_195_452 rfl rfl ?_
      refine xi_iconst (pc' := 455) (v := 3) kc_195_454 rfl rfl ?_
      refine xi_iadd (pc' := 456) (v := v27) kc_195_455 rfl ev27 ?_
      refine xi_ialoadO (pc' := 457) (v := a28) kc_195_456 rfl (by decide) hov0 (xi_in (by omega) (by omega)) ea28 ?_
      refine xi_aload_n (pc' := 458) (x := 1000000) kc_195_457 rfl rfl ?_
      refine xi_iload (pc' := 460) (x := x4) kc_195_458 rfl rfl ?_
      refine xi_iconst (pc' := 461) (v := 4) kc_195_460 rfl rfl ?_
      refine xi_iadd (pc' := 462) (v := v29) kc_195_461 rfl ev29 ?_
      refine xi_ialoadO (pc' := 463) (v := a30) kc_195_462 rfl (by decide) hov0 (xi_in (by omega) (by omega)) ea30 ?_
      refine xi_ift (pc' := 470) kc_195_463 rfl (xc_eq_t (X := a30.toInt) (Y := 0) rfl (by decide) (by omega)) ?_
      refine xi_iconst (pc' := 471) (v := 0) kc_195_470 rfl rfl ?_
      have A38 := ((eh36.2.1 115 (by decide)).trans A17)
      refine xi_virtual (mj := 23) (as := [.int a24, .int a26, .int a28, .int 0]) (st1 := []) (lv0 := [(0, .ref 115), (1, .int a24), (2, .int a26), (3, .int a28), (4, .int 0)]) kc_195_471 rfl rfl rfl rfl rfl A38 (Nat.le_of_ble_eq_true rfl) (hJ _ _ _ _ (by decide)) (xm_le ml_23 rfl) rfl ?_
      refine xi_aload_n (pc' := 1) (x := 115) kc_23_0 rfl rfl ?_
      refine xi_iconst (pc' := 2) (v := 0) kc_23_1 rfl rfl ?_
      refine xi_putfield (pc' := 5) (fs' := [.int 0, .int u2, .ref 116, .ref 117, .ref 118, .ref 119, .ref 120, .ref 121, .ref 122, .ref 123, .ref 124, .ref 125, .ref 126, .ref 127, .ref 128, .ref 129, .int u6, .ref 130, .int u19, .ref 131, .ref 132, .ref 133, .ref 134, .int u8, .ref 135, .ref 136, .ref 137, .ref 138, .ref 139, .ref 140, .ref 141, .ref 142, .int u9, .int u10, .int u11, .ref 143, .ref 144, .ref 145, .ref 146, .ref 147, .ref 148, .int u12, .ref 149, .ref 150, .ref 151, .int u13, .ref 152, .ref 153, .ref 154, .ref 155, .ref 156, .ref 157, .ref 158, .ref 159, .int u14, .ref 160, .int u15, .ref 161, .ref 162, .ref 163, .ref 164, .int u16, .ref 165, .ref 166]) kc_23_2 rfl rfl rfl A38 rfl rfl rfl (Nat.le_of_ble_eq_true rfl) rfl (fun hh40 eh39 => ?_)
      have K41 := xk_pf (k := 0) (v := 0) K37 (xk_wf rfl) xD_115 A38 rfl (by first | omega | decide) (by first | omega | decide) eh39 rfl
      refine xi_iload_n (pc' := 6) (x := a24) kc_23_5 rfl rfl ?_
      refine xi_static (mj := 24) (as := [.int a24]) (st1 := []) (lv0 := [(0, .int a24)]) kc_23_6 rfl rfl (Nat.le_of_ble_eq_true rfl) rfl rfl (Nat.le_of_ble_eq_true rfl) (hJ _ _ _ _ (by decide)) (xm_le ml_24 rfl) rfl ?_
      refine xi_iload_n (pc' := 1) (x := a24) kc_24_0 rfl rfl ?_
      refine xi_iconst (pc' := 2) (v := 0) kc_24_1 rfl rfl ?_
      refine xi_bipush (pc' := 4) (v := 11) kc_24_2 rfl rfl ?_
      refine xi_static (mj := 11) (as := [.int a24, .int 0, .int 11]) (st1 := []) (lv0 := [(0, .int a24), (1, .int 0), (2, .int 11)]) kc_24_4 rfl rfl (Nat.le_of_ble_eq_true rfl) rfl rfl (Nat.le_of_ble_eq_true rfl) (hJ _ _ _ _ (by decide)) (xm_le ml_11 rfl) rfl ?_
      refine xi_iload_n (pc' := 1) (x := a24) kc_11_0 rfl rfl ?_
      refine xi_iload_n (pc' := 2) (x := 0) kc_11_1 rfl rfl ?_
      refine xi_cmt (pc' := 14) kc_11_2 rfl (xc_lt_t (X := a24.toInt) (Y := 0) rfl (by decide) (by omega)) ?_
      refine xi_iconst (pc' := 15) (v := 0) kc_11_14 rfl rfl ?_
      refine xi_ireturn kc_11_15 mr_11 rfl ?_
      show xw J ov 98 24 (7, [(0, .int a24)], [.int 0], hh40) _
      refine xi_ireturn kc_24_7 mr_24 rfl ?_
      show xw J ov 99 23 (9, [(0, .ref 115), (1, .int a24), (2, .int a26), (3, .int a28), (4, .int 0)], [.int 0], hh40) _
      refine xi_ift (pc' := 19) kc_23_9 rfl rfl ?_
      refine xi_aload_n (pc' := 20) (x := 115) kc_23_19 rfl rfl ?_
      refine xi_iconst (pc' := 21) (v := (-1)) kc_23_20 rfl rfl ?_
      refine xi_virtual (mj := 12) (as := [.int (-1)]) (st1 := []) (lv0 := [(0, .ref 115), (1, .int (-1))]) kc_23_21 rfl rfl rfl rfl rfl eh39.1 (Nat.le_of_ble_eq_true rfl) (hJ _ _ _ _ (by decide)) (xm_le ml_12 rfl) rfl ?_
      refine xi_aload_n (pc' := 1) (x := 115) kc_12_0 rfl rfl ?_
      refine xi_getfield (pc' := 4) (v := .ref 140) kc_12_1 rfl rfl rfl eh39.1 rfl ?_
      refine xi_iload_n (pc' := 5) (x := (-1)) kc_12_4 rfl rfl ?_
      refine xi_ineg (pc' := 6) (v := 1) kc_12_5 rfl rfl ?_
      refine xi_dup2 (pc' := 7) kc_12_6 rfl ⟨rfl, rfl⟩ ?_
      obtain ⟨y42, A42, hy42, ry42⟩ := xk_arr K.1 xD_140
      obtain ⟨v43, ev43, bv43, dv43⟩ := xj_get hy42 ry42 (i := 1) (by decide) (by decide)
      have A44 := ((eh39.2.1 140 (by decide)).trans ((eh36.2.1 140 (by decide)).trans A42))
      refine xi_iaload (pc' := 8) (v := v43) kc_12_7 rfl A44 (by decide) rfl (xi_in (by decide) (by rw [hy42]; decide)) ev43 ?_
      refine xi_iconst (pc' := 9) (v := 1) kc_12_8 rfl rfl ?_
      obtain ⟨v45, ev45⟩ : ∃ q : Int32, (v43 : Int32) + 1 = q := ⟨_, rfl⟩
      have rv45 := xc_rng v45
      refine xi_iadd (pc' := 10) (v := v45) kc_12_9 rfl ev45 ?_
      obtain ⟨y46, s46, hy46, ry46⟩ := xj_set (v := v45) hy42 ry42 1 (by first | omega | decide) (by first | omega | decide)
      refine xi_iastore (pc' := 11) (x' := y46) kc_12_10 rfl A44 rfl (xi_in (by decide) (by rw [hy42]; decide)) s46 (fun hh46 eh46 => ?_)
      have K47 := xk_pa K41 (xk_wa rfl) xD_140 hy46 ry46 eh46
      refine xi_iload_n (pc' := 12) (x := (-1)) kc_12_11 rfl rfl ?_
      refine xi_ireturn kc_12_12 mr_12 rfl ?_
      show xw J ov 99 23 (24, [(0, .ref 115), (1, .int a24), (2, .int a26), (3, .int a28), (4, .int 0)], [.int (-1)], hh46) _
      refine xi_ireturn kc_23_24 mr_23 rfl ?_
      show xw J ov 100 195 (474, [(4, .int x4), (3, .ref 167), (2, .ref 115), (1, .ref 0), (0, .ref 1000000)], [.int (-1)], hh46) _
      refine xi_pop (pc' := 475) kc_195_474 rfl rfl ?_
      refine xi_goto (pc' := 1501) kc_195_475 rfl ?_
      obtain ⟨v48, ev48⟩ : ∃ q : Int32, x4 + 6 = q := ⟨_, rfl⟩
      have zv48 : v48.toInt = (x4.toInt + 6) := by rw [← ev48]; exact (xz_add (X := x4.toInt) (Y := 6) rfl (by decide) (by omega) (by omega)).trans (by omega)
      refine xi_iinc (pc' := 1504) (x := x4) (v := v48) (lv' := [(4, .int v48), (3, .ref 167), (2, .ref 115), (1, .ref 0), (0, .ref 1000000)]) kc_195_1501 rfl rfl ev48 rfl (xm_lt ml_195 rfl) ?_
      refine xi_goto (pc' := 23) kc_195_1504 rfl ?_
      have A49 := ((eh46.2.1 0 (by decide)).trans ((eh39.2.1 0 (by decide)).trans ((eh36.2.1 0 (by decide)).trans A3)))
      have A50 := ((eh46.2.1 115 (by decide)).trans eh39.1)
      have A51 := ((eh46.2.1 66 (by decide)).trans ((eh39.2.1 66 (by decide)).trans ((eh36.2.1 66 (by decide)).trans A20)))
      have A52 := ((eh46.2.1 71 (by decide)).trans ((eh39.2.1 71 (by decide)).trans ((eh36.2.1 71 (by decide)).trans A21)))
      have A53 := ((eh46.2.1 132 (by decide)).trans ((eh39.2.1 132 (by decide)).trans ((eh36.2.1 132 (by decide)).trans A22)))
      exact kk v48 hh46 (by omega) K47 ⟨(xGR_kept I.1 (fun c hc => ((eh46.2.1 c (Ne.symm (xk_nc hc rfl))).trans ((eh39.2.1 c (Ne.symm (xk_nc hc rfl))).trans (eh36.2.1 c (Ne.symm (xk_nc hc rfl)))))) ((eh46.2.1 125 (by decide)).trans ((eh39.2.1 125 (by decide)).trans (eh36.2.1 125 (by decide))))), ((xl_of A49 rfl).trans (xl_of A50 rfl).symm), ((xl_of A51 rfl).trans (xl_of A50 rfl).symm), ((xl_arr A52).trans (xl_arr A53).symm)⟩
    · refine xi_iff (pc' := 4) kc_104_1 rfl (xc_lt_f (X := a24.toInt) (Y := 0) rfl (by decide) (by omega)) ?_
      refine xi_iload_n (pc' := 5) (x := a24) kc_104_4 rfl rfl ?_
      refine xi_bipush (pc' := 7) (v := 12) kc_104_5 rfl rfl ?_
      by_cases c54 : 12 ≤ a24.toInt
      · refine xi_cmt (pc' := 14) kc_104_7 rfl (xc_ge_t (X := a24.toInt) (Y := 12) rfl (by decide) (by omega)) ?_
        refine xi_iconst (pc' := 15) (v := 0) kc_104_14 rfl rfl ?_
        refine xi_ireturn kc_104_15 mr_104 rfl ?_
        show xw J ov 99 103 (4, [(0, .ref 0), (1, .int a24), (2, .int a26), (3, .int a28), (4, .int 0)], [.int 0], h) _
        refine xi_ift (pc' := 14) kc_103_4 rfl rfl ?_
        refine xi_aload_n (pc' := 15) (x := 0) kc_103_14 rfl rfl ?_
        refine xi_iconst (pc' := 16) (v := (-1)) kc_103_15 rfl rfl ?_
        refine xi_virtual (mj := 90) (as := [.int (-1)]) (st1 := []) (lv0 := [(0, .ref 0), (1, .int (-1))]) kc_103_16 rfl rfl rfl rfl rfl A3 (Nat.le_of_ble_eq_true rfl) (hJ _ _ _ _ (by decide)) (xm_le ml_90 rfl) rfl ?_
        refine xi_iload_n (pc' := 1) (x := (-1)) kc_90_0 rfl rfl ?_
        refine xi_ineg (pc' := 2) (v := 1) kc_90_1 rfl rfl ?_
        refine xi_istore_n (pc' := 3) (lv' := [(2, .int 1), (0, .ref 0), (1, .int (-1))]) kc_90_2 rfl rfl (xm_lt ml_90 rfl) ?_
        refine xi_iload_n (pc' := 4) (x := 1) kc_90_3 rfl rfl ?_
        refine xi_iff (pc' := 7) kc_90_4 rfl rfl ?_
        refine xi_iload_n (pc' := 8) (x := 1) kc_90_7 rfl rfl ?_
        refine xi_aload_n (pc' := 9) (x := 0) kc_90_8 rfl rfl ?_
        refine xi_getfield (pc' := 12) (v := .ref 94) kc_90_9 rfl rfl rfl A3 rfl ?_
        obtain ⟨y55, A55, hy55, ry55⟩ := xk_arr K.1 xD_94
        refine xi_arraylength (pc' := 13) (n := 7) (v := 7) kc_90_12 rfl (xl_lenI (by decide) (by decide) A55 hy55) rfl ?_
        refine xi_cmf (pc' := 16) kc_90_13 rfl rfl ?_
        refine xi_aload_n (pc' := 17) (x := 0) kc_90_16 rfl rfl ?_
        refine xi_getfield (pc' := 20) (v := .ref 94) kc_90_17 rfl rfl rfl A3 rfl ?_
        refine xi_iload_n (pc' := 21) (x := 1) kc_90_20 rfl rfl ?_
        refine xi_dup2 (pc' := 22) kc_90_21 rfl ⟨rfl, rfl⟩ ?_
        obtain ⟨v56, ev56, bv56, dv56⟩ := xj_get hy55 ry55 (i := 1) (by decide) (by decide)
        refine xi_iaload (pc' := 23) (v := v56) kc_90_22 rfl A55 (by decide) rfl (xi_in (by decide) (by rw [hy55]; decide)) ev56 ?_
        refine xi_iconst (pc' := 24) (v := 1) kc_90_23 rfl rfl ?_
        obtain ⟨v57, ev57⟩ : ∃ q : Int32, (v56 : Int32) + 1 = q := ⟨_, rfl⟩
        have rv57 := xc_rng v57
        refine xi_iadd (pc' := 25) (v := v57) kc_90_24 rfl ev57 ?_
        obtain ⟨y58, s58, hy58, ry58⟩ := xj_set (v := v57) hy55 ry55 1 (by first | omega | decide) (by first | omega | decide)
        refine xi_iastore (pc' := 26) (x' := y58) kc_90_25 rfl A55 rfl (xi_in (by decide) (by rw [hy55]; decide)) s58 (fun hh58 eh58 => ?_)
        have K59 := xk_pa K (xk_wa rfl) xD_94 hy58 ry58 eh58
        refine xi_iload_n (pc' := 27) (x := (-1)) kc_90_26 rfl rfl ?_
        refine xi_ireturn kc_90_27 mr_90 rfl ?_
        show xw J ov 99 103 (19, [(0, .ref 0), (1, .int a24), (2, .int a26), (3, .int a28), (4, .int 0)], [.int (-1)], hh58) _
        refine xi_ireturn kc_103_19 mr_103 rfl ?_
        show xw J ov 100 195 (437, [(4, .int x4), (3, .ref 167), (2, .ref 115), (1, .ref 0), (0, .ref 1000000)], [.int (-1)], hh58) _
        refine xi_pop (pc' := 438) kc_195_437 rfl rfl ?_
        refine xi_aload_n (pc' := 439) (x := 115) kc_195_438 rfl rfl ?_
        refine xi_aload_n (pc' := 440) (x := 1000000) kc_195_439 rfl rfl ?_
        refine xi_iload (pc' := 442) (x := x4) kc_195_440 rfl rfl ?_
        refine xi_iconst (pc' := 443) (v := 1) kc_195_442 rfl rfl ?_
        refine xi_iadd (pc' := 444) (v := v23) kc_195_443 rfl ev23 ?_
        refine xi_ialoadO (pc' := 445) (v := a24) kc_195_444 rfl (by decide) hov0 (xi_in (by omega) (by omega)) ea24 ?_
        refine xi_aload_n (pc' := 446) (x := 1000000) kc_195_445 rfl rfl ?_
        refine xi_iload (pc' := 448) (x := x4) kc_195_446 rfl rfl ?_
        refine xi_iconst (pc' := 449) (v := 2) kc_195_448 rfl rfl ?_
        refine xi_iadd (pc' := 450) (v := v25) kc_195_449 rfl ev25 ?_
        refine xi_ialoadO (pc' := 451) (v := a26) kc_195_450 rfl (by decide) hov0 (xi_in (by omega) (by omega)) ea26 ?_
        refine xi_aload_n (pc' := 452) (x := 1000000) kc_195_451 rfl rfl ?_
        refine xi_iload (pc' := 454) (x := x4) kc_195_452 rfl rfl ?_
        refine xi_iconst (pc' := 455) (v := 3) kc_195_454 rfl rfl ?_
        refine xi_iadd (pc' := 456) (v := v27) kc_195_455 rfl ev27 ?_
        refine xi_ialoadO (pc' := 457) (v := a28) kc_195_456 rfl (by decide) hov0 (xi_in (by omega) (by omega)) ea28 ?_
        refine xi_aload_n (pc' := 458) (x := 1000000) kc_195_457 rfl rfl ?_
        refine xi_iload (pc' := 460) (x := x4) kc_195_458 rfl rfl ?_
        refine xi_iconst (pc' := 461) (v := 4) kc_195_460 rfl rfl ?_
        refine xi_iadd (pc' := 462) (v := v29) kc_195_461 rfl ev29 ?_
        refine xi_ialoadO (pc' := 463) (v := a30) kc_195_462 rfl (by decide) hov0 (xi_in (by omega) (by omega)) ea30 ?_
        refine xi_ift (pc' := 470) kc_195_463 rfl (xc_eq_t (X := a30.toInt) (Y := 0) rfl (by decide) (by omega)) ?_
        refine xi_iconst (pc' := 471) (v := 0) kc_195_470 rfl rfl ?_
        have A60 := ((eh58.2.1 115 (by decide)).trans A17)
        refine xi_virtual (mj := 23) (as := [.int a24, .int a26, .int a28, .int 0]) (st1 := []) (lv0 := [(0, .ref 115), (1, .int a24), (2, .int a26), (3, .int a28), (4, .int 0)]) kc_195_471 rfl rfl rfl rfl rfl A60 (Nat.le_of_ble_eq_true rfl) (hJ _ _ _ _ (by decide)) (xm_le ml_23 rfl) rfl ?_
        refine xi_aload_n (pc' := 1) (x := 115) kc_23_0 rfl rfl ?_
        refine xi_iconst (pc' := 2) (v := 0) kc_23_1 rfl rfl ?_
        refine xi_putfield (pc' := 5) (fs' := [.int 0, .int u2, .ref 116, .ref 117, .ref 118, .ref 119, .ref 120, .ref 121, .ref 122, .ref 123, .ref 124, .ref 125, .ref 126, .ref 127, .ref 128, .ref 129, .int u6, .ref 130, .int u19, .ref 131, .ref 132, .ref 133, .ref 134, .int u8, .ref 135, .ref 136, .ref 137, .ref 138, .ref 139, .ref 140, .ref 141, .ref 142, .int u9, .int u10, .int u11, .ref 143, .ref 144, .ref 145, .ref 146, .ref 147, .ref 148, .int u12, .ref 149, .ref 150, .ref 151, .int u13, .ref 152, .ref 153, .ref 154, .ref 155, .ref 156, .ref 157, .ref 158, .ref 159, .int u14, .ref 160, .int u15, .ref 161, .ref 162, .ref 163, .ref 164, .int u16, .ref 165, .ref 166]) kc_23_2 rfl rfl rfl A60 rfl rfl rfl (Nat.le_of_ble_eq_true rfl) rfl (fun hh62 eh61 => ?_)
        have K63 := xk_pf (k := 0) (v := 0) K59 (xk_wf rfl) xD_115 A60 rfl (by first | omega | decide) (by first | omega | decide) eh61 rfl
        refine xi_iload_n (pc' := 6) (x := a24) kc_23_5 rfl rfl ?_
        refine xi_static (mj := 24) (as := [.int a24]) (st1 := []) (lv0 := [(0, .int a24)]) kc_23_6 rfl rfl (Nat.le_of_ble_eq_true rfl) rfl rfl (Nat.le_of_ble_eq_true rfl) (hJ _ _ _ _ (by decide)) (xm_le ml_24 rfl) rfl ?_
        refine xi_iload_n (pc' := 1) (x := a24) kc_24_0 rfl rfl ?_
        refine xi_iconst (pc' := 2) (v := 0) kc_24_1 rfl rfl ?_
        refine xi_bipush (pc' := 4) (v := 11) kc_24_2 rfl rfl ?_
        refine xi_static (mj := 11) (as := [.int a24, .int 0, .int 11]) (st1 := []) (lv0 := [(0, .int a24), (1, .int 0), (2, .int 11)]) kc_24_4 rfl rfl (Nat.le_of_ble_eq_true rfl) rfl rfl (Nat.le_of_ble_eq_true rfl) (hJ _ _ _ _ (by decide)) (xm_le ml_11 rfl) rfl ?_
        refine xi_iload_n (pc' := 1) (x := a24) kc_11_0 rfl rfl ?_
        refine xi_iload_n (pc' := 2) (x := 0) kc_11_1 rfl rfl ?_
        refine xi_cmf (pc' := 5) kc_11_2 rfl (xc_lt_f (X := a24.toInt) (Y := 0) rfl (by decide) (by omega)) ?_
        refine xi_iload_n (pc' := 6) (x := a24) kc_11_5 rfl rfl ?_
        refine xi_iload_n (pc' := 7) (x := 11) kc_11_6 rfl rfl ?_
        refine xi_cmt (pc' := 14) kc_11_7 rfl (xc_gt_t (X := a24.toInt) (Y := 11) rfl (by decide) (by omega)) ?_
        refine xi_iconst (pc' := 15) (v := 0) kc_11_14 rfl rfl ?_
        refine xi_ireturn kc_11_15 mr_11 rfl ?_
        show xw J ov 98 24 (7, [(0, .int a24)], [.int 0], hh62) _
        refine xi_ireturn kc_24_7 mr_24 rfl ?_
        show xw J ov 99 23 (9, [(0, .ref 115), (1, .int a24), (2, .int a26), (3, .int a28), (4, .int 0)], [.int 0], hh62) _
        refine xi_ift (pc' := 19) kc_23_9 rfl rfl ?_
        refine xi_aload_n (pc' := 20) (x := 115) kc_23_19 rfl rfl ?_
        refine xi_iconst (pc' := 21) (v := (-1)) kc_23_20 rfl rfl ?_
        refine xi_virtual (mj := 12) (as := [.int (-1)]) (st1 := []) (lv0 := [(0, .ref 115), (1, .int (-1))]) kc_23_21 rfl rfl rfl rfl rfl eh61.1 (Nat.le_of_ble_eq_true rfl) (hJ _ _ _ _ (by decide)) (xm_le ml_12 rfl) rfl ?_
        refine xi_aload_n (pc' := 1) (x := 115) kc_12_0 rfl rfl ?_
        refine xi_getfield (pc' := 4) (v := .ref 140) kc_12_1 rfl rfl rfl eh61.1 rfl ?_
        refine xi_iload_n (pc' := 5) (x := (-1)) kc_12_4 rfl rfl ?_
        refine xi_ineg (pc' := 6) (v := 1) kc_12_5 rfl rfl ?_
        refine xi_dup2 (pc' := 7) kc_12_6 rfl ⟨rfl, rfl⟩ ?_
        obtain ⟨y64, A64, hy64, ry64⟩ := xk_arr K.1 xD_140
        obtain ⟨v65, ev65, bv65, dv65⟩ := xj_get hy64 ry64 (i := 1) (by decide) (by decide)
        have A66 := ((eh61.2.1 140 (by decide)).trans ((eh58.2.1 140 (by decide)).trans A64))
        refine xi_iaload (pc' := 8) (v := v65) kc_12_7 rfl A66 (by decide) rfl (xi_in (by decide) (by rw [hy64]; decide)) ev65 ?_
        refine xi_iconst (pc' := 9) (v := 1) kc_12_8 rfl rfl ?_
        obtain ⟨v67, ev67⟩ : ∃ q : Int32, (v65 : Int32) + 1 = q := ⟨_, rfl⟩
        have rv67 := xc_rng v67
        refine xi_iadd (pc' := 10) (v := v67) kc_12_9 rfl ev67 ?_
        obtain ⟨y68, s68, hy68, ry68⟩ := xj_set (v := v67) hy64 ry64 1 (by first | omega | decide) (by first | omega | decide)
        refine xi_iastore (pc' := 11) (x' := y68) kc_12_10 rfl A66 rfl (xi_in (by decide) (by rw [hy64]; decide)) s68 (fun hh68 eh68 => ?_)
        have K69 := xk_pa K63 (xk_wa rfl) xD_140 hy68 ry68 eh68
        refine xi_iload_n (pc' := 12) (x := (-1)) kc_12_11 rfl rfl ?_
        refine xi_ireturn kc_12_12 mr_12 rfl ?_
        show xw J ov 99 23 (24, [(0, .ref 115), (1, .int a24), (2, .int a26), (3, .int a28), (4, .int 0)], [.int (-1)], hh68) _
        refine xi_ireturn kc_23_24 mr_23 rfl ?_
        show xw J ov 100 195 (474, [(4, .int x4), (3, .ref 167), (2, .ref 115), (1, .ref 0), (0, .ref 1000000)], [.int (-1)], hh68) _
        refine xi_pop (pc' := 475) kc_195_474 rfl rfl ?_
        refine xi_goto (pc' := 1501) kc_195_475 rfl ?_
        obtain ⟨v70, ev70⟩ : ∃ q : Int32, x4 + 6 = q := ⟨_, rfl⟩
        have zv70 : v70.toInt = (x4.toInt + 6) := by rw [← ev70]; exact (xz_add (X := x4.toInt) (Y := 6) rfl (by decide) (by omega) (by omega)).trans (by omega)
        refine xi_iinc (pc' := 1504) (x := x4) (v := v70) (lv' := [(4, .int v70), (3, .ref 167), (2, .ref 115), (1, .ref 0), (0, .ref 1000000)]) kc_195_1501 rfl rfl ev70 rfl (xm_lt ml_195 rfl) ?_
        refine xi_goto (pc' := 23) kc_195_1504 rfl ?_
        have A71 := ((eh68.2.1 0 (by decide)).trans ((eh61.2.1 0 (by decide)).trans ((eh58.2.1 0 (by decide)).trans A3)))
        have A72 := ((eh68.2.1 115 (by decide)).trans eh61.1)
        have A73 := ((eh68.2.1 66 (by decide)).trans ((eh61.2.1 66 (by decide)).trans ((eh58.2.1 66 (by decide)).trans A20)))
        have A74 := ((eh68.2.1 71 (by decide)).trans ((eh61.2.1 71 (by decide)).trans ((eh58.2.1 71 (by decide)).trans A21)))
        have A75 := ((eh68.2.1 132 (by decide)).trans ((eh61.2.1 132 (by decide)).trans ((eh58.2.1 132 (by decide)).trans A22)))
        exact kk v70 hh68 (by omega) K69 ⟨(xGR_kept I.1 (fun c hc => ((eh68.2.1 c (Ne.symm (xk_nc hc rfl))).trans ((eh61.2.1 c (Ne.symm (xk_nc hc rfl))).trans (eh58.2.1 c (Ne.symm (xk_nc hc rfl)))))) ((eh68.2.1 125 (by decide)).trans ((eh61.2.1 125 (by decide)).trans (eh58.2.1 125 (by decide))))), ((xl_of A71 rfl).trans (xl_of A72 rfl).symm), ((xl_of A73 rfl).trans (xl_of A72 rfl).symm), ((xl_arr A74).trans (xl_arr A75).symm)⟩
      · refine xi_cmf (pc' := 10) kc_104_7 rfl (xc_ge_f (X := a24.toInt) (Y := 12) rfl (by decide) (by omega)) ?_
        refine xi_iconst (pc' := 11) (v := 1) kc_104_10 rfl rfl ?_
        refine xi_goto (pc' := 15) kc_104_11 rfl ?_
        refine xi_ireturn kc_104_15 mr_104 rfl ?_
        show xw J ov 99 103 (4, [(0, .ref 0), (1, .int a24), (2, .int a26), (3, .int a28), (4, .int 0)], [.int 1], h) _
        refine xi_iff (pc' := 7) kc_103_4 rfl rfl ?_
        refine xi_iload_n (pc' := 8) (x := a26) kc_103_7 rfl rfl ?_
        refine xi_static (mj := 89) (as := [.int a26]) (st1 := []) (lv0 := [(0, .int a26)]) kc_103_8 rfl rfl (Nat.le_of_ble_eq_true rfl) rfl rfl (Nat.le_of_ble_eq_true rfl) (hJ _ _ _ _ (by decide)) (xm_le ml_89 rfl) rfl ?_
        refine xi_iload_n (pc' := 1) (x := a26) kc_89_0 rfl rfl ?_
        by_cases c76 : a26.toInt < 0
        · refine xi_ift (pc' := 14) kc_89_1 rfl (xc_lt_t (X := a26.toInt) (Y := 0) rfl (by decide) (by omega)) ?_
          refine xi_iconst (pc' := 15) (v := 0) kc_89_14 rfl rfl ?_
          refine xi_ireturn kc_89_15 mr_89 rfl ?_
          show xw J ov 99 103 (11, [(0, .ref 0), (1, .int a24), (2, .int a26), (3, .int a28), (4, .int 0)], [.int 0], h) _
          refine xi_iff (pc' := 14) kc_103_11 rfl rfl ?_
          refine xi_aload_n (pc' := 15) (x := 0) kc_103_14 rfl rfl ?_
          refine xi_iconst (pc' := 16) (v := (-1)) kc_103_15 rfl rfl ?_
          refine xi_virtual (mj := 90) (as := [.int (-1)]) (st1 := []) (lv0 := [(0, .ref 0), (1, .int (-1))]) kc_103_16 rfl rfl rfl rfl rfl A3 (Nat.le_of_ble_eq_true rfl) (hJ _ _ _ _ (by decide)) (xm_le ml_90 rfl) rfl ?_
          refine xi_iload_n (pc' := 1) (x := (-1)) kc_90_0 rfl rfl ?_
          refine xi_ineg (pc' := 2) (v := 1) kc_90_1 rfl rfl ?_
          refine xi_istore_n (pc' := 3) (lv' := [(2, .int 1), (0, .ref 0), (1, .int (-1))]) kc_90_2 rfl rfl (xm_lt ml_90 rfl) ?_
          refine xi_iload_n (pc' := 4) (x := 1) kc_90_3 rfl rfl ?_
          refine xi_iff (pc' := 7) kc_90_4 rfl rfl ?_
          refine xi_iload_n (pc' := 8) (x := 1) kc_90_7 rfl rfl ?_
          refine xi_aload_n (pc' := 9) (x := 0) kc_90_8 rfl rfl ?_
          refine xi_getfield (pc' := 12) (v := .ref 94) kc_90_9 rfl rfl rfl A3 rfl ?_
          obtain ⟨y77, A77, hy77, ry77⟩ := xk_arr K.1 xD_94
          refine xi_arraylength (pc' := 13) (n := 7) (v := 7) kc_90_12 rfl (xl_lenI (by decide) (by decide) A77 hy77) rfl ?_
          refine xi_cmf (pc' := 16) kc_90_13 rfl rfl ?_
          refine xi_aload_n (pc' := 17) (x := 0) kc_90_16 rfl rfl ?_
          refine xi_getfield (pc' := 20) (v := .ref 94) kc_90_17 rfl rfl rfl A3 rfl ?_
          refine xi_iload_n (pc' := 21) (x := 1) kc_90_20 rfl rfl ?_
          refine xi_dup2 (pc' := 22) kc_90_21 rfl ⟨rfl, rfl⟩ ?_
          obtain ⟨v78, ev78, bv78, dv78⟩ := xj_get hy77 ry77 (i := 1) (by decide) (by decide)
          refine xi_iaload (pc' := 23) (v := v78) kc_90_22 rfl A77 (by decide) rfl (xi_in (by decide) (by rw [hy77]; decide)) ev78 ?_
          refine xi_iconst (pc' := 24) (v := 1) kc_90_23 rfl rfl ?_
          obtain ⟨v79, ev79⟩ : ∃ q : Int32, (v78 : Int32) + 1 = q := ⟨_, rfl⟩
          have rv79 := xc_rng v79
          refine xi_iadd (pc' := 25) (v := v79) kc_90_24 rfl ev79 ?_
          obtain ⟨y80, s80, hy80, ry80⟩ := xj_set (v := v79) hy77 ry77 1 (by first | omega | decide) (by first | omega | decide)
          refine xi_iastore (pc' := 26) (x' := y80) kc_90_25 rfl A77 rfl (xi_in (by decide) (by rw [hy77]; decide)) s80 (fun hh80 eh80 => ?_)
          have K81 := xk_pa K (xk_wa rfl) xD_94 hy80 ry80 eh80
          refine xi_iload_n (pc' := 27) (x := (-1)) kc_90_26 rfl rfl ?_
          refine xi_ireturn kc_90_27 mr_90 rfl ?_
          show xw J ov 99 103 (19, [(0, .ref 0), (1, .int a24), (2, .int a26), (3, .int a28), (4, .int 0)], [.int (-1)], hh80) _
          refine xi_ireturn kc_103_19 mr_103 rfl ?_
          show xw J ov 100 195 (437, [(4, .int x4), (3, .ref 167), (2, .ref 115), (1, .ref 0), (0, .ref 1000000)], [.int (-1)], hh80) _
          refine xi_pop (pc' := 438) kc_195_437 rfl rfl ?_
          refine xi_aload_n (pc' := 439) (x := 115) kc_195_438 rfl rfl ?_
          refine xi_aload_n (pc' := 440) (x := 1000000) kc_195_439 rfl rfl ?_
          refine xi_iload (pc' := 442) (x := x4) kc_195_440 rfl rfl ?_
          refine xi_iconst (pc' := 443) (v := 1) kc_195_442 rfl rfl ?_
          refine xi_iadd (pc' := 444) (v := v23) kc_195_443 rfl ev23 ?_
          refine xi_ialoadO (pc' := 445) (v := a24) kc_195_444 rfl (by decide) hov0 (xi_in (by omega) (by omega)) ea24 ?_
          refine xi_aload_n (pc' := 446) (x := 1000000) kc_195_445 rfl rfl ?_
          refine xi_iload (pc' := 448) (x := x4) kc_195_446 rfl rfl ?_
          refine xi_iconst (pc' := 449) (v := 2) kc_195_448 rfl rfl ?_
          refine xi_iadd (pc' := 450) (v := v25) kc_195_449 rfl ev25 ?_
          refine xi_ialoadO (pc' := 451) (v := a26) kc_195_450 rfl (by decide) hov0 (xi_in (by omega) (by omega)) ea26 ?_
          refine xi_aload_n (pc' := 452) (x := 1000000) kc_195_451 rfl rfl ?_
          refine xi_iload (pc' := 454) (x := x4) kc_195_452 rfl rfl ?_
          refine xi_iconst (pc' := 455) (v := 3) kc_195_454 rfl rfl ?_
          refine xi_iadd (pc' := 456) (v := v27) kc_195_455 rfl ev27 ?_
          refine xi_ialoadO (pc' := 457) (v := a28) kc_195_456 rfl (by decide) hov0 (xi_in (by omega) (by omega)) ea28 ?_
          refine xi_aload_n (pc' := 458) (x := 1000000) kc_195_457 rfl rfl ?_
          refine xi_iload (pc' := 460) (x := x4) kc_195_458 rfl rfl ?_
          refine xi_iconst (pc' := 461) (v := 4) kc_195_460 rfl rfl ?_
          refine xi_iadd (pc' := 462) (v := v29) kc_195_461 rfl ev29 ?_
          refine xi_ialoadO (pc' := 463) (v := a30) kc_195_462 rfl (by decide) hov0 (xi_in (by omega) (by omega)) ea30 ?_
          refine xi_ift (pc' := 470) kc_195_463 rfl (xc_eq_t (X := a30.toInt) (Y := 0) rfl (by decide) (by omega)) ?_
          refine xi_iconst (pc' := 471) (v := 0) kc_195_470 rfl rfl ?_
          have A82 := ((eh80.2.1 115 (by decide)).trans A17)
          refine xi_virtual (mj := 23) (as := [.int a24, .int a26, .int a28, .int 0]) (st1 := []) (lv0 := [(0, .ref 115), (1, .int a24), (2, .int a26), (3, .int a28), (4, .int 0)]) kc_195_471 rfl rfl rfl rfl rfl A82 (Nat.le_of_ble_eq_true rfl) (hJ _ _ _ _ (by decide)) (xm_le ml_23 rfl) rfl ?_
          refine xi_aload_n (pc' := 1) (x := 115) kc_23_0 rfl rfl ?_
          refine xi_iconst (pc' := 2) (v := 0) kc_23_1 rfl rfl ?_
          refine xi_putfield (pc' := 5) (fs' := [.int 0, .int u2, .ref 116, .ref 117, .ref 118, .ref 119, .ref 120, .ref 121, .ref 122, .ref 123, .ref 124, .ref 125, .ref 126, .ref 127, .ref 128, .ref 129, .int u6, .ref 130, .int u19, .ref 131, .ref 132, .ref 133, .ref 134, .int u8, .ref 135, .ref 136, .ref 137, .ref 138, .ref 139, .ref 140, .ref 141, .ref 142, .int u9, .int u10, .int u11, .ref 143, .ref 144, .ref 145, .ref 146, .ref 147, .ref 148, .int u12, .ref 149, .ref 150, .ref 151, .int u13, .ref 152, .ref 153, .ref 154, .ref 155, .ref 156, .ref 157, .ref 158, .ref 159, .int u14, .ref 160, .int u15, .ref 161, .ref 162, .ref 163, .ref 164, .int u16, .ref 165, .ref 166]) kc_23_2 rfl rfl rfl A82 rfl rfl rfl (Nat.le_of_ble_eq_true rfl) rfl (fun hh84 eh83 => ?_)
          have K85 := xk_pf (k := 0) (v := 0) K81 (xk_wf rfl) xD_115 A82 rfl (by first | omega | decide) (by first | omega | decide) eh83 rfl
          refine xi_iload_n (pc' := 6) (x := a24) kc_23_5 rfl rfl ?_
          refine xi_static (mj := 24) (as := [.int a24]) (st1 := []) (lv0 := [(0, .int a24)]) kc_23_6 rfl rfl (Nat.le_of_ble_eq_true rfl) rfl rfl (Nat.le_of_ble_eq_true rfl) (hJ _ _ _ _ (by decide)) (xm_le ml_24 rfl) rfl ?_
          refine xi_iload_n (pc' := 1) (x := a24) kc_24_0 rfl rfl ?_
          refine xi_iconst (pc' := 2) (v := 0) kc_24_1 rfl rfl ?_
          refine xi_bipush (pc' := 4) (v := 11) kc_24_2 rfl rfl ?_
          refine xi_static (mj := 11) (as := [.int a24, .int 0, .int 11]) (st1 := []) (lv0 := [(0, .int a24), (1, .int 0), (2, .int 11)]) kc_24_4 rfl rfl (Nat.le_of_ble_eq_true rfl) rfl rfl (Nat.le_of_ble_eq_true rfl) (hJ _ _ _ _ (by decide)) (xm_le ml_11 rfl) rfl ?_
          refine xi_iload_n (pc' := 1) (x := a24) kc_11_0 rfl rfl ?_
          refine xi_iload_n (pc' := 2) (x := 0) kc_11_1 rfl rfl ?_
          refine xi_cmf (pc' := 5) kc_11_2 rfl (xc_lt_f (X := a24.toInt) (Y := 0) rfl (by decide) (by omega)) ?_
          refine xi_iload_n (pc' := 6) (x := a24) kc_11_5 rfl rfl ?_
          refine xi_iload_n (pc' := 7) (x := 11) kc_11_6 rfl rfl ?_
          refine xi_cmf (pc' := 10) kc_11_7 rfl (xc_gt_f (X := a24.toInt) (Y := 11) rfl (by decide) (by omega)) ?_
          refine xi_iconst (pc' := 11) (v := 1) kc_11_10 rfl rfl ?_
          refine xi_goto (pc' := 15) kc_11_11 rfl ?_
          refine xi_ireturn kc_11_15 mr_11 rfl ?_
          show xw J ov 98 24 (7, [(0, .int a24)], [.int 1], hh84) _
          refine xi_ireturn kc_24_7 mr_24 rfl ?_
          show xw J ov 99 23 (9, [(0, .ref 115), (1, .int a24), (2, .int a26), (3, .int a28), (4, .int 0)], [.int 1], hh84) _
          refine xi_iff (pc' := 12) kc_23_9 rfl rfl ?_
          refine xi_iload_n (pc' := 13) (x := a26) kc_23_12 rfl rfl ?_
          refine xi_static (mj := 10) (as := [.int a26]) (st1 := []) (lv0 := [(0, .int a26)]) kc_23_13 rfl rfl (Nat.le_of_ble_eq_true rfl) rfl rfl (Nat.le_of_ble_eq_true rfl) (hJ _ _ _ _ (by decide)) (xm_le ml_10 rfl) rfl ?_
          refine xi_iload_n (pc' := 1) (x := a26) kc_10_0 rfl rfl ?_
          refine xi_iconst (pc' := 2) (v := 0) kc_10_1 rfl rfl ?_
          refine xi_iconst (pc' := 3) (v := 5) kc_10_2 rfl rfl ?_
          refine xi_static (mj := 11) (as := [.int a26, .int 0, .int 5]) (st1 := []) (lv0 := [(0, .int a26), (1, .int 0), (2, .int 5)]) kc_10_3 rfl rfl (Nat.le_of_ble_eq_true rfl) rfl rfl (Nat.le_of_ble_eq_true rfl) (hJ _ _ _ _ (by decide)) (xm_le ml_11 rfl) rfl ?_
          refine xi_iload_n (pc' := 1) (x := a26) kc_11_0 rfl rfl ?_
          refine xi_iload_n (pc' := 2) (x := 0) kc_11_1 rfl rfl ?_
          refine xi_cmt (pc' := 14) kc_11_2 rfl (xc_lt_t (X := a26.toInt) (Y := 0) rfl (by decide) (by omega)) ?_
          refine xi_iconst (pc' := 15) (v := 0) kc_11_14 rfl rfl ?_
          refine xi_ireturn kc_11_15 mr_11 rfl ?_
          show xw J ov 98 10 (6, [(0, .int a26)], [.int 0], hh84) _
          refine xi_ireturn kc_10_6 mr_10 rfl ?_
          show xw J ov 99 23 (16, [(0, .ref 115), (1, .int a24), (2, .int a26), (3, .int a28), (4, .int 0)], [.int 0], hh84) _
          refine xi_iff (pc' := 19) kc_23_16 rfl rfl ?_
          refine xi_aload_n (pc' := 20) (x := 115) kc_23_19 rfl rfl ?_
          refine xi_iconst (pc' := 21) (v := (-1)) kc_23_20 rfl rfl ?_
          refine xi_virtual (mj := 12) (as := [.int (-1)]) (st1 := []) (lv0 := [(0, .ref 115), (1, .int (-1))]) kc_23_21 rfl rfl rfl rfl rfl eh83.1 (Nat.le_of_ble_eq_true rfl) (hJ _ _ _ _ (by decide)) (xm_le ml_12 rfl) rfl ?_
          refine xi_aload_n (pc' := 1) (x := 115) kc_12_0 rfl rfl ?_
          refine xi_getfield (pc' := 4) (v := .ref 140) kc_12_1 rfl rfl rfl eh83.1 rfl ?_
          refine xi_iload_n (pc' := 5) (x := (-1)) kc_12_4 rfl rfl ?_
          refine xi_ineg (pc' := 6) (v := 1) kc_12_5 rfl rfl ?_
          refine xi_dup2 (pc' := 7) kc_12_6 rfl ⟨rfl, rfl⟩ ?_
          obtain ⟨y86, A86, hy86, ry86⟩ := xk_arr K.1 xD_140
          obtain ⟨v87, ev87, bv87, dv87⟩ := xj_get hy86 ry86 (i := 1) (by decide) (by decide)
          have A88 := ((eh83.2.1 140 (by decide)).trans ((eh80.2.1 140 (by decide)).trans A86))
          refine xi_iaload (pc' := 8) (v := v87) kc_12_7 rfl A88 (by decide) rfl (xi_in (by decide) (by rw [hy86]; decide)) ev87 ?_
          refine xi_iconst (pc' := 9) (v := 1) kc_12_8 rfl rfl ?_
          obtain ⟨v89, ev89⟩ : ∃ q : Int32, (v87 : Int32) + 1 = q := ⟨_, rfl⟩
          have rv89 := xc_rng v89
          refine xi_iadd (pc' := 10) (v := v89) kc_12_9 rfl ev89 ?_
          obtain ⟨y90, s90, hy90, ry90⟩ := xj_set (v := v89) hy86 ry86 1 (by first | omega | decide) (by first | omega | decide)
          refine xi_iastore (pc' := 11) (x' := y90) kc_12_10 rfl A88 rfl (xi_in (by decide) (by rw [hy86]; decide)) s90 (fun hh90 eh90 => ?_)
          have K91 := xk_pa K85 (xk_wa rfl) xD_140 hy90 ry90 eh90
          refine xi_iload_n (pc' := 12) (x := (-1)) kc_12_11 rfl rfl ?_
          refine xi_ireturn kc_12_12 mr_12 rfl ?_
          show xw J ov 99 23 (24, [(0, .ref 115), (1, .int a24), (2, .int a26), (3, .int a28), (4, .int 0)], [.int (-1)], hh90) _
          refine xi_ireturn kc_23_24 mr_23 rfl ?_
          show xw J ov 100 195 (474, [(4, .int x4), (3, .ref 167), (2, .ref 115), (1, .ref 0), (0, .ref 1000000)], [.int (-1)], hh90) _
          refine xi_pop (pc' := 475) kc_195_474 rfl rfl ?_
          refine xi_goto (pc' := 1501) kc_195_475 rfl ?_
          obtain ⟨v92, ev92⟩ : ∃ q : Int32, x4 + 6 = q := ⟨_, rfl⟩
          have zv92 : v92.toInt = (x4.toInt + 6) := by rw [← ev92]; exact (xz_add (X := x4.toInt) (Y := 6) rfl (by decide) (by omega) (by omega)).trans (by omega)
          refine xi_iinc (pc' := 1504) (x := x4) (v := v92) (lv' := [(4, .int v92), (3, .ref 167), (2, .ref 115), (1, .ref 0), (0, .ref 1000000)]) kc_195_1501 rfl rfl ev92 rfl (xm_lt ml_195 rfl) ?_
          refine xi_goto (pc' := 23) kc_195_1504 rfl ?_
          have A93 := ((eh90.2.1 0 (by decide)).trans ((eh83.2.1 0 (by decide)).trans ((eh80.2.1 0 (by decide)).trans A3)))
          have A94 := ((eh90.2.1 115 (by decide)).trans eh83.1)
          have A95 := ((eh90.2.1 66 (by decide)).trans ((eh83.2.1 66 (by decide)).trans ((eh80.2.1 66 (by decide)).trans A20)))
          have A96 := ((eh90.2.1 71 (by decide)).trans ((eh83.2.1 71 (by decide)).trans ((eh80.2.1 71 (by decide)).trans A21)))
          have A97 := ((eh90.2.1 132 (by decide)).trans ((eh83.2.1 132 (by decide)).trans ((eh80.2.1 132 (by decide)).trans A22)))
          exact kk v92 hh90 (by omega) K91 ⟨(xGR_kept I.1 (fun c hc => ((eh90.2.1 c (Ne.symm (xk_nc hc rfl))).trans ((eh83.2.1 c (Ne.symm (xk_nc hc rfl))).trans (eh80.2.1 c (Ne.symm (xk_nc hc rfl)))))) ((eh90.2.1 125 (by decide)).trans ((eh83.2.1 125 (by decide)).trans (eh80.2.1 125 (by decide))))), ((xl_of A93 rfl).trans (xl_of A94 rfl).symm), ((xl_of A95 rfl).trans (xl_of A94 rfl).symm), ((xl_arr A96).trans (xl_arr A97).symm)⟩
        · refine xi_iff (pc' := 4) kc_89_1 rfl (xc_lt_f (X := a26.toInt) (Y := 0) rfl (by decide) (by omega)) ?_
          refine xi_iload_n (pc' := 5) (x := a26) kc_89_4 rfl rfl ?_
          refine xi_bipush (pc' := 7) (v := 6) kc_89_5 rfl rfl ?_
          by_cases c98 : 6 ≤ a26.toInt
          · refine xi_cmt (pc' := 14) kc_89_7 rfl (xc_ge_t (X := a26.toInt) (Y := 6) rfl (by decide) (by omega)) ?_
            refine xi_iconst (pc' := 15) (v := 0) kc_89_14 rfl rfl ?_
            refine xi_ireturn kc_89_15 mr_89 rfl ?_
            show xw J ov 99 103 (11, [(0, .ref 0), (1, .int a24), (2, .int a26), (3, .int a28), (4, .int 0)], [.int 0], h) _
            refine xi_iff (pc' := 14) kc_103_11 rfl rfl ?_
            refine xi_aload_n (pc' := 15) (x := 0) kc_103_14 rfl rfl ?_
            refine xi_iconst (pc' := 16) (v := (-1)) kc_103_15 rfl rfl ?_
            refine xi_virtual (mj := 90) (as := [.int (-1)]) (st1 := []) (lv0 := [(0, .ref 0), (1, .int (-1))]) kc_103_16 rfl rfl rfl rfl rfl A3 (Nat.le_of_ble_eq_true rfl) (hJ _ _ _ _ (by decide)) (xm_le ml_90 rfl) rfl ?_
            refine xi_iload_n (pc' := 1) (x := (-1)) kc_90_0 rfl rfl ?_
            refine xi_ineg (pc' := 2) (v := 1) kc_90_1 rfl rfl ?_
            refine xi_istore_n (pc' := 3) (lv' := [(2, .int 1), (0, .ref 0), (1, .int (-1))]) kc_90_2 rfl rfl (xm_lt ml_90 rfl) ?_
            refine xi_iload_n (pc' := 4) (x := 1) kc_90_3 rfl rfl ?_
            refine xi_iff (pc' := 7) kc_90_4 rfl rfl ?_
            refine xi_iload_n (pc' := 8) (x := 1) kc_90_7 rfl rfl ?_
            refine xi_aload_n (pc' := 9) (x := 0) kc_90_8 rfl rfl ?_
            refine xi_getfield (pc' := 12) (v := .ref 94) kc_90_9 rfl rfl rfl A3 rfl ?_
            obtain ⟨y99, A99, hy99, ry99⟩ := xk_arr K.1 xD_94
            refine xi_arraylength (pc' := 13) (n := 7) (v := 7) kc_90_12 rfl (xl_lenI (by decide) (by decide) A99 hy99) rfl ?_
            refine xi_cmf (pc' := 16) kc_90_13 rfl rfl ?_
            refine xi_aload_n (pc' := 17) (x := 0) kc_90_16 rfl rfl ?_
            refine xi_getfield (pc' := 20) (v := .ref 94) kc_90_17 rfl rfl rfl A3 rfl ?_
            refine xi_iload_n (pc' := 21) (x := 1) kc_90_20 rfl rfl ?_
            refine xi_dup2 (pc' := 22) kc_90_21 rfl ⟨rfl, rfl⟩ ?_
            obtain ⟨v100, ev100, bv100, dv100⟩ := xj_get hy99 ry99 (i := 1) (by decide) (by decide)
            refine xi_iaload (pc' := 23) (v := v100) kc_90_22 rfl A99 (by decide) rfl (xi_in (by decide) (by rw [hy99]; decide)) ev100 ?_
            refine xi_iconst (pc' := 24) (v := 1) kc_90_23 rfl rfl ?_
            obtain ⟨v101, ev101⟩ : ∃ q : Int32, (v100 : Int32) + 1 = q := ⟨_, rfl⟩
            have rv101 := xc_rng v101
            refine xi_iadd (pc' := 25) (v := v101) kc_90_24 rfl ev101 ?_
            obtain ⟨y102, s102, hy102, ry102⟩ := xj_set (v := v101) hy99 ry99 1 (by first | omega | decide) (by first | omega | decide)
            refine xi_iastore (pc' := 26) (x' := y102) kc_90_25 rfl A99 rfl (xi_in (by decide) (by rw [hy99]; decide)) s102 (fun hh102 eh102 => ?_)
            have K103 := xk_pa K (xk_wa rfl) xD_94 hy102 ry102 eh102
            refine xi_iload_n (pc' := 27) (x := (-1)) kc_90_26 rfl rfl ?_
            refine xi_ireturn kc_90_27 mr_90 rfl ?_
            show xw J ov 99 103 (19, [(0, .ref 0), (1, .int a24), (2, .int a26), (3, .int a28), (4, .int 0)], [.int (-1)], hh102) _
            refine xi_ireturn kc_103_19 mr_103 rfl ?_
            show xw J ov 100 195 (437, [(4, .int x4), (3, .ref 167), (2, .ref 115), (1, .ref 0), (0, .ref 1000000)], [.int (-1)], hh102) _
            refine xi_pop (pc' := 438) kc_195_437 rfl rfl ?_
            refine xi_aload_n (pc' := 439) (x := 115) kc_195_438 rfl rfl ?_
            refine xi_aload_n (pc' := 440) (x := 1000000) kc_195_439 rfl rfl ?_
            refine xi_iload (pc' := 442) (x := x4) kc_195_440 rfl rfl ?_
            refine xi_iconst (pc' := 443) (v := 1) kc_195_442 rfl rfl ?_
            refine xi_iadd (pc' := 444) (v := v23) kc_195_443 rfl ev23 ?_
            refine xi_ialoadO (pc' := 445) (v := a24) kc_195_444 rfl (by decide) hov0 (xi_in (by omega) (by omega)) ea24 ?_
            refine xi_aload_n (pc' := 446) (x := 1000000) kc_195_445 rfl rfl ?_
            refine xi_iload (pc' := 448) (x := x4) kc_195_446 rfl rfl ?_
            refine xi_iconst (pc' := 449) (v := 2) kc_195_448 rfl rfl ?_
            refine xi_iadd (pc' := 450) (v := v25) kc_195_449 rfl ev25 ?_
            refine xi_ialoadO (pc' := 451) (v := a26) kc_195_450 rfl (by decide) hov0 (xi_in (by omega) (by omega)) ea26 ?_
            refine xi_aload_n (pc' := 452) (x := 1000000) kc_195_451 rfl rfl ?_
            refine xi_iload (pc' := 454) (x := x4) kc_195_452 rfl rfl ?_
            refine xi_iconst (pc' := 455) (v := 3) kc_195_454 rfl rfl ?_
            refine xi_iadd (pc' := 456) (v := v27) kc_195_455 rfl ev27 ?_
            refine xi_ialoadO (pc' := 457) (v := a28) kc_195_456 rfl (by decide) hov0 (xi_in (by omega) (by omega)) ea28 ?_
            refine xi_aload_n (pc' := 458) (x := 1000000) kc_195_457 rfl rfl ?_
            refine xi_iload (pc' := 460) (x := x4) kc_195_458 rfl rfl ?_
            refine xi_iconst (pc' := 461) (v := 4) kc_195_460 rfl rfl ?_
            refine xi_iadd (pc' := 462) (v := v29) kc_195_461 rfl ev29 ?_
            refine xi_ialoadO (pc' := 463) (v := a30) kc_195_462 rfl (by decide) hov0 (xi_in (by omega) (by omega)) ea30 ?_
            refine xi_ift (pc' := 470) kc_195_463 rfl (xc_eq_t (X := a30.toInt) (Y := 0) rfl (by decide) (by omega)) ?_
            refine xi_iconst (pc' := 471) (v := 0) kc_195_470 rfl rfl ?_
            have A104 := ((eh102.2.1 115 (by decide)).trans A17)
            refine xi_virtual (mj := 23) (as := [.int a24, .int a26, .int a28, .int 0]) (st1 := []) (lv0 := [(0, .ref 115), (1, .int a24), (2, .int a26), (3, .int a28), (4, .int 0)]) kc_195_471 rfl rfl rfl rfl rfl A104 (Nat.le_of_ble_eq_true rfl) (hJ _ _ _ _ (by decide)) (xm_le ml_23 rfl) rfl ?_
            refine xi_aload_n (pc' := 1) (x := 115) kc_23_0 rfl rfl ?_
            refine xi_iconst (pc' := 2) (v := 0) kc_23_1 rfl rfl ?_
            refine xi_putfield (pc' := 5) (fs' := [.int 0, .int u2, .ref 116, .ref 117, .ref 118, .ref 119, .ref 120, .ref 121, .ref 122, .ref 123, .ref 124, .ref 125, .ref 126, .ref 127, .ref 128, .ref 129, .int u6, .ref 130, .int u19, .ref 131, .ref 132, .ref 133, .ref 134, .int u8, .ref 135, .ref 136, .ref 137, .ref 138, .ref 139, .ref 140, .ref 141, .ref 142, .int u9, .int u10, .int u11, .ref 143, .ref 144, .ref 145, .ref 146, .ref 147, .ref 148, .int u12, .ref 149, .ref 150, .ref 151, .int u13, .ref 152, .ref 153, .ref 154, .ref 155, .ref 156, .ref 157, .ref 158, .ref 159, .int u14, .ref 160, .int u15, .ref 161, .ref 162, .ref 163, .ref 164, .int u16, .ref 165, .ref 166]) kc_23_2 rfl rfl rfl A104 rfl rfl rfl (Nat.le_of_ble_eq_true rfl) rfl (fun hh106 eh105 => ?_)
            have K107 := xk_pf (k := 0) (v := 0) K103 (xk_wf rfl) xD_115 A104 rfl (by first | omega | decide) (by first | omega | decide) eh105 rfl
            refine xi_iload_n (pc' := 6) (x := a24) kc_23_5 rfl rfl ?_
            refine xi_static (mj := 24) (as := [.int a24]) (st1 := []) (lv0 := [(0, .int a24)]) kc_23_6 rfl rfl (Nat.le_of_ble_eq_true rfl) rfl rfl (Nat.le_of_ble_eq_true rfl) (hJ _ _ _ _ (by decide)) (xm_le ml_24 rfl) rfl ?_
            refine xi_iload_n (pc' := 1) (x := a24) kc_24_0 rfl rfl ?_
            refine xi_iconst (pc' := 2) (v := 0) kc_24_1 rfl rfl ?_
            refine xi_bipush (pc' := 4) (v := 11) kc_24_2 rfl rfl ?_
            refine xi_static (mj := 11) (as := [.int a24, .int 0, .int 11]) (st1 := []) (lv0 := [(0, .int a24), (1, .int 0), (2, .int 11)]) kc_24_4 rfl rfl (Nat.le_of_ble_eq_true rfl) rfl rfl (Nat.le_of_ble_eq_true rfl) (hJ _ _ _ _ (by decide)) (xm_le ml_11 rfl) rfl ?_
            refine xi_iload_n (pc' := 1) (x := a24) kc_11_0 rfl rfl ?_
            refine xi_iload_n (pc' := 2) (x := 0) kc_11_1 rfl rfl ?_
            refine xi_cmf (pc' := 5) kc_11_2 rfl (xc_lt_f (X := a24.toInt) (Y := 0) rfl (by decide) (by omega)) ?_
            refine xi_iload_n (pc' := 6) (x := a24) kc_11_5 rfl rfl ?_
            refine xi_iload_n (pc' := 7) (x := 11) kc_11_6 rfl rfl ?_
            refine xi_cmf (pc' := 10) kc_11_7 rfl (xc_gt_f (X := a24.toInt) (Y := 11) rfl (by decide) (by omega)) ?_
            refine xi_iconst (pc' := 11) (v := 1) kc_11_10 rfl rfl ?_
            refine xi_goto (pc' := 15) kc_11_11 rfl ?_
            refine xi_ireturn kc_11_15 mr_11 rfl ?_
            show xw J ov 98 24 (7, [(0, .int a24)], [.int 1], hh106) _
            refine xi_ireturn kc_24_7 mr_24 rfl ?_
            show xw J ov 99 23 (9, [(0, .ref 115), (1, .int a24), (2, .int a26), (3, .int a28), (4, .int 0)], [.int 1], hh106) _
            refine xi_iff (pc' := 12) kc_23_9 rfl rfl ?_
            refine xi_iload_n (pc' := 13) (x := a26) kc_23_12 rfl rfl ?_
            refine xi_static (mj := 10) (as := [.int a26]) (st1 := []) (lv0 := [(0, .int a26)]) kc_23_13 rfl rfl (Nat.le_of_ble_eq_true rfl) rfl rfl (Nat.le_of_ble_eq_true rfl) (hJ _ _ _ _ (by decide)) (xm_le ml_10 rfl) rfl ?_
            refine xi_iload_n (pc' := 1) (x := a26) kc_10_0 rfl rfl ?_
            refine xi_iconst (pc' := 2) (v := 0) kc_10_1 rfl rfl ?_
            refine xi_iconst (pc' := 3) (v := 5) kc_10_2 rfl rfl ?_
            refine xi_static (mj := 11) (as := [.int a26, .int 0, .int 5]) (st1 := []) (lv0 := [(0, .int a26), (1, .int 0), (2, .int 5)]) kc_10_3 rfl rfl (Nat.le_of_ble_eq_true rfl) rfl rfl (Nat.le_of_ble_eq_true rfl) (hJ _ _ _ _ (by decide)) (xm_le ml_11 rfl) rfl ?_
            refine xi_iload_n (pc' := 1) (x := a26) kc_11_0 rfl rfl ?_
            refine xi_iload_n (pc' := 2) (x := 0) kc_11_1 rfl rfl ?_
            refine xi_cmf (pc' := 5) kc_11_2 rfl (xc_lt_f (X := a26.toInt) (Y := 0) rfl (by decide) (by omega)) ?_
            refine xi_iload_n (pc' := 6) (x := a26) kc_11_5 rfl rfl ?_
            refine xi_iload_n (pc' := 7) (x := 5) kc_11_6 rfl rfl ?_
            refine xi_cmt (pc' := 14) kc_11_7 rfl (xc_gt_t (X := a26.toInt) (Y := 5) rfl (by decide) (by omega)) ?_
            refine xi_iconst (pc' := 15) (v := 0) kc_11_14 rfl rfl ?_
            refine xi_ireturn kc_11_15 mr_11 rfl ?_
            show xw J ov 98 10 (6, [(0, .int a26)], [.int 0], hh106) _
            refine xi_ireturn kc_10_6 mr_10 rfl ?_
            show xw J ov 99 23 (16, [(0, .ref 115), (1, .int a24), (2, .int a26), (3, .int a28), (4, .int 0)], [.int 0], hh106) _
            refine xi_iff (pc' := 19) kc_23_16 rfl rfl ?_
            refine xi_aload_n (pc' := 20) (x := 115) kc_23_19 rfl rfl ?_
            refine xi_iconst (pc' := 21) (v := (-1)) kc_23_20 rfl rfl ?_
            refine xi_virtual (mj := 12) (as := [.int (-1)]) (st1 := []) (lv0 := [(0, .ref 115), (1, .int (-1))]) kc_23_21 rfl rfl rfl rfl rfl eh105.1 (Nat.le_of_ble_eq_true rfl) (hJ _ _ _ _ (by decide)) (xm_le ml_12 rfl) rfl ?_
            refine xi_aload_n (pc' := 1) (x := 115) kc_12_0 rfl rfl ?_
            refine xi_getfield (pc' := 4) (v := .ref 140) kc_12_1 rfl rfl rfl eh105.1 rfl ?_
            refine xi_iload_n (pc' := 5) (x := (-1)) kc_12_4 rfl rfl ?_
            refine xi_ineg (pc' := 6) (v := 1) kc_12_5 rfl rfl ?_
            refine xi_dup2 (pc' := 7) kc_12_6 rfl ⟨rfl, rfl⟩ ?_
            obtain ⟨y108, A108, hy108, ry108⟩ := xk_arr K.1 xD_140
            obtain ⟨v109, ev109, bv109, dv109⟩ := xj_get hy108 ry108 (i := 1) (by decide) (by decide)
            have A110 := ((eh105.2.1 140 (by decide)).trans ((eh102.2.1 140 (by decide)).trans A108))
            refine xi_iaload (pc' := 8) (v := v109) kc_12_7 rfl A110 (by decide) rfl (xi_in (by decide) (by rw [hy108]; decide)) ev109 ?_
            refine xi_iconst (pc' := 9) (v := 1) kc_12_8 rfl rfl ?_
            obtain ⟨v111, ev111⟩ : ∃ q : Int32, (v109 : Int32) + 1 = q := ⟨_, rfl⟩
            have rv111 := xc_rng v111
            refine xi_iadd (pc' := 10) (v := v111) kc_12_9 rfl ev111 ?_
            obtain ⟨y112, s112, hy112, ry112⟩ := xj_set (v := v111) hy108 ry108 1 (by first | omega | decide) (by first | omega | decide)
            refine xi_iastore (pc' := 11) (x' := y112) kc_12_10 rfl A110 rfl (xi_in (by decide) (by rw [hy108]; decide)) s112 (fun hh112 eh112 => ?_)
            have K113 := xk_pa K107 (xk_wa rfl) xD_140 hy112 ry112 eh112
            refine xi_iload_n (pc' := 12) (x := (-1)) kc_12_11 rfl rfl ?_
            refine xi_ireturn kc_12_12 mr_12 rfl ?_
            show xw J ov 99 23 (24, [(0, .ref 115), (1, .int a24), (2, .int a26), (3, .int a28), (4, .int 0)], [.int (-1)], hh112) _
            refine xi_ireturn kc_23_24 mr_23 rfl ?_
            show xw J ov 100 195 (474, [(4, .int x4), (3, .ref 167), (2, .ref 115), (1, .ref 0), (0, .ref 1000000)], [.int (-1)], hh112) _
            refine xi_pop (pc' := 475) kc_195_474 rfl rfl ?_
            refine xi_goto (pc' := 1501) kc_195_475 rfl ?_
            obtain ⟨v114, ev114⟩ : ∃ q : Int32, x4 + 6 = q := ⟨_, rfl⟩
            have zv114 : v114.toInt = (x4.toInt + 6) := by rw [← ev114]; exact (xz_add (X := x4.toInt) (Y := 6) rfl (by decide) (by omega) (by omega)).trans (by omega)
            refine xi_iinc (pc' := 1504) (x := x4) (v := v114) (lv' := [(4, .int v114), (3, .ref 167), (2, .ref 115), (1, .ref 0), (0, .ref 1000000)]) kc_195_1501 rfl rfl ev114 rfl (xm_lt ml_195 rfl) ?_
            refine xi_goto (pc' := 23) kc_195_1504 rfl ?_
            have A115 := ((eh112.2.1 0 (by decide)).trans ((eh105.2.1 0 (by decide)).trans ((eh102.2.1 0 (by decide)).trans A3)))
            have A116 := ((eh112.2.1 115 (by decide)).trans eh105.1)
            have A117 := ((eh112.2.1 66 (by decide)).trans ((eh105.2.1 66 (by decide)).trans ((eh102.2.1 66 (by decide)).trans A20)))
            have A118 := ((eh112.2.1 71 (by decide)).trans ((eh105.2.1 71 (by decide)).trans ((eh102.2.1 71 (by decide)).trans A21)))
            have A119 := ((eh112.2.1 132 (by decide)).trans ((eh105.2.1 132 (by decide)).trans ((eh102.2.1 132 (by decide)).trans A22)))
            exact kk v114 hh112 (by omega) K113 ⟨(xGR_kept I.1 (fun c hc => ((eh112.2.1 c (Ne.symm (xk_nc hc rfl))).trans ((eh105.2.1 c (Ne.symm (xk_nc hc rfl))).trans (eh102.2.1 c (Ne.symm (xk_nc hc rfl)))))) ((eh112.2.1 125 (by decide)).trans ((eh105.2.1 125 (by decide)).trans (eh102.2.1 125 (by decide))))), ((xl_of A115 rfl).trans (xl_of A116 rfl).symm), ((xl_of A117 rfl).trans (xl_of A116 rfl).symm), ((xl_arr A118).trans (xl_arr A119).symm)⟩
          · refine xi_cmf (pc' := 10) kc_89_7 rfl (xc_ge_f (X := a26.toInt) (Y := 6) rfl (by decide) (by omega)) ?_
            refine xi_iconst (pc' := 11) (v := 1) kc_89_10 rfl rfl ?_
            refine xi_goto (pc' := 15) kc_89_11 rfl ?_
            refine xi_ireturn kc_89_15 mr_89 rfl ?_
            show xw J ov 99 103 (11, [(0, .ref 0), (1, .int a24), (2, .int a26), (3, .int a28), (4, .int 0)], [.int 1], h) _
            refine xi_ift (pc' := 20) kc_103_11 rfl rfl ?_
            refine xi_iload_n (pc' := 21) (x := a28) kc_103_20 rfl rfl ?_
            by_cases c120 : 0 ≤ a28.toInt
            · refine xi_ift (pc' := 31) kc_103_21 rfl (xc_ge_t (X := a28.toInt) (Y := 0) rfl (by decide) (by omega)) ?_
              refine xi_iload_n (pc' := 32) (x := a28) kc_103_31 rfl rfl ?_
              refine xi_bipush (pc' := 34) (v := 100) kc_103_32 rfl rfl ?_
              by_cases c121 : a28.toInt ≤ 100
              · refine xi_cmt (pc' := 44) kc_103_34 rfl (xc_le_t (X := a28.toInt) (Y := 100) rfl (by decide) (by omega)) ?_
                refine xi_aload_n (pc' := 45) (x := 0) kc_103_44 rfl rfl ?_
                refine xi_getfield (pc' := 48) (v := .ref 66) kc_103_45 rfl rfl rfl A3 rfl ?_
                refine xi_virtual (mj := 91) (as := []) (st1 := []) (lv0 := [(0, .ref 66)]) kc_103_48 rfl rfl rfl rfl rfl A20 (Nat.le_of_ble_eq_true rfl) (hJ _ _ _ _ (by decide)) (xm_le ml_91 rfl) rfl ?_
                refine xi_aload_n (pc' := 1) (x := 66) kc_91_0 rfl rfl ?_
                refine xi_lconst (pc' := 2) (v := 0) kc_91_1 rfl rfl ?_
                refine xi_putfield (pc' := 5) (fs' := [.ref 1, .ref 67, .ref 70, .ref 71, .ref 72, .ref 73, .ref 74, .long 0, .int u19]) kc_91_2 rfl rfl rfl A20 rfl rfl rfl (Nat.le_of_ble_eq_true rfl) rfl (fun hh123 eh122 => ?_)
                have K124 := xk_pl (k := 7) (v := 0) K (xk_wf rfl) xD_66 A20 rfl eh122 rfl
                refine xi_return kc_91_5 mr_91 ?_
                show xw J ov 99 103 (51, [(0, .ref 0), (1, .int a24), (2, .int a26), (3, .int a28), (4, .int 0)], [], hh123) _
                refine xi_aload_n (pc' := 52) (x := 0) kc_103_51 rfl rfl ?_
                have A125 := ((eh122.2.1 0 (by decide)).trans A3)
                refine xi_getfield (pc' := 55) (v := .ref 1) kc_103_52 rfl rfl rfl A125 rfl ?_
                obtain ⟨u126, u127, bu126, bu127, A128⟩ := xq_1 K.1
                have A129 := ((eh122.2.1 1 (by decide)).trans A128)
                refine xi_getfield (pc' := 58) (v := .ref 3) kc_103_55 rfl rfl rfl A129 rfl ?_
                refine xi_iload_n (pc' := 59) (x := a24) kc_103_58 rfl rfl ?_
                have A130 := xk_ex K.1 xD_3
                obtain ⟨pt131, ept131, mpt131⟩ := xR_3 (i := a24) (by omega) (by omega)
                have A132 := ((eh122.2.1 3 (by decide)).trans A130)
                refine xj_aaload (pc' := 60) (b := pt131) kc_103_59 rfl A132 rfl (xi_in (n := 12) (by omega) (by omega)) ept131 ?_
                refine xi_astore (pc' := 62) (lv' := [(5, .ref pt131), (0, .ref 0), (1, .int a24), (2, .int a26), (3, .int a28), (4, .int 0)]) kc_103_60 rfl rfl (xm_lt ml_103 rfl) ?_
                refine xi_aload (pc' := 64) (x := pt131) kc_103_62 rfl rfl ?_
                obtain ⟨u133, u134, u135, u136, pt137, bu133, bu134, bu135, bu136, mpt137, A138⟩ := xg_wall K.1 mpt131
                obtain ⟨y139, A139, hy139, ry139⟩ := xk_arr K.1 xD_125
                have HG140 : y139.getD (Int32.toNatClampNeg a24) 0 = u133 := xGR_ld (Lo := [some 29, some 31, some 33, some 35, some 37, some 39, some 41, some 43, some 45, some 47, some 49, some 51]) I.1 rfl ept131 (by omega) (by show _ < ((12 : Nat) : Int); omega) A138 rfl A139
                have bHG140 : (-9) ≤ u133.toInt ∧ u133.toInt ≤ 5 := by rw [← HG140]; exact ry139 _ (xj_nat (n := 12) (by omega) (by omega))
                have A141 := ((eh122.2.1 pt131 (Ne.symm (xk_nc mpt131 rfl))).trans A138)
                refine xi_virtual (mj := 105) (as := []) (st1 := []) (lv0 := [(0, .ref pt131)]) kc_103_64 rfl rfl rfl rfl rfl A141 (Nat.le_of_ble_eq_true rfl) (hJ _ _ _ _ (by decide)) (xm_le ml_105 rfl) rfl ?_
                refine xi_aload_n (pc' := 1) (x := pt131) kc_105_0 rfl rfl ?_
                refine xi_getfield (pc' := 4) (v := .int u133) kc_105_1 rfl rfl rfl A141 rfl ?_
                refine xi_static (mj := 89) (as := [.int u133]) (st1 := []) (lv0 := [(0, .int u133)]) kc_105_4 rfl rfl (Nat.le_of_ble_eq_true rfl) rfl rfl (Nat.le_of_ble_eq_true rfl) (hJ _ _ _ _ (by decide)) (xm_le ml_89 rfl) rfl ?_
                refine xi_iload_n (pc' := 1) (x := u133) kc_89_0 rfl rfl ?_
                by_cases c142 : u133.toInt < 0
                · refine xi_ift (pc' := 14) kc_89_1 rfl (xc_lt_t (X := u133.toInt) (Y := 0) rfl (by decide) (by omega)) ?_
                  refine xi_iconst (pc' := 15) (v := 0) kc_89_14 rfl rfl ?_
                  refine xi_ireturn kc_89_15 mr_89 rfl ?_
                  show xw J ov 98 105 (7, [(0, .ref pt131)], [.int 0], hh123) _
                  refine xi_ireturn kc_105_7 mr_105 rfl ?_
                  show xw J ov 99 103 (67, [(5, .ref pt131), (0, .ref 0), (1, .int a24), (2, .int a26), (3, .int a28), (4, .int 0)], [.int 0], hh123) _
                  refine xi_ift (pc' := 74) kc_103_67 rfl rfl ?_
                  refine xi_iconst (pc' := 75) (v := 1) kc_103_74 rfl rfl ?_
                  refine xi_istore (pc' := 77) (lv' := [(6, .int 1), (5, .ref pt131), (0, .ref 0), (1, .int a24), (2, .int a26), (3, .int a28), (4, .int 0)]) kc_103_75 rfl rfl (xm_lt ml_103 rfl) ?_
                  refine xi_aload (pc' := 79) (x := pt131) kc_103_77 rfl rfl ?_
                  refine xi_iload_n (pc' := 80) (x := a26) kc_103_79 rfl rfl ?_
                  refine xi_putfield (pc' := 83) (fs' := [.int a26, .int u134, .int u135, .int u136, .ref pt137]) kc_103_80 rfl rfl rfl A141 rfl rfl rfl (Nat.le_of_ble_eq_true rfl) rfl (fun hh144 eh143 => ?_)
                  obtain ⟨ds145, Dds145, dds145_0, dds145_1, dds145_2, dds145_3⟩ := xGo_wall mpt131
                  have K146 := xk_pf (k := 0) (v := a26) K124 (xk_gf mpt131 rfl) Dds145 A141 dds145_0 (by first | omega | decide) (by first | omega | decide) eh143 rfl
                  refine xi_aload (pc' := 85) (x := pt131) kc_103_83 rfl rfl ?_
                  refine xi_iload_n (pc' := 86) (x := a28) kc_103_85 rfl rfl ?_
                  refine xi_putfield (pc' := 89) (fs' := [.int a26, .int a28, .int u135, .int u136, .ref pt137]) kc_103_86 rfl rfl rfl eh143.1 rfl rfl rfl (Nat.le_of_ble_eq_true rfl) rfl (fun hh148 eh147 => ?_)
                  obtain ⟨ds149, Dds149, dds149_0, dds149_1, dds149_2, dds149_3⟩ := xGo_wall mpt131
                  have K150 := xk_pf (k := 1) (v := a28) K146 (xk_gf mpt131 rfl) Dds149 eh143.1 dds149_1 (by first | omega | decide) (by first | omega | decide) eh147 rfl
                  refine xi_aload (pc' := 91) (x := pt131) kc_103_89 rfl rfl ?_
                  refine xi_iload (pc' := 93) (x := 0) kc_103_91 rfl rfl ?_
                  refine xi_putfield (pc' := 96) (fs' := [.int a26, .int a28, .int 0, .int u136, .ref pt137]) kc_103_93 rfl rfl rfl eh147.1 rfl rfl rfl (Nat.le_of_ble_eq_true rfl) rfl (fun hh152 eh151 => ?_)
                  obtain ⟨ds153, Dds153, dds153_0, dds153_1, dds153_2, dds153_3⟩ := xGo_wall mpt131
                  have K154 := xk_pf (k := 2) (v := 0) K150 (xk_gf mpt131 rfl) Dds153 eh147.1 dds153_2 (by first | omega | decide) (by first | omega | decide) eh151 rfl
                  refine xi_iload (pc' := 98) (x := 1) kc_103_96 rfl rfl ?_
                  refine xi_ireturn kc_103_98 mr_103 rfl ?_
                  show xw J ov 100 195 (437, [(4, .int x4), (3, .ref 167), (2, .ref 115), (1, .ref 0), (0, .ref 1000000)], [.int 1], hh152) _
                  refine xi_pop (pc' := 438) kc_195_437 rfl rfl ?_
                  refine xi_aload_n (pc' := 439) (x := 115) kc_195_438 rfl rfl ?_
                  refine xi_aload_n (pc' := 440) (x := 1000000) kc_195_439 rfl rfl ?_
                  refine xi_iload (pc' := 442) (x := x4) kc_195_440 rfl rfl ?_
                  refine xi_iconst (pc' := 443) (v := 1) kc_195_442 rfl rfl ?_
                  refine xi_iadd (pc' := 444) (v := v23) kc_195_443 rfl ev23 ?_
                  refine xi_ialoadO (pc' := 445) (v := a24) kc_195_444 rfl (by decide) hov0 (xi_in (by omega) (by omega)) ea24 ?_
                  refine xi_aload_n (pc' := 446) (x := 1000000) kc_195_445 rfl rfl ?_
                  refine xi_iload (pc' := 448) (x := x4) kc_195_446 rfl rfl ?_
                  refine xi_iconst (pc' := 449) (v := 2) kc_195_448 rfl rfl ?_
                  refine xi_iadd (pc' := 450) (v := v25) kc_195_449 rfl ev25 ?_
                  refine xi_ialoadO (pc' := 451) (v := a26) kc_195_450 rfl (by decide) hov0 (xi_in (by omega) (by omega)) ea26 ?_
                  refine xi_aload_n (pc' := 452) (x := 1000000) kc_195_451 rfl rfl ?_
                  refine xi_iload (pc' := 454) (x := x4) kc_195_452 rfl rfl ?_
                  refine xi_iconst (pc' := 455) (v := 3) kc_195_454 rfl rfl ?_
                  refine xi_iadd (pc' := 456) (v := v27) kc_195_455 rfl ev27 ?_
                  refine xi_ialoadO (pc' := 457) (v := a28) kc_195_456 rfl (by decide) hov0 (xi_in (by omega) (by omega)) ea28 ?_
                  refine xi_aload_n (pc' := 458) (x := 1000000) kc_195_457 rfl rfl ?_
                  refine xi_iload (pc' := 460) (x := x4) kc_195_458 rfl rfl ?_
                  refine xi_iconst (pc' := 461) (v := 4) kc_195_460 rfl rfl ?_
                  refine xi_iadd (pc' := 462) (v := v29) kc_195_461 rfl ev29 ?_
                  refine xi_ialoadO (pc' := 463) (v := a30) kc_195_462 rfl (by decide) hov0 (xi_in (by omega) (by omega)) ea30 ?_
                  refine xi_ift (pc' := 470) kc_195_463 rfl (xc_eq_t (X := a30.toInt) (Y := 0) rfl (by decide) (by omega)) ?_
                  refine xi_iconst (pc' := 471) (v := 0) kc_195_470 rfl rfl ?_
                  have A155 := ((eh151.2.1 115 (xk_nc mpt131 rfl)).trans ((eh147.2.1 115 (xk_nc mpt131 rfl)).trans ((eh143.2.1 115 (xk_nc mpt131 rfl)).trans ((eh122.2.1 115 (by decide)).trans A17))))
                  refine xi_virtual (mj := 23) (as := [.int a24, .int a26, .int a28, .int 0]) (st1 := []) (lv0 := [(0, .ref 115), (1, .int a24), (2, .int a26), (3, .int a28), (4, .int 0)]) kc_195_471 rfl rfl rfl rfl rfl A155 (Nat.le_of_ble_eq_true rfl) (hJ _ _ _ _ (by decide)) (xm_le ml_23 rfl) rfl ?_
                  refine xi_aload_n (pc' := 1) (x := 115) kc_23_0 rfl rfl ?_
                  refine xi_iconst (pc' := 2) (v := 0) kc_23_1 rfl rfl ?_
                  refine xi_putfield (pc' := 5) (fs' := [.int 0, .int u2, .ref 116, .ref 117, .ref 118, .ref 119, .ref 120, .ref 121, .ref 122, .ref 123, .ref 124, .ref 125, .ref 126, .ref 127, .ref 128, .ref 129, .int u6, .ref 130, .int u19, .ref 131, .ref 132, .ref 133, .ref 134, .int u8, .ref 135, .ref 136, .ref 137, .ref 138, .ref 139, .ref 140, .ref 141, .ref 142, .int u9, .int u10, .int u11, .ref 143, .ref 144, .ref 145, .ref 146, .ref 147, .ref 148, .int u12, .ref 149, .ref 150, .ref 151, .int u13, .ref 152, .ref 153, .ref 154, .ref 155, .ref 156, .ref 157, .ref 158, .ref 159, .int u14, .ref 160, .int u15, .ref 161, .ref 162, .ref 163, .ref 164, .int u16, .ref 165, .ref 166]) kc_23_2 rfl rfl rfl A155 rfl rfl rfl (Nat.le_of_ble_eq_true rfl) rfl (fun hh157 eh156 => ?_)
                  have K158 := xk_pf (k := 0) (v := 0) K154 (xk_wf rfl) xD_115 A155 rfl (by first | omega | decide) (by first | omega | decide) eh156 rfl
                  refine xi_iload_n (pc' := 6) (x := a24) kc_23_5 rfl rfl ?_
                  refine xi_static (mj := 24) (as := [.int a24]) (st1 := []) (lv0 := [(0, .int a24)]) kc_23_6 rfl rfl (Nat.le_of_ble_eq_true rfl) rfl rfl (Nat.le_of_ble_eq_true rfl) (hJ _ _ _ _ (by decide)) (xm_le ml_24 rfl) rfl ?_
                  refine xi_iload_n (pc' := 1) (x := a24) kc_24_0 rfl rfl ?_
                  refine xi_iconst (pc' := 2) (v := 0) kc_24_1 rfl rfl ?_
                  refine xi_bipush (pc' := 4) (v := 11) kc_24_2 rfl rfl ?_
                  refine xi_static (mj := 11) (as := [.int a24, .int 0, .int 11]) (st1 := []) (lv0 := [(0, .int a24), (1, .int 0), (2, .int 11)]) kc_24_4 rfl rfl (Nat.le_of_ble_eq_true rfl) rfl rfl (Nat.le_of_ble_eq_true rfl) (hJ _ _ _ _ (by decide)) (xm_le ml_11 rfl) rfl ?_
                  refine xi_iload_n (pc' := 1) (x := a24) kc_11_0 rfl rfl ?_
                  refine xi_iload_n (pc' := 2) (x := 0) kc_11_1 rfl rfl ?_
                  refine xi_cmf (pc' := 5) kc_11_2 rfl (xc_lt_f (X := a24.toInt) (Y := 0) rfl (by decide) (by omega)) ?_
                  refine xi_iload_n (pc' := 6) (x := a24) kc_11_5 rfl rfl ?_
                  refine xi_iload_n (pc' := 7) (x := 11) kc_11_6 rfl rfl ?_
                  refine xi_cmf (pc' := 10) kc_11_7 rfl (xc_gt_f (X := a24.toInt) (Y := 11) rfl (by decide) (by omega)) ?_
                  refine xi_iconst (pc' := 11) (v := 1) kc_11_10 rfl rfl ?_
                  refine xi_goto (pc' := 15) kc_11_11 rfl ?_
                  refine xi_ireturn kc_11_15 mr_11 rfl ?_
                  show xw J ov 98 24 (7, [(0, .int a24)], [.int 1], hh157) _
                  refine xi_ireturn kc_24_7 mr_24 rfl ?_
                  show xw J ov 99 23 (9, [(0, .ref 115), (1, .int a24), (2, .int a26), (3, .int a28), (4, .int 0)], [.int 1], hh157) _
                  refine xi_iff (pc' := 12) kc_23_9 rfl rfl ?_
                  refine xi_iload_n (pc' := 13) (x := a26) kc_23_12 rfl rfl ?_
                  refine xi_static (mj := 10) (as := [.int a26]) (st1 := []) (lv0 := [(0, .int a26)]) kc_23_13 rfl rfl (Nat.le_of_ble_eq_true rfl) rfl rfl (Nat.le_of_ble_eq_true rfl) (hJ _ _ _ _ (by decide)) (xm_le ml_10 rfl) rfl ?_
                  refine xi_iload_n (pc' := 1) (x := a26) kc_10_0 rfl rfl ?_
                  refine xi_iconst (pc' := 2) (v := 0) kc_10_1 rfl rfl ?_
                  refine xi_iconst (pc' := 3) (v := 5) kc_10_2 rfl rfl ?_
                  refine xi_static (mj := 11) (as := [.int a26, .int 0, .int 5]) (st1 := []) (lv0 := [(0, .int a26), (1, .int 0), (2, .int 5)]) kc_10_3 rfl rfl (Nat.le_of_ble_eq_true rfl) rfl rfl (Nat.le_of_ble_eq_true rfl) (hJ _ _ _ _ (by decide)) (xm_le ml_11 rfl) rfl ?_
                  refine xi_iload_n (pc' := 1) (x := a26) kc_11_0 rfl rfl ?_
                  refine xi_iload_n (pc' := 2) (x := 0) kc_11_1 rfl rfl ?_
                  refine xi_cmf (pc' := 5) kc_11_2 rfl (xc_lt_f (X := a26.toInt) (Y := 0) rfl (by decide) (by omega)) ?_
                  refine xi_iload_n (pc' := 6) (x := a26) kc_11_5 rfl rfl ?_
                  refine xi_iload_n (pc' := 7) (x := 5) kc_11_6 rfl rfl ?_
                  refine xi_cmf (pc' := 10) kc_11_7 rfl (xc_gt_f (X := a26.toInt) (Y := 5) rfl (by decide) (by omega)) ?_
                  refine xi_iconst (pc' := 11) (v := 1) kc_11_10 rfl rfl ?_
                  refine xi_goto (pc' := 15) kc_11_11 rfl ?_
                  refine xi_ireturn kc_11_15 mr_11 rfl ?_
                  show xw J ov 98 10 (6, [(0, .int a26)], [.int 1], hh157) _
                  refine xi_ireturn kc_10_6 mr_10 rfl ?_
                  show xw J ov 99 23 (16, [(0, .ref 115), (1, .int a24), (2, .int a26), (3, .int a28), (4, .int 0)], [.int 1], hh157) _
                  refine xi_ift (pc' := 25) kc_23_16 rfl rfl ?_
                  refine xi_iload_n (pc' := 26) (x := a28) kc_23_25 rfl rfl ?_
                  refine xi_ift (pc' := 36) kc_23_26 rfl (xc_ge_t (X := a28.toInt) (Y := 0) rfl (by decide) (by omega)) ?_
                  refine xi_iload_n (pc' := 37) (x := a28) kc_23_36 rfl rfl ?_
                  refine xi_bipush (pc' := 39) (v := 100) kc_23_37 rfl rfl ?_
                  refine xi_cmt (pc' := 49) kc_23_39 rfl (xc_le_t (X := a28.toInt) (Y := 100) rfl (by decide) (by omega)) ?_
                  refine xi_aload_n (pc' := 50) (x := 115) kc_23_49 rfl rfl ?_
                  refine xi_getfield (pc' := 53) (v := .ref 125) kc_23_50 rfl rfl rfl eh156.1 rfl ?_
                  refine xi_iload_n (pc' := 54) (x := a24) kc_23_53 rfl rfl ?_
                  have A159 := ((eh156.2.1 125 (by decide)).trans ((eh151.2.1 125 (xk_nc mpt131 rfl)).trans ((eh147.2.1 125 (xk_nc mpt131 rfl)).trans ((eh143.2.1 125 (xk_nc mpt131 rfl)).trans ((eh122.2.1 125 (by decide)).trans A139)))))
                  refine xi_iaload (pc' := 55) (v := u133) kc_23_54 rfl A159 (by decide) rfl (xi_in (by omega) (by rw [hy139]; omega)) HG140 ?_
                  refine xi_ift (pc' := 62) kc_23_55 rfl (xc_lt_t (X := u133.toInt) (Y := 0) rfl (by decide) (by omega)) ?_
                  refine xi_iconst (pc' := 63) (v := 0) kc_23_62 rfl rfl ?_
                  refine xi_istore (pc' := 65) (lv' := [(5, .int 0), (0, .ref 115), (1, .int a24), (2, .int a26), (3, .int a28), (4, .int 0)]) kc_23_63 rfl rfl (xm_lt ml_23 rfl) ?_
                  refine xi_aload_n (pc' := 66) (x := 115) kc_23_65 rfl rfl ?_
                  refine xi_getfield (pc' := 69) (v := .ref 125) kc_23_66 rfl rfl rfl eh156.1 rfl ?_
                  refine xi_iload_n (pc' := 70) (x := a24) kc_23_69 rfl rfl ?_
                  refine xi_iload_n (pc' := 71) (x := a26) kc_23_70 rfl rfl ?_
                  obtain ⟨y160, s160, hy160, ry160⟩ := xj_set (v := a26) hy139 ry139 a24 (by first | omega | decide) (by first | omega | decide)
                  refine xi_iastore (pc' := 72) (x' := y160) kc_23_71 rfl A159 rfl (xi_in (by omega) (by rw [hy139]; omega)) s160 (fun hh160 eh160 => ?_)
                  have K161 := xk_pa K158 (xk_wa rfl) xD_125 hy160 ry160 eh160
                  refine xi_aload_n (pc' := 73) (x := 115) kc_23_72 rfl rfl ?_
                  have A162 := ((eh160.2.1 115 (by decide)).trans eh156.1)
                  refine xi_getfield (pc' := 76) (v := .ref 126) kc_23_73 rfl rfl rfl A162 rfl ?_
                  refine xi_iload_n (pc' := 77) (x := a24) kc_23_76 rfl rfl ?_
                  refine xi_iload_n (pc' := 78) (x := a28) kc_23_77 rfl rfl ?_
                  obtain ⟨y163, A163, hy163, ry163⟩ := xk_arr K.1 xD_126
                  have A164 := ((eh160.2.1 126 (by decide)).trans ((eh156.2.1 126 (by decide)).trans ((eh151.2.1 126 (xk_nc mpt131 rfl)).trans ((eh147.2.1 126 (xk_nc mpt131 rfl)).trans ((eh143.2.1 126 (xk_nc mpt131 rfl)).trans ((eh122.2.1 126 (by decide)).trans A163))))))
                  obtain ⟨y165, s165, hy165, ry165⟩ := xj_set (v := a28) hy163 ry163 a24 (by first | omega | decide) (by first | omega | decide)
                  refine xi_iastore (pc' := 79) (x' := y165) kc_23_78 rfl A164 rfl (xi_in (by omega) (by rw [hy163]; omega)) s165 (fun hh165 eh165 => ?_)
                  have K166 := xk_pa K161 (xk_wa rfl) xD_126 hy165 ry165 eh165
                  refine xi_aload_n (pc' := 80) (x := 115) kc_23_79 rfl rfl ?_
                  have A167 := ((eh165.2.1 115 (by decide)).trans A162)
                  refine xi_getfield (pc' := 83) (v := .ref 127) kc_23_80 rfl rfl rfl A167 rfl ?_
                  refine xi_iload_n (pc' := 84) (x := a24) kc_23_83 rfl rfl ?_
                  refine xi_iload (pc' := 86) (x := 0) kc_23_84 rfl rfl ?_
                  obtain ⟨y168, A168, hy168, ry168⟩ := xk_arr K.1 xD_127
                  have A169 := ((eh165.2.1 127 (by decide)).trans ((eh160.2.1 127 (by decide)).trans ((eh156.2.1 127 (by decide)).trans ((eh151.2.1 127 (xk_nc mpt131 rfl)).trans ((eh147.2.1 127 (xk_nc mpt131 rfl)).trans ((eh143.2.1 127 (xk_nc mpt131 rfl)).trans ((eh122.2.1 127 (by decide)).trans A168)))))))
                  obtain ⟨y170, s170, hy170, ry170⟩ := xj_set (v := 0) hy168 ry168 a24 (by first | omega | decide) (by first | omega | decide)
                  refine xi_bastore (pc' := 87) (x' := y170) kc_23_86 rfl A169 rfl (xi_in (by omega) (by rw [hy168]; omega)) s170 (fun hh170 eh170 => ?_)
                  have K171 := xk_pa K166 (xk_wa rfl) xD_127 hy170 ry170 eh170
                  refine xi_aload_n (pc' := 88) (x := 115) kc_23_87 rfl rfl ?_
                  refine xi_iconst (pc' := 89) (v := 0) kc_23_88 rfl rfl ?_
                  have A172 := ((eh170.2.1 115 (by decide)).trans A167)
                  refine xi_putfield (pc' := 92) (fs' := [.int 0, .int u2, .ref 116, .ref 117, .ref 118, .ref 119, .ref 120, .ref 121, .ref 122, .ref 123, .ref 124, .ref 125, .ref 126, .ref 127, .ref 128, .ref 129, .int u6, .ref 130, .int u19, .ref 131, .ref 132, .ref 133, .ref 134, .int u8, .ref 135, .ref 136, .ref 137, .ref 138, .ref 139, .ref 140, .ref 141, .ref 142, .int u9, .int u10, .int u11, .ref 143, .ref 144, .ref 145, .ref 146, .ref 147, .ref 148, .int 0, .ref 149, .ref 150, .ref 151, .int u13, .ref 152, .ref 153, .ref 154, .ref 155, .ref 156, .ref 157, .ref 158, .ref 159, .int u14, .ref 160, .int u15, .ref 161, .ref 162, .ref 163, .ref 164, .int u16, .ref 165, .ref 166]) kc_23_89 rfl rfl rfl A172 rfl rfl rfl (Nat.le_of_ble_eq_true rfl) rfl (fun hh174 eh173 => ?_)
                  have K175 := xk_pf (k := 41) (v := 0) K171 (xk_wf rfl) xD_115 A172 rfl (by first | omega | decide) (by first | omega | decide) eh173 rfl
                  refine xi_iload (pc' := 94) (x := 0) kc_23_92 rfl rfl ?_
                  refine xi_ift (pc' := 101) kc_23_94 rfl rfl ?_
                  refine xi_iconst (pc' := 102) (v := 1) kc_23_101 rfl rfl ?_
                  refine xi_ireturn kc_23_102 mr_23 rfl ?_
                  show xw J ov 100 195 (474, [(4, .int x4), (3, .ref 167), (2, .ref 115), (1, .ref 0), (0, .ref 1000000)], [.int 1], hh174) _
                  refine xi_pop (pc' := 475) kc_195_474 rfl rfl ?_
                  refine xi_goto (pc' := 1501) kc_195_475 rfl ?_
                  obtain ⟨v176, ev176⟩ : ∃ q : Int32, x4 + 6 = q := ⟨_, rfl⟩
                  have zv176 : v176.toInt = (x4.toInt + 6) := by rw [← ev176]; exact (xz_add (X := x4.toInt) (Y := 6) rfl (by decide) (by omega) (by omega)).trans (by omega)
                  refine xi_iinc (pc' := 1504) (x := x4) (v := v176) (lv' := [(4, .int v176), (3, .ref 167), (2, .ref 115), (1, .ref 0), (0, .ref 1000000)]) kc_195_1501 rfl rfl ev176 rfl (xm_lt ml_195 rfl) ?_
                  refine xi_goto (pc' := 23) kc_195_1504 rfl ?_
                  have A177 := ((eh173.2.1 pt131 (Ne.symm (xk_nc mpt131 rfl))).trans ((eh170.2.1 pt131 (Ne.symm (xk_nc mpt131 rfl))).trans ((eh165.2.1 pt131 (Ne.symm (xk_nc mpt131 rfl))).trans ((eh160.2.1 pt131 (Ne.symm (xk_nc mpt131 rfl))).trans ((eh156.2.1 pt131 (Ne.symm (xk_nc mpt131 rfl))).trans eh151.1)))))
                  have A178 := ((eh173.2.1 125 (by decide)).trans ((eh170.2.1 125 (by decide)).trans ((eh165.2.1 125 (by decide)).trans eh160.1)))
                  have A179 := ((eh173.2.1 0 (by decide)).trans ((eh170.2.1 0 (by decide)).trans ((eh165.2.1 0 (by decide)).trans ((eh160.2.1 0 (by decide)).trans ((eh156.2.1 0 (by decide)).trans ((eh151.2.1 0 (xk_nc mpt131 rfl)).trans ((eh147.2.1 0 (xk_nc mpt131 rfl)).trans ((eh143.2.1 0 (xk_nc mpt131 rfl)).trans A125))))))))
                  have A180 := ((eh173.2.1 66 (by decide)).trans ((eh170.2.1 66 (by decide)).trans ((eh165.2.1 66 (by decide)).trans ((eh160.2.1 66 (by decide)).trans ((eh156.2.1 66 (by decide)).trans ((eh151.2.1 66 (xk_nc mpt131 rfl)).trans ((eh147.2.1 66 (xk_nc mpt131 rfl)).trans ((eh143.2.1 66 (xk_nc mpt131 rfl)).trans eh122.1))))))))
                  have A181 := ((eh173.2.1 71 (by decide)).trans ((eh170.2.1 71 (by decide)).trans ((eh165.2.1 71 (by decide)).trans ((eh160.2.1 71 (by decide)).trans ((eh156.2.1 71 (by decide)).trans ((eh151.2.1 71 (xk_nc mpt131 rfl)).trans ((eh147.2.1 71 (xk_nc mpt131 rfl)).trans ((eh143.2.1 71 (xk_nc mpt131 rfl)).trans ((eh122.2.1 71 (by decide)).trans A21)))))))))
                  have A182 := ((eh173.2.1 132 (by decide)).trans ((eh170.2.1 132 (by decide)).trans ((eh165.2.1 132 (by decide)).trans ((eh160.2.1 132 (by decide)).trans ((eh156.2.1 132 (by decide)).trans ((eh151.2.1 132 (xk_nc mpt131 rfl)).trans ((eh147.2.1 132 (xk_nc mpt131 rfl)).trans ((eh143.2.1 132 (xk_nc mpt131 rfl)).trans ((eh122.2.1 132 (by decide)).trans A22)))))))))
                  exact kk v176 hh174 (by omega) K175 ⟨(xGR_set (Lo := [some 29, some 31, some 33, some 35, some 37, some 39, some 41, some 43, some 45, some 47, some 49, some 51]) I.1 (by decide) rfl ept131 (by omega) (by show _ < ((12 : Nat) : Int); omega) A139 (by rw [hy139]; decide) A177 rfl A178 s160 (fun c hc hne => ((eh173.2.1 c (Ne.symm (xk_nc hc rfl))).trans ((eh170.2.1 c (Ne.symm (xk_nc hc rfl))).trans ((eh165.2.1 c (Ne.symm (xk_nc hc rfl))).trans ((eh160.2.1 c (Ne.symm (xk_nc hc rfl))).trans ((eh156.2.1 c (Ne.symm (xk_nc hc rfl))).trans ((eh151.2.1 c hne).trans ((eh147.2.1 c hne).trans ((eh143.2.1 c hne).trans (eh122.2.1 c (Ne.symm (xk_nc hc rfl))))))))))))), ((xl_of A179 rfl).trans (xl_of eh173.1 rfl).symm), ((xl_of A180 rfl).trans (xl_of eh173.1 rfl).symm), ((xl_arr A181).trans (xl_arr A182).symm)⟩
                · refine xi_iff (pc' := 4) kc_89_1 rfl (xc_lt_f (X := u133.toInt) (Y := 0) rfl (by decide) (by omega)) ?_
                  refine xi_iload_n (pc' := 5) (x := u133) kc_89_4 rfl rfl ?_
                  refine xi_bipush (pc' := 7) (v := 6) kc_89_5 rfl rfl ?_
                  refine xi_cmf (pc' := 10) kc_89_7 rfl (xc_ge_f (X := u133.toInt) (Y := 6) rfl (by decide) (by omega)) ?_
                  refine xi_iconst (pc' := 11) (v := 1) kc_89_10 rfl rfl ?_
                  refine xi_goto (pc' := 15) kc_89_11 rfl ?_
                  refine xi_ireturn kc_89_15 mr_89 rfl ?_
                  show xw J ov 98 105 (7, [(0, .ref pt131)], [.int 1], hh123) _
                  refine xi_ireturn kc_105_7 mr_105 rfl ?_
                  show xw J ov 99 103 (67, [(5, .ref pt131), (0, .ref 0), (1, .int a24), (2, .int a26), (3, .int a28), (4, .int 0)], [.int 1], hh123) _
                  refine xi_iff (pc' := 70) kc_103_67 rfl rfl ?_
                  refine xi_iconst (pc' := 71) (v := 0) kc_103_70 rfl rfl ?_
                  refine xi_goto (pc' := 75) kc_103_71 rfl ?_
                  refine xi_istore (pc' := 77) (lv' := [(6, .int 0), (5, .ref pt131), (0, .ref 0), (1, .int a24), (2, .int a26), (3, .int a28), (4, .int 0)]) kc_103_75 rfl rfl (xm_lt ml_103 rfl) ?_
                  refine xi_aload (pc' := 79) (x := pt131) kc_103_77 rfl rfl ?_
                  refine xi_iload_n (pc' := 80) (x := a26) kc_103_79 rfl rfl ?_
                  refine xi_putfield (pc' := 83) (fs' := [.int a26, .int u134, .int u135, .int u136, .ref pt137]) kc_103_80 rfl rfl rfl A141 rfl rfl rfl (Nat.le_of_ble_eq_true rfl) rfl (fun hh184 eh183 => ?_)
                  obtain ⟨ds185, Dds185, dds185_0, dds185_1, dds185_2, dds185_3⟩ := xGo_wall mpt131
                  have K186 := xk_pf (k := 0) (v := a26) K124 (xk_gf mpt131 rfl) Dds185 A141 dds185_0 (by first | omega | decide) (by first | omega | decide) eh183 rfl
                  refine xi_aload (pc' := 85) (x := pt131) kc_103_83 rfl rfl ?_
                  refine xi_iload_n (pc' := 86) (x := a28) kc_103_85 rfl rfl ?_
                  refine xi_putfield (pc' := 89) (fs' := [.int a26, .int a28, .int u135, .int u136, .ref pt137]) kc_103_86 rfl rfl rfl eh183.1 rfl rfl rfl (Nat.le_of_ble_eq_true rfl) rfl (fun hh188 eh187 => ?_)
                  obtain ⟨ds189, Dds189, dds189_0, dds189_1, dds189_2, dds189_3⟩ := xGo_wall mpt131
                  have K190 := xk_pf (k := 1) (v := a28) K186 (xk_gf mpt131 rfl) Dds189 eh183.1 dds189_1 (by first | omega | decide) (by first | omega | decide) eh187 rfl
                  refine xi_aload (pc' := 91) (x := pt131) kc_103_89 rfl rfl ?_
                  refine xi_iload (pc' := 93) (x := 0) kc_103_91 rfl rfl ?_
                  refine xi_putfield (pc' := 96) (fs' := [.int a26, .int a28, .int 0, .int u136, .ref pt137]) kc_103_93 rfl rfl rfl eh187.1 rfl rfl rfl (Nat.le_of_ble_eq_true rfl) rfl (fun hh192 eh191 => ?_)
                  obtain ⟨ds193, Dds193, dds193_0, dds193_1, dds193_2, dds193_3⟩ := xGo_wall mpt131
                  have K194 := xk_pf (k := 2) (v := 0) K190 (xk_gf mpt131 rfl) Dds193 eh187.1 dds193_2 (by first | omega | decide) (by first | omega | decide) eh191 rfl
                  refine xi_iload (pc' := 98) (x := 0) kc_103_96 rfl rfl ?_
                  refine xi_ireturn kc_103_98 mr_103 rfl ?_
                  show xw J ov 100 195 (437, [(4, .int x4), (3, .ref 167), (2, .ref 115), (1, .ref 0), (0, .ref 1000000)], [.int 0], hh192) _
                  refine xi_pop (pc' := 438) kc_195_437 rfl rfl ?_
                  refine xi_aload_n (pc' := 439) (x := 115) kc_195_438 rfl rfl ?_
                  refine xi_aload_n (pc' := 440) (x := 1000000) kc_195_439 rfl rfl ?_
                  refine xi_iload (pc' := 442) (x := x4) kc_195_440 rfl rfl ?_
                  refine xi_iconst (pc' := 443) (v := 1) kc_195_442 rfl rfl ?_
                  refine xi_iadd (pc' := 444) (v := v23) kc_195_443 rfl ev23 ?_
                  refine xi_ialoadO (pc' := 445) (v := a24) kc_195_444 rfl (by decide) hov0 (xi_in (by omega) (by omega)) ea24 ?_
                  refine xi_aload_n (pc' := 446) (x := 1000000) kc_195_445 rfl rfl ?_
                  refine xi_iload (pc' := 448) (x := x4) kc_195_446 rfl rfl ?_
                  refine xi_iconst (pc' := 449) (v := 2) kc_195_448 rfl rfl ?_
                  refine xi_iadd (pc' := 450) (v := v25) kc_195_449 rfl ev25 ?_
                  refine xi_ialoadO (pc' := 451) (v := a26) kc_195_450 rfl (by decide) hov0 (xi_in (by omega) (by omega)) ea26 ?_
                  refine xi_aload_n (pc' := 452) (x := 1000000) kc_195_451 rfl rfl ?_
                  refine xi_iload (pc' := 454) (x := x4) kc_195_452 rfl rfl ?_
                  refine xi_iconst (pc' := 455) (v := 3) kc_195_454 rfl rfl ?_
                  refine xi_iadd (pc' := 456) (v := v27) kc_195_455 rfl ev27 ?_
                  refine xi_ialoadO (pc' := 457) (v := a28) kc_195_456 rfl (by decide) hov0 (xi_in (by omega) (by omega)) ea28 ?_
                  refine xi_aload_n (pc' := 458) (x := 1000000) kc_195_457 rfl rfl ?_
                  refine xi_iload (pc' := 460) (x := x4) kc_195_458 rfl rfl ?_
                  refine xi_iconst (pc' := 461) (v := 4) kc_195_460 rfl rfl ?_
                  refine xi_iadd (pc' := 462) (v := v29) kc_195_461 rfl ev29 ?_
                  refine xi_ialoadO (pc' := 463) (v := a30) kc_195_462 rfl (by decide) hov0 (xi_in (by omega) (by omega)) ea30 ?_
                  refine xi_ift (pc' := 470) kc_195_463 rfl (xc_eq_t (X := a30.toInt) (Y := 0) rfl (by decide) (by omega)) ?_
                  refine xi_iconst (pc' := 471) (v := 0) kc_195_470 rfl rfl ?_
                  have A195 := ((eh191.2.1 115 (xk_nc mpt131 rfl)).trans ((eh187.2.1 115 (xk_nc mpt131 rfl)).trans ((eh183.2.1 115 (xk_nc mpt131 rfl)).trans ((eh122.2.1 115 (by decide)).trans A17))))
                  refine xi_virtual (mj := 23) (as := [.int a24, .int a26, .int a28, .int 0]) (st1 := []) (lv0 := [(0, .ref 115), (1, .int a24), (2, .int a26), (3, .int a28), (4, .int 0)]) kc_195_471 rfl rfl rfl rfl rfl A195 (Nat.le_of_ble_eq_true rfl) (hJ _ _ _ _ (by decide)) (xm_le ml_23 rfl) rfl ?_
                  refine xi_aload_n (pc' := 1) (x := 115) kc_23_0 rfl rfl ?_
                  refine xi_iconst (pc' := 2) (v := 0) kc_23_1 rfl rfl ?_
                  refine xi_putfield (pc' := 5) (fs' := [.int 0, .int u2, .ref 116, .ref 117, .ref 118, .ref 119, .ref 120, .ref 121, .ref 122, .ref 123, .ref 124, .ref 125, .ref 126, .ref 127, .ref 128, .ref 129, .int u6, .ref 130, .int u19, .ref 131, .ref 132, .ref 133, .ref 134, .int u8, .ref 135, .ref 136, .ref 137, .ref 138, .ref 139, .ref 140, .ref 141, .ref 142, .int u9, .int u10, .int u11, .ref 143, .ref 144, .ref 145, .ref 146, .ref 147, .ref 148, .int u12, .ref 149, .ref 150, .ref 151, .int u13, .ref 152, .ref 153, .ref 154, .ref 155, .ref 156, .ref 157, .ref 158, .ref 159, .int u14, .ref 160, .int u15, .ref 161, .ref 162, .ref 163, .ref 164, .int u16, .ref 165, .ref 166]) kc_23_2 rfl rfl rfl A195 rfl rfl rfl (Nat.le_of_ble_eq_true rfl) rfl (fun hh197 eh196 => ?_)
                  have K198 := xk_pf (k := 0) (v := 0) K194 (xk_wf rfl) xD_115 A195 rfl (by first | omega | decide) (by first | omega | decide) eh196 rfl
                  refine xi_iload_n (pc' := 6) (x := a24) kc_23_5 rfl rfl ?_
                  refine xi_static (mj := 24) (as := [.int a24]) (st1 := []) (lv0 := [(0, .int a24)]) kc_23_6 rfl rfl (Nat.le_of_ble_eq_true rfl) rfl rfl (Nat.le_of_ble_eq_true rfl) (hJ _ _ _ _ (by decide)) (xm_le ml_24 rfl) rfl ?_
                  refine xi_iload_n (pc' := 1) (x := a24) kc_24_0 rfl rfl ?_
                  refine xi_iconst (pc' := 2) (v := 0) kc_24_1 rfl rfl ?_
                  refine xi_bipush (pc' := 4) (v := 11) kc_24_2 rfl rfl ?_
                  refine xi_static (mj := 11) (as := [.int a24, .int 0, .int 11]) (st1 := []) (lv0 := [(0, .int a24), (1, .int 0), (2, .int 11)]) kc_24_4 rfl rfl (Nat.le_of_ble_eq_true rfl) rfl rfl (Nat.le_of_ble_eq_true rfl) (hJ _ _ _ _ (by decide)) (xm_le ml_11 rfl) rfl ?_
                  refine xi_iload_n (pc' := 1) (x := a24) kc_11_0 rfl rfl ?_
                  refine xi_iload_n (pc' := 2) (x := 0) kc_11_1 rfl rfl ?_
                  refine xi_cmf (pc' := 5) kc_11_2 rfl (xc_lt_f (X := a24.toInt) (Y := 0) rfl (by decide) (by omega)) ?_
                  refine xi_iload_n (pc' := 6) (x := a24) kc_11_5 rfl rfl ?_
                  refine xi_iload_n (pc' := 7) (x := 11) kc_11_6 rfl rfl ?_
                  refine xi_cmf (pc' := 10) kc_11_7 rfl (xc_gt_f (X := a24.toInt) (Y := 11) rfl (by decide) (by omega)) ?_
                  refine xi_iconst (pc' := 11) (v := 1) kc_11_10 rfl rfl ?_
                  refine xi_goto (pc' := 15) kc_11_11 rfl ?_
                  refine xi_ireturn kc_11_15 mr_11 rfl ?_
                  show xw J ov 98 24 (7, [(0, .int a24)], [.int 1], hh197) _
                  refine xi_ireturn kc_24_7 mr_24 rfl ?_
                  show xw J ov 99 23 (9, [(0, .ref 115), (1, .int a24), (2, .int a26), (3, .int a28), (4, .int 0)], [.int 1], hh197) _
                  refine xi_iff (pc' := 12) kc_23_9 rfl rfl ?_
                  refine xi_iload_n (pc' := 13) (x := a26) kc_23_12 rfl rfl ?_
                  refine xi_static (mj := 10) (as := [.int a26]) (st1 := []) (lv0 := [(0, .int a26)]) kc_23_13 rfl rfl (Nat.le_of_ble_eq_true rfl) rfl rfl (Nat.le_of_ble_eq_true rfl) (hJ _ _ _ _ (by decide)) (xm_le ml_10 rfl) rfl ?_
                  refine xi_iload_n (pc' := 1) (x := a26) kc_10_0 rfl rfl ?_
                  refine xi_iconst (pc' := 2) (v := 0) kc_10_1 rfl rfl ?_
                  refine xi_iconst (pc' := 3) (v := 5) kc_10_2 rfl rfl ?_
                  refine xi_static (mj := 11) (as := [.int a26, .int 0, .int 5]) (st1 := []) (lv0 := [(0, .int a26), (1, .int 0), (2, .int 5)]) kc_10_3 rfl rfl (Nat.le_of_ble_eq_true rfl) rfl rfl (Nat.le_of_ble_eq_true rfl) (hJ _ _ _ _ (by decide)) (xm_le ml_11 rfl) rfl ?_
                  refine xi_iload_n (pc' := 1) (x := a26) kc_11_0 rfl rfl ?_
                  refine xi_iload_n (pc' := 2) (x := 0) kc_11_1 rfl rfl ?_
                  refine xi_cmf (pc' := 5) kc_11_2 rfl (xc_lt_f (X := a26.toInt) (Y := 0) rfl (by decide) (by omega)) ?_
                  refine xi_iload_n (pc' := 6) (x := a26) kc_11_5 rfl rfl ?_
                  refine xi_iload_n (pc' := 7) (x := 5) kc_11_6 rfl rfl ?_
                  refine xi_cmf (pc' := 10) kc_11_7 rfl (xc_gt_f (X := a26.toInt) (Y := 5) rfl (by decide) (by omega)) ?_
                  refine xi_iconst (pc' := 11) (v := 1) kc_11_10 rfl rfl ?_
                  refine xi_goto (pc' := 15) kc_11_11 rfl ?_
                  refine xi_ireturn kc_11_15 mr_11 rfl ?_
                  show xw J ov 98 10 (6, [(0, .int a26)], [.int 1], hh197) _
                  refine xi_ireturn kc_10_6 mr_10 rfl ?_
                  show xw J ov 99 23 (16, [(0, .ref 115), (1, .int a24), (2, .int a26), (3, .int a28), (4, .int 0)], [.int 1], hh197) _
                  refine xi_ift (pc' := 25) kc_23_16 rfl rfl ?_
                  refine xi_iload_n (pc' := 26) (x := a28) kc_23_25 rfl rfl ?_
                  refine xi_ift (pc' := 36) kc_23_26 rfl (xc_ge_t (X := a28.toInt) (Y := 0) rfl (by decide) (by omega)) ?_
                  refine xi_iload_n (pc' := 37) (x := a28) kc_23_36 rfl rfl ?_
                  refine xi_bipush (pc' := 39) (v := 100) kc_23_37 rfl rfl ?_
                  refine xi_cmt (pc' := 49) kc_23_39 rfl (xc_le_t (X := a28.toInt) (Y := 100) rfl (by decide) (by omega)) ?_
                  refine xi_aload_n (pc' := 50) (x := 115) kc_23_49 rfl rfl ?_
                  refine xi_getfield (pc' := 53) (v := .ref 125) kc_23_50 rfl rfl rfl eh196.1 rfl ?_
                  refine xi_iload_n (pc' := 54) (x := a24) kc_23_53 rfl rfl ?_
                  have A199 := ((eh196.2.1 125 (by decide)).trans ((eh191.2.1 125 (xk_nc mpt131 rfl)).trans ((eh187.2.1 125 (xk_nc mpt131 rfl)).trans ((eh183.2.1 125 (xk_nc mpt131 rfl)).trans ((eh122.2.1 125 (by decide)).trans A139)))))
                  refine xi_iaload (pc' := 55) (v := u133) kc_23_54 rfl A199 (by decide) rfl (xi_in (by omega) (by rw [hy139]; omega)) HG140 ?_
                  refine xi_iff (pc' := 58) kc_23_55 rfl (xc_lt_f (X := u133.toInt) (Y := 0) rfl (by decide) (by omega)) ?_
                  refine xi_iconst (pc' := 59) (v := 1) kc_23_58 rfl rfl ?_
                  refine xi_goto (pc' := 63) kc_23_59 rfl ?_
                  refine xi_istore (pc' := 65) (lv' := [(5, .int 1), (0, .ref 115), (1, .int a24), (2, .int a26), (3, .int a28), (4, .int 0)]) kc_23_63 rfl rfl (xm_lt ml_23 rfl) ?_
                  refine xi_aload_n (pc' := 66) (x := 115) kc_23_65 rfl rfl ?_
                  refine xi_getfield (pc' := 69) (v := .ref 125) kc_23_66 rfl rfl rfl eh196.1 rfl ?_
                  refine xi_iload_n (pc' := 70) (x := a24) kc_23_69 rfl rfl ?_
                  refine xi_iload_n (pc' := 71) (x := a26) kc_23_70 rfl rfl ?_
                  obtain ⟨y200, s200, hy200, ry200⟩ := xj_set (v := a26) hy139 ry139 a24 (by first | omega | decide) (by first | omega | decide)
                  refine xi_iastore (pc' := 72) (x' := y200) kc_23_71 rfl A199 rfl (xi_in (by omega) (by rw [hy139]; omega)) s200 (fun hh200 eh200 => ?_)
                  have K201 := xk_pa K198 (xk_wa rfl) xD_125 hy200 ry200 eh200
                  refine xi_aload_n (pc' := 73) (x := 115) kc_23_72 rfl rfl ?_
                  have A202 := ((eh200.2.1 115 (by decide)).trans eh196.1)
                  refine xi_getfield (pc' := 76) (v := .ref 126) kc_23_73 rfl rfl rfl A202 rfl ?_
                  refine xi_iload_n (pc' := 77) (x := a24) kc_23_76 rfl rfl ?_
                  refine xi_iload_n (pc' := 78) (x := a28) kc_23_77 rfl rfl ?_
                  obtain ⟨y203, A203, hy203, ry203⟩ := xk_arr K.1 xD_126
                  have A204 := ((eh200.2.1 126 (by decide)).trans ((eh196.2.1 126 (by decide)).trans ((eh191.2.1 126 (xk_nc mpt131 rfl)).trans ((eh187.2.1 126 (xk_nc mpt131 rfl)).trans ((eh183.2.1 126 (xk_nc mpt131 rfl)).trans ((eh122.2.1 126 (by decide)).trans A203))))))
                  obtain ⟨y205, s205, hy205, ry205⟩ := xj_set (v := a28) hy203 ry203 a24 (by first | omega | decide) (by first | omega | decide)
                  refine xi_iastore (pc' := 79) (x' := y205) kc_23_78 rfl A204 rfl (xi_in (by omega) (by rw [hy203]; omega)) s205 (fun hh205 eh205 => ?_)
                  have K206 := xk_pa K201 (xk_wa rfl) xD_126 hy205 ry205 eh205
                  refine xi_aload_n (pc' := 80) (x := 115) kc_23_79 rfl rfl ?_
                  have A207 := ((eh205.2.1 115 (by decide)).trans A202)
                  refine xi_getfield (pc' := 83) (v := .ref 127) kc_23_80 rfl rfl rfl A207 rfl ?_
                  refine xi_iload_n (pc' := 84) (x := a24) kc_23_83 rfl rfl ?_
                  refine xi_iload (pc' := 86) (x := 0) kc_23_84 rfl rfl ?_
                  obtain ⟨y208, A208, hy208, ry208⟩ := xk_arr K.1 xD_127
                  have A209 := ((eh205.2.1 127 (by decide)).trans ((eh200.2.1 127 (by decide)).trans ((eh196.2.1 127 (by decide)).trans ((eh191.2.1 127 (xk_nc mpt131 rfl)).trans ((eh187.2.1 127 (xk_nc mpt131 rfl)).trans ((eh183.2.1 127 (xk_nc mpt131 rfl)).trans ((eh122.2.1 127 (by decide)).trans A208)))))))
                  obtain ⟨y210, s210, hy210, ry210⟩ := xj_set (v := 0) hy208 ry208 a24 (by first | omega | decide) (by first | omega | decide)
                  refine xi_bastore (pc' := 87) (x' := y210) kc_23_86 rfl A209 rfl (xi_in (by omega) (by rw [hy208]; omega)) s210 (fun hh210 eh210 => ?_)
                  have K211 := xk_pa K206 (xk_wa rfl) xD_127 hy210 ry210 eh210
                  refine xi_aload_n (pc' := 88) (x := 115) kc_23_87 rfl rfl ?_
                  refine xi_iconst (pc' := 89) (v := 0) kc_23_88 rfl rfl ?_
                  have A212 := ((eh210.2.1 115 (by decide)).trans A207)
                  refine xi_putfield (pc' := 92) (fs' := [.int 0, .int u2, .ref 116, .ref 117, .ref 118, .ref 119, .ref 120, .ref 121, .ref 122, .ref 123, .ref 124, .ref 125, .ref 126, .ref 127, .ref 128, .ref 129, .int u6, .ref 130, .int u19, .ref 131, .ref 132, .ref 133, .ref 134, .int u8, .ref 135, .ref 136, .ref 137, .ref 138, .ref 139, .ref 140, .ref 141, .ref 142, .int u9, .int u10, .int u11, .ref 143, .ref 144, .ref 145, .ref 146, .ref 147, .ref 148, .int 0, .ref 149, .ref 150, .ref 151, .int u13, .ref 152, .ref 153, .ref 154, .ref 155, .ref 156, .ref 157, .ref 158, .ref 159, .int u14, .ref 160, .int u15, .ref 161, .ref 162, .ref 163, .ref 164, .int u16, .ref 165, .ref 166]) kc_23_89 rfl rfl rfl A212 rfl rfl rfl (Nat.le_of_ble_eq_true rfl) rfl (fun hh214 eh213 => ?_)
                  have K215 := xk_pf (k := 41) (v := 0) K211 (xk_wf rfl) xD_115 A212 rfl (by first | omega | decide) (by first | omega | decide) eh213 rfl
                  refine xi_iload (pc' := 94) (x := 1) kc_23_92 rfl rfl ?_
                  refine xi_iff (pc' := 97) kc_23_94 rfl rfl ?_
                  refine xi_iconst (pc' := 98) (v := 0) kc_23_97 rfl rfl ?_
                  refine xi_goto (pc' := 102) kc_23_98 rfl ?_
                  refine xi_ireturn kc_23_102 mr_23 rfl ?_
                  show xw J ov 100 195 (474, [(4, .int x4), (3, .ref 167), (2, .ref 115), (1, .ref 0), (0, .ref 1000000)], [.int 0], hh214) _
                  refine xi_pop (pc' := 475) kc_195_474 rfl rfl ?_
                  refine xi_goto (pc' := 1501) kc_195_475 rfl ?_
                  obtain ⟨v216, ev216⟩ : ∃ q : Int32, x4 + 6 = q := ⟨_, rfl⟩
                  have zv216 : v216.toInt = (x4.toInt + 6) := by rw [← ev216]; exact (xz_add (X := x4.toInt) (Y := 6) rfl (by decide) (by omega) (by omega)).trans (by omega)
                  refine xi_iinc (pc' := 1504) (x := x4) (v := v216) (lv' := [(4, .int v216), (3, .ref 167), (2, .ref 115), (1, .ref 0), (0, .ref 1000000)]) kc_195_1501 rfl rfl ev216 rfl (xm_lt ml_195 rfl) ?_
                  refine xi_goto (pc' := 23) kc_195_1504 rfl ?_
                  have A217 := ((eh213.2.1 pt131 (Ne.symm (xk_nc mpt131 rfl))).trans ((eh210.2.1 pt131 (Ne.symm (xk_nc mpt131 rfl))).trans ((eh205.2.1 pt131 (Ne.symm (xk_nc mpt131 rfl))).trans ((eh200.2.1 pt131 (Ne.symm (xk_nc mpt131 rfl))).trans ((eh196.2.1 pt131 (Ne.symm (xk_nc mpt131 rfl))).trans eh191.1)))))
                  have A218 := ((eh213.2.1 125 (by decide)).trans ((eh210.2.1 125 (by decide)).trans ((eh205.2.1 125 (by decide)).trans eh200.1)))
                  have A219 := ((eh213.2.1 0 (by decide)).trans ((eh210.2.1 0 (by decide)).trans ((eh205.2.1 0 (by decide)).trans ((eh200.2.1 0 (by decide)).trans ((eh196.2.1 0 (by decide)).trans ((eh191.2.1 0 (xk_nc mpt131 rfl)).trans ((eh187.2.1 0 (xk_nc mpt131 rfl)).trans ((eh183.2.1 0 (xk_nc mpt131 rfl)).trans A125))))))))
                  have A220 := ((eh213.2.1 66 (by decide)).trans ((eh210.2.1 66 (by decide)).trans ((eh205.2.1 66 (by decide)).trans ((eh200.2.1 66 (by decide)).trans ((eh196.2.1 66 (by decide)).trans ((eh191.2.1 66 (xk_nc mpt131 rfl)).trans ((eh187.2.1 66 (xk_nc mpt131 rfl)).trans ((eh183.2.1 66 (xk_nc mpt131 rfl)).trans eh122.1))))))))
                  have A221 := ((eh213.2.1 71 (by decide)).trans ((eh210.2.1 71 (by decide)).trans ((eh205.2.1 71 (by decide)).trans ((eh200.2.1 71 (by decide)).trans ((eh196.2.1 71 (by decide)).trans ((eh191.2.1 71 (xk_nc mpt131 rfl)).trans ((eh187.2.1 71 (xk_nc mpt131 rfl)).trans ((eh183.2.1 71 (xk_nc mpt131 rfl)).trans ((eh122.2.1 71 (by decide)).trans A21)))))))))
                  have A222 := ((eh213.2.1 132 (by decide)).trans ((eh210.2.1 132 (by decide)).trans ((eh205.2.1 132 (by decide)).trans ((eh200.2.1 132 (by decide)).trans ((eh196.2.1 132 (by decide)).trans ((eh191.2.1 132 (xk_nc mpt131 rfl)).trans ((eh187.2.1 132 (xk_nc mpt131 rfl)).trans ((eh183.2.1 132 (xk_nc mpt131 rfl)).trans ((eh122.2.1 132 (by decide)).trans A22)))))))))
                  exact kk v216 hh214 (by omega) K215 ⟨(xGR_set (Lo := [some 29, some 31, some 33, some 35, some 37, some 39, some 41, some 43, some 45, some 47, some 49, some 51]) I.1 (by decide) rfl ept131 (by omega) (by show _ < ((12 : Nat) : Int); omega) A139 (by rw [hy139]; decide) A217 rfl A218 s200 (fun c hc hne => ((eh213.2.1 c (Ne.symm (xk_nc hc rfl))).trans ((eh210.2.1 c (Ne.symm (xk_nc hc rfl))).trans ((eh205.2.1 c (Ne.symm (xk_nc hc rfl))).trans ((eh200.2.1 c (Ne.symm (xk_nc hc rfl))).trans ((eh196.2.1 c (Ne.symm (xk_nc hc rfl))).trans ((eh191.2.1 c hne).trans ((eh187.2.1 c hne).trans ((eh183.2.1 c hne).trans (eh122.2.1 c (Ne.symm (xk_nc hc rfl))))))))))))), ((xl_of A219 rfl).trans (xl_of eh213.1 rfl).symm), ((xl_of A220 rfl).trans (xl_of eh213.1 rfl).symm), ((xl_arr A221).trans (xl_arr A222).symm)⟩
              · refine xi_cmf (pc' := 37) kc_103_34 rfl (xc_le_f (X := a28.toInt) (Y := 100) rfl (by decide) (by omega)) ?_
                refine xi_aload_n (pc' := 38) (x := 0) kc_103_37 rfl rfl ?_
                refine xi_bipush (pc' := 40) (v := (-6)) kc_103_38 rfl rfl ?_
                refine xi_virtual (mj := 90) (as := [.int (-6)]) (st1 := []) (lv0 := [(0, .ref 0), (1, .int (-6))]) kc_103_40 rfl rfl rfl rfl rfl A3 (Nat.le_of_ble_eq_true rfl) (hJ _ _ _ _ (by decide)) (xm_le ml_90 rfl) rfl ?_
                refine xi_iload_n (pc' := 1) (x := (-6)) kc_90_0 rfl rfl ?_
                refine xi_ineg (pc' := 2) (v := 6) kc_90_1 rfl rfl ?_
                refine xi_istore_n (pc' := 3) (lv' := [(2, .int 6), (0, .ref 0), (1, .int (-6))]) kc_90_2 rfl rfl (xm_lt ml_90 rfl) ?_
                refine xi_iload_n (pc' := 4) (x := 6) kc_90_3 rfl rfl ?_
                refine xi_iff (pc' := 7) kc_90_4 rfl rfl ?_
                refine xi_iload_n (pc' := 8) (x := 6) kc_90_7 rfl rfl ?_
                refine xi_aload_n (pc' := 9) (x := 0) kc_90_8 rfl rfl ?_
                refine xi_getfield (pc' := 12) (v := .ref 94) kc_90_9 rfl rfl rfl A3 rfl ?_
                obtain ⟨y223, A223, hy223, ry223⟩ := xk_arr K.1 xD_94
                refine xi_arraylength (pc' := 13) (n := 7) (v := 7) kc_90_12 rfl (xl_lenI (by decide) (by decide) A223 hy223) rfl ?_
                refine xi_cmf (pc' := 16) kc_90_13 rfl rfl ?_
                refine xi_aload_n (pc' := 17) (x := 0) kc_90_16 rfl rfl ?_
                refine xi_getfield (pc' := 20) (v := .ref 94) kc_90_17 rfl rfl rfl A3 rfl ?_
                refine xi_iload_n (pc' := 21) (x := 6) kc_90_20 rfl rfl ?_
                refine xi_dup2 (pc' := 22) kc_90_21 rfl ⟨rfl, rfl⟩ ?_
                obtain ⟨v224, ev224, bv224, dv224⟩ := xj_get hy223 ry223 (i := 6) (by decide) (by decide)
                refine xi_iaload (pc' := 23) (v := v224) kc_90_22 rfl A223 (by decide) rfl (xi_in (by decide) (by rw [hy223]; decide)) ev224 ?_
                refine xi_iconst (pc' := 24) (v := 1) kc_90_23 rfl rfl ?_
                obtain ⟨v225, ev225⟩ : ∃ q : Int32, (v224 : Int32) + 1 = q := ⟨_, rfl⟩
                have rv225 := xc_rng v225
                refine xi_iadd (pc' := 25) (v := v225) kc_90_24 rfl ev225 ?_
                obtain ⟨y226, s226, hy226, ry226⟩ := xj_set (v := v225) hy223 ry223 6 (by first | omega | decide) (by first | omega | decide)
                refine xi_iastore (pc' := 26) (x' := y226) kc_90_25 rfl A223 rfl (xi_in (by decide) (by rw [hy223]; decide)) s226 (fun hh226 eh226 => ?_)
                have K227 := xk_pa K (xk_wa rfl) xD_94 hy226 ry226 eh226
                refine xi_iload_n (pc' := 27) (x := (-6)) kc_90_26 rfl rfl ?_
                refine xi_ireturn kc_90_27 mr_90 rfl ?_
                show xw J ov 99 103 (43, [(0, .ref 0), (1, .int a24), (2, .int a26), (3, .int a28), (4, .int 0)], [.int (-6)], hh226) _
                refine xi_ireturn kc_103_43 mr_103 rfl ?_
                show xw J ov 100 195 (437, [(4, .int x4), (3, .ref 167), (2, .ref 115), (1, .ref 0), (0, .ref 1000000)], [.int (-6)], hh226) _
                refine xi_pop (pc' := 438) kc_195_437 rfl rfl ?_
                refine xi_aload_n (pc' := 439) (x := 115) kc_195_438 rfl rfl ?_
                refine xi_aload_n (pc' := 440) (x := 1000000) kc_195_439 rfl rfl ?_
                refine xi_iload (pc' := 442) (x := x4) kc_195_440 rfl rfl ?_
                refine xi_iconst (pc' := 443) (v := 1) kc_195_442 rfl rfl ?_
                refine xi_iadd (pc' := 444) (v := v23) kc_195_443 rfl ev23 ?_
                refine xi_ialoadO (pc' := 445) (v := a24) kc_195_444 rfl (by decide) hov0 (xi_in (by omega) (by omega)) ea24 ?_
                refine xi_aload_n (pc' := 446) (x := 1000000) kc_195_445 rfl rfl ?_
                refine xi_iload (pc' := 448) (x := x4) kc_195_446 rfl rfl ?_
                refine xi_iconst (pc' := 449) (v := 2) kc_195_448 rfl rfl ?_
                refine xi_iadd (pc' := 450) (v := v25) kc_195_449 rfl ev25 ?_
                refine xi_ialoadO (pc' := 451) (v := a26) kc_195_450 rfl (by decide) hov0 (xi_in (by omega) (by omega)) ea26 ?_
                refine xi_aload_n (pc' := 452) (x := 1000000) kc_195_451 rfl rfl ?_
                refine xi_iload (pc' := 454) (x := x4) kc_195_452 rfl rfl ?_
                refine xi_iconst (pc' := 455) (v := 3) kc_195_454 rfl rfl ?_
                refine xi_iadd (pc' := 456) (v := v27) kc_195_455 rfl ev27 ?_
                refine xi_ialoadO (pc' := 457) (v := a28) kc_195_456 rfl (by decide) hov0 (xi_in (by omega) (by omega)) ea28 ?_
                refine xi_aload_n (pc' := 458) (x := 1000000) kc_195_457 rfl rfl ?_
                refine xi_iload (pc' := 460) (x := x4) kc_195_458 rfl rfl ?_
                refine xi_iconst (pc' := 461) (v := 4) kc_195_460 rfl rfl ?_
                refine xi_iadd (pc' := 462) (v := v29) kc_195_461 rfl ev29 ?_
                refine xi_ialoadO (pc' := 463) (v := a30) kc_195_462 rfl (by decide) hov0 (xi_in (by omega) (by omega)) ea30 ?_
                refine xi_ift (pc' := 470) kc_195_463 rfl (xc_eq_t (X := a30.toInt) (Y := 0) rfl (by decide) (by omega)) ?_
                refine xi_iconst (pc' := 471) (v := 0) kc_195_470 rfl rfl ?_
                have A228 := ((eh226.2.1 115 (by decide)).trans A17)
                refine xi_virtual (mj := 23) (as := [.int a24, .int a26, .int a28, .int 0]) (st1 := []) (lv0 := [(0, .ref 115), (1, .int a24), (2, .int a26), (3, .int a28), (4, .int 0)]) kc_195_471 rfl rfl rfl rfl rfl A228 (Nat.le_of_ble_eq_true rfl) (hJ _ _ _ _ (by decide)) (xm_le ml_23 rfl) rfl ?_
                refine xi_aload_n (pc' := 1) (x := 115) kc_23_0 rfl rfl ?_
                refine xi_iconst (pc' := 2) (v := 0) kc_23_1 rfl rfl ?_
                refine xi_putfield (pc' := 5) (fs' := [.int 0, .int u2, .ref 116, .ref 117, .ref 118, .ref 119, .ref 120, .ref 121, .ref 122, .ref 123, .ref 124, .ref 125, .ref 126, .ref 127, .ref 128, .ref 129, .int u6, .ref 130, .int u19, .ref 131, .ref 132, .ref 133, .ref 134, .int u8, .ref 135, .ref 136, .ref 137, .ref 138, .ref 139, .ref 140, .ref 141, .ref 142, .int u9, .int u10, .int u11, .ref 143, .ref 144, .ref 145, .ref 146, .ref 147, .ref 148, .int u12, .ref 149, .ref 150, .ref 151, .int u13, .ref 152, .ref 153, .ref 154, .ref 155, .ref 156, .ref 157, .ref 158, .ref 159, .int u14, .ref 160, .int u15, .ref 161, .ref 162, .ref 163, .ref 164, .int u16, .ref 165, .ref 166]) kc_23_2 rfl rfl rfl A228 rfl rfl rfl (Nat.le_of_ble_eq_true rfl) rfl (fun hh230 eh229 => ?_)
                have K231 := xk_pf (k := 0) (v := 0) K227 (xk_wf rfl) xD_115 A228 rfl (by first | omega | decide) (by first | omega | decide) eh229 rfl
                refine xi_iload_n (pc' := 6) (x := a24) kc_23_5 rfl rfl ?_
                refine xi_static (mj := 24) (as := [.int a24]) (st1 := []) (lv0 := [(0, .int a24)]) kc_23_6 rfl rfl (Nat.le_of_ble_eq_true rfl) rfl rfl (Nat.le_of_ble_eq_true rfl) (hJ _ _ _ _ (by decide)) (xm_le ml_24 rfl) rfl ?_
                refine xi_iload_n (pc' := 1) (x := a24) kc_24_0 rfl rfl ?_
                refine xi_iconst (pc' := 2) (v := 0) kc_24_1 rfl rfl ?_
                refine xi_bipush (pc' := 4) (v := 11) kc_24_2 rfl rfl ?_
                refine xi_static (mj := 11) (as := [.int a24, .int 0, .int 11]) (st1 := []) (lv0 := [(0, .int a24), (1, .int 0), (2, .int 11)]) kc_24_4 rfl rfl (Nat.le_of_ble_eq_true rfl) rfl rfl (Nat.le_of_ble_eq_true rfl) (hJ _ _ _ _ (by decide)) (xm_le ml_11 rfl) rfl ?_
                refine xi_iload_n (pc' := 1) (x := a24) kc_11_0 rfl rfl ?_
                refine xi_iload_n (pc' := 2) (x := 0) kc_11_1 rfl rfl ?_
                refine xi_cmf (pc' := 5) kc_11_2 rfl (xc_lt_f (X := a24.toInt) (Y := 0) rfl (by decide) (by omega)) ?_
                refine xi_iload_n (pc' := 6) (x := a24) kc_11_5 rfl rfl ?_
                refine xi_iload_n (pc' := 7) (x := 11) kc_11_6 rfl rfl ?_
                refine xi_cmf (pc' := 10) kc_11_7 rfl (xc_gt_f (X := a24.toInt) (Y := 11) rfl (by decide) (by omega)) ?_
                refine xi_iconst (pc' := 11) (v := 1) kc_11_10 rfl rfl ?_
                refine xi_goto (pc' := 15) kc_11_11 rfl ?_
                refine xi_ireturn kc_11_15 mr_11 rfl ?_
                show xw J ov 98 24 (7, [(0, .int a24)], [.int 1], hh230) _
                refine xi_ireturn kc_24_7 mr_24 rfl ?_
                show xw J ov 99 23 (9, [(0, .ref 115), (1, .int a24), (2, .int a26), (3, .int a28), (4, .int 0)], [.int 1], hh230) _
                refine xi_iff (pc' := 12) kc_23_9 rfl rfl ?_
                refine xi_iload_n (pc' := 13) (x := a26) kc_23_12 rfl rfl ?_
                refine xi_static (mj := 10) (as := [.int a26]) (st1 := []) (lv0 := [(0, .int a26)]) kc_23_13 rfl rfl (Nat.le_of_ble_eq_true rfl) rfl rfl (Nat.le_of_ble_eq_true rfl) (hJ _ _ _ _ (by decide)) (xm_le ml_10 rfl) rfl ?_
                refine xi_iload_n (pc' := 1) (x := a26) kc_10_0 rfl rfl ?_
                refine xi_iconst (pc' := 2) (v := 0) kc_10_1 rfl rfl ?_
                refine xi_iconst (pc' := 3) (v := 5) kc_10_2 rfl rfl ?_
                refine xi_static (mj := 11) (as := [.int a26, .int 0, .int 5]) (st1 := []) (lv0 := [(0, .int a26), (1, .int 0), (2, .int 5)]) kc_10_3 rfl rfl (Nat.le_of_ble_eq_true rfl) rfl rfl (Nat.le_of_ble_eq_true rfl) (hJ _ _ _ _ (by decide)) (xm_le ml_11 rfl) rfl ?_
                refine xi_iload_n (pc' := 1) (x := a26) kc_11_0 rfl rfl ?_
                refine xi_iload_n (pc' := 2) (x := 0) kc_11_1 rfl rfl ?_
                refine xi_cmf (pc' := 5) kc_11_2 rfl (xc_lt_f (X := a26.toInt) (Y := 0) rfl (by decide) (by omega)) ?_
                refine xi_iload_n (pc' := 6) (x := a26) kc_11_5 rfl rfl ?_
                refine xi_iload_n (pc' := 7) (x := 5) kc_11_6 rfl rfl ?_
                refine xi_cmf (pc' := 10) kc_11_7 rfl (xc_gt_f (X := a26.toInt) (Y := 5) rfl (by decide) (by omega)) ?_
                refine xi_iconst (pc' := 11) (v := 1) kc_11_10 rfl rfl ?_
                refine xi_goto (pc' := 15) kc_11_11 rfl ?_
                refine xi_ireturn kc_11_15 mr_11 rfl ?_
                show xw J ov 98 10 (6, [(0, .int a26)], [.int 1], hh230) _
                refine xi_ireturn kc_10_6 mr_10 rfl ?_
                show xw J ov 99 23 (16, [(0, .ref 115), (1, .int a24), (2, .int a26), (3, .int a28), (4, .int 0)], [.int 1], hh230) _
                refine xi_ift (pc' := 25) kc_23_16 rfl rfl ?_
                refine xi_iload_n (pc' := 26) (x := a28) kc_23_25 rfl rfl ?_
                refine xi_ift (pc' := 36) kc_23_26 rfl (xc_ge_t (X := a28.toInt) (Y := 0) rfl (by decide) (by omega)) ?_
                refine xi_iload_n (pc' := 37) (x := a28) kc_23_36 rfl rfl ?_
                refine xi_bipush (pc' := 39) (v := 100) kc_23_37 rfl rfl ?_
                refine xi_cmf (pc' := 42) kc_23_39 rfl (xc_le_f (X := a28.toInt) (Y := 100) rfl (by decide) (by omega)) ?_
                refine xi_aload_n (pc' := 43) (x := 115) kc_23_42 rfl rfl ?_
                refine xi_bipush (pc' := 45) (v := (-6)) kc_23_43 rfl rfl ?_
                refine xi_virtual (mj := 12) (as := [.int (-6)]) (st1 := []) (lv0 := [(0, .ref 115), (1, .int (-6))]) kc_23_45 rfl rfl rfl rfl rfl eh229.1 (Nat.le_of_ble_eq_true rfl) (hJ _ _ _ _ (by decide)) (xm_le ml_12 rfl) rfl ?_
                refine xi_aload_n (pc' := 1) (x := 115) kc_12_0 rfl rfl ?_
                refine xi_getfield (pc' := 4) (v := .ref 140) kc_12_1 rfl rfl rfl eh229.1 rfl ?_
                refine xi_iload_n (pc' := 5) (x := (-6)) kc_12_4 rfl rfl ?_
                refine xi_ineg (pc' := 6) (v := 6) kc_12_5 rfl rfl ?_
                refine xi_dup2 (pc' := 7) kc_12_6 rfl ⟨rfl, rfl⟩ ?_
                obtain ⟨y232, A232, hy232, ry232⟩ := xk_arr K.1 xD_140
                obtain ⟨v233, ev233, bv233, dv233⟩ := xj_get hy232 ry232 (i := 6) (by decide) (by decide)
                have A234 := ((eh229.2.1 140 (by decide)).trans ((eh226.2.1 140 (by decide)).trans A232))
                refine xi_iaload (pc' := 8) (v := v233) kc_12_7 rfl A234 (by decide) rfl (xi_in (by decide) (by rw [hy232]; decide)) ev233 ?_
                refine xi_iconst (pc' := 9) (v := 1) kc_12_8 rfl rfl ?_
                obtain ⟨v235, ev235⟩ : ∃ q : Int32, (v233 : Int32) + 1 = q := ⟨_, rfl⟩
                have rv235 := xc_rng v235
                refine xi_iadd (pc' := 10) (v := v235) kc_12_9 rfl ev235 ?_
                obtain ⟨y236, s236, hy236, ry236⟩ := xj_set (v := v235) hy232 ry232 6 (by first | omega | decide) (by first | omega | decide)
                refine xi_iastore (pc' := 11) (x' := y236) kc_12_10 rfl A234 rfl (xi_in (by decide) (by rw [hy232]; decide)) s236 (fun hh236 eh236 => ?_)
                have K237 := xk_pa K231 (xk_wa rfl) xD_140 hy236 ry236 eh236
                refine xi_iload_n (pc' := 12) (x := (-6)) kc_12_11 rfl rfl ?_
                refine xi_ireturn kc_12_12 mr_12 rfl ?_
                show xw J ov 99 23 (48, [(0, .ref 115), (1, .int a24), (2, .int a26), (3, .int a28), (4, .int 0)], [.int (-6)], hh236) _
                refine xi_ireturn kc_23_48 mr_23 rfl ?_
                show xw J ov 100 195 (474, [(4, .int x4), (3, .ref 167), (2, .ref 115), (1, .ref 0), (0, .ref 1000000)], [.int (-6)], hh236) _
                refine xi_pop (pc' := 475) kc_195_474 rfl rfl ?_
                refine xi_goto (pc' := 1501) kc_195_475 rfl ?_
                obtain ⟨v238, ev238⟩ : ∃ q : Int32, x4 + 6 = q := ⟨_, rfl⟩
                have zv238 : v238.toInt = (x4.toInt + 6) := by rw [← ev238]; exact (xz_add (X := x4.toInt) (Y := 6) rfl (by decide) (by omega) (by omega)).trans (by omega)
                refine xi_iinc (pc' := 1504) (x := x4) (v := v238) (lv' := [(4, .int v238), (3, .ref 167), (2, .ref 115), (1, .ref 0), (0, .ref 1000000)]) kc_195_1501 rfl rfl ev238 rfl (xm_lt ml_195 rfl) ?_
                refine xi_goto (pc' := 23) kc_195_1504 rfl ?_
                have A239 := ((eh236.2.1 0 (by decide)).trans ((eh229.2.1 0 (by decide)).trans ((eh226.2.1 0 (by decide)).trans A3)))
                have A240 := ((eh236.2.1 115 (by decide)).trans eh229.1)
                have A241 := ((eh236.2.1 66 (by decide)).trans ((eh229.2.1 66 (by decide)).trans ((eh226.2.1 66 (by decide)).trans A20)))
                have A242 := ((eh236.2.1 71 (by decide)).trans ((eh229.2.1 71 (by decide)).trans ((eh226.2.1 71 (by decide)).trans A21)))
                have A243 := ((eh236.2.1 132 (by decide)).trans ((eh229.2.1 132 (by decide)).trans ((eh226.2.1 132 (by decide)).trans A22)))
                exact kk v238 hh236 (by omega) K237 ⟨(xGR_kept I.1 (fun c hc => ((eh236.2.1 c (Ne.symm (xk_nc hc rfl))).trans ((eh229.2.1 c (Ne.symm (xk_nc hc rfl))).trans (eh226.2.1 c (Ne.symm (xk_nc hc rfl)))))) ((eh236.2.1 125 (by decide)).trans ((eh229.2.1 125 (by decide)).trans (eh226.2.1 125 (by decide))))), ((xl_of A239 rfl).trans (xl_of A240 rfl).symm), ((xl_of A241 rfl).trans (xl_of A240 rfl).symm), ((xl_arr A242).trans (xl_arr A243).symm)⟩
            · refine xi_iff (pc' := 24) kc_103_21 rfl (xc_ge_f (X := a28.toInt) (Y := 0) rfl (by decide) (by omega)) ?_
              refine xi_aload_n (pc' := 25) (x := 0) kc_103_24 rfl rfl ?_
              refine xi_bipush (pc' := 27) (v := (-4)) kc_103_25 rfl rfl ?_
              refine xi_virtual (mj := 90) (as := [.int (-4)]) (st1 := []) (lv0 := [(0, .ref 0), (1, .int (-4))]) kc_103_27 rfl rfl rfl rfl rfl A3 (Nat.le_of_ble_eq_true rfl) (hJ _ _ _ _ (by decide)) (xm_le ml_90 rfl) rfl ?_
              refine xi_iload_n (pc' := 1) (x := (-4)) kc_90_0 rfl rfl ?_
              refine xi_ineg (pc' := 2) (v := 4) kc_90_1 rfl rfl ?_
              refine xi_istore_n (pc' := 3) (lv' := [(2, .int 4), (0, .ref 0), (1, .int (-4))]) kc_90_2 rfl rfl (xm_lt ml_90 rfl) ?_
              refine xi_iload_n (pc' := 4) (x := 4) kc_90_3 rfl rfl ?_
              refine xi_iff (pc' := 7) kc_90_4 rfl rfl ?_
              refine xi_iload_n (pc' := 8) (x := 4) kc_90_7 rfl rfl ?_
              refine xi_aload_n (pc' := 9) (x := 0) kc_90_8 rfl rfl ?_
              refine xi_getfield (pc' := 12) (v := .ref 94) kc_90_9 rfl rfl rfl A3 rfl ?_
              obtain ⟨y244, A244, hy244, ry244⟩ := xk_arr K.1 xD_94
              refine xi_arraylength (pc' := 13) (n := 7) (v := 7) kc_90_12 rfl (xl_lenI (by decide) (by decide) A244 hy244) rfl ?_
              refine xi_cmf (pc' := 16) kc_90_13 rfl rfl ?_
              refine xi_aload_n (pc' := 17) (x := 0) kc_90_16 rfl rfl ?_
              refine xi_getfield (pc' := 20) (v := .ref 94) kc_90_17 rfl rfl rfl A3 rfl ?_
              refine xi_iload_n (pc' := 21) (x := 4) kc_90_20 rfl rfl ?_
              refine xi_dup2 (pc' := 22) kc_90_21 rfl ⟨rfl, rfl⟩ ?_
              obtain ⟨v245, ev245, bv245, dv245⟩ := xj_get hy244 ry244 (i := 4) (by decide) (by decide)
              refine xi_iaload (pc' := 23) (v := v245) kc_90_22 rfl A244 (by decide) rfl (xi_in (by decide) (by rw [hy244]; decide)) ev245 ?_
              refine xi_iconst (pc' := 24) (v := 1) kc_90_23 rfl rfl ?_
              obtain ⟨v246, ev246⟩ : ∃ q : Int32, (v245 : Int32) + 1 = q := ⟨_, rfl⟩
              have rv246 := xc_rng v246
              refine xi_iadd (pc' := 25) (v := v246) kc_90_24 rfl ev246 ?_
              obtain ⟨y247, s247, hy247, ry247⟩ := xj_set (v := v246) hy244 ry244 4 (by first | omega | decide) (by first | omega | decide)
              refine xi_iastore (pc' := 26) (x' := y247) kc_90_25 rfl A244 rfl (xi_in (by decide) (by rw [hy244]; decide)) s247 (fun hh247 eh247 => ?_)
              have K248 := xk_pa K (xk_wa rfl) xD_94 hy247 ry247 eh247
              refine xi_iload_n (pc' := 27) (x := (-4)) kc_90_26 rfl rfl ?_
              refine xi_ireturn kc_90_27 mr_90 rfl ?_
              show xw J ov 99 103 (30, [(0, .ref 0), (1, .int a24), (2, .int a26), (3, .int a28), (4, .int 0)], [.int (-4)], hh247) _
              refine xi_ireturn kc_103_30 mr_103 rfl ?_
              show xw J ov 100 195 (437, [(4, .int x4), (3, .ref 167), (2, .ref 115), (1, .ref 0), (0, .ref 1000000)], [.int (-4)], hh247) _
              refine xi_pop (pc' := 438) kc_195_437 rfl rfl ?_
              refine xi_aload_n (pc' := 439) (x := 115) kc_195_438 rfl rfl ?_
              refine xi_aload_n (pc' := 440) (x := 1000000) kc_195_439 rfl rfl ?_
              refine xi_iload (pc' := 442) (x := x4) kc_195_440 rfl rfl ?_
              refine xi_iconst (pc' := 443) (v := 1) kc_195_442 rfl rfl ?_
              refine xi_iadd (pc' := 444) (v := v23) kc_195_443 rfl ev23 ?_
              refine xi_ialoadO (pc' := 445) (v := a24) kc_195_444 rfl (by decide) hov0 (xi_in (by omega) (by omega)) ea24 ?_
              refine xi_aload_n (pc' := 446) (x := 1000000) kc_195_445 rfl rfl ?_
              refine xi_iload (pc' := 448) (x := x4) kc_195_446 rfl rfl ?_
              refine xi_iconst (pc' := 449) (v := 2) kc_195_448 rfl rfl ?_
              refine xi_iadd (pc' := 450) (v := v25) kc_195_449 rfl ev25 ?_
              refine xi_ialoadO (pc' := 451) (v := a26) kc_195_450 rfl (by decide) hov0 (xi_in (by omega) (by omega)) ea26 ?_
              refine xi_aload_n (pc' := 452) (x := 1000000) kc_195_451 rfl rfl ?_
              refine xi_iload (pc' := 454) (x := x4) kc_195_452 rfl rfl ?_
              refine xi_iconst (pc' := 455) (v := 3) kc_195_454 rfl rfl ?_
              refine xi_iadd (pc' := 456) (v := v27) kc_195_455 rfl ev27 ?_
              refine xi_ialoadO (pc' := 457) (v := a28) kc_195_456 rfl (by decide) hov0 (xi_in (by omega) (by omega)) ea28 ?_
              refine xi_aload_n (pc' := 458) (x := 1000000) kc_195_457 rfl rfl ?_
              refine xi_iload (pc' := 460) (x := x4) kc_195_458 rfl rfl ?_
              refine xi_iconst (pc' := 461) (v := 4) kc_195_460 rfl rfl ?_
              refine xi_iadd (pc' := 462) (v := v29) kc_195_461 rfl ev29 ?_
              refine xi_ialoadO (pc' := 463) (v := a30) kc_195_462 rfl (by decide) hov0 (xi_in (by omega) (by omega)) ea30 ?_
              refine xi_ift (pc' := 470) kc_195_463 rfl (xc_eq_t (X := a30.toInt) (Y := 0) rfl (by decide) (by omega)) ?_
              refine xi_iconst (pc' := 471) (v := 0) kc_195_470 rfl rfl ?_
              have A249 := ((eh247.2.1 115 (by decide)).trans A17)
              refine xi_virtual (mj := 23) (as := [.int a24, .int a26, .int a28, .int 0]) (st1 := []) (lv0 := [(0, .ref 115), (1, .int a24), (2, .int a26), (3, .int a28), (4, .int 0)]) kc_195_471 rfl rfl rfl rfl rfl A249 (Nat.le_of_ble_eq_true rfl) (hJ _ _ _ _ (by decide)) (xm_le ml_23 rfl) rfl ?_
              refine xi_aload_n (pc' := 1) (x := 115) kc_23_0 rfl rfl ?_
              refine xi_iconst (pc' := 2) (v := 0) kc_23_1 rfl rfl ?_
              refine xi_putfield (pc' := 5) (fs' := [.int 0, .int u2, .ref 116, .ref 117, .ref 118, .ref 119, .ref 120, .ref 121, .ref 122, .ref 123, .ref 124, .ref 125, .ref 126, .ref 127, .ref 128, .ref 129, .int u6, .ref 130, .int u19, .ref 131, .ref 132, .ref 133, .ref 134, .int u8, .ref 135, .ref 136, .ref 137, .ref 138, .ref 139, .ref 140, .ref 141, .ref 142, .int u9, .int u10, .int u11, .ref 143, .ref 144, .ref 145, .ref 146, .ref 147, .ref 148, .int u12, .ref 149, .ref 150, .ref 151, .int u13, .ref 152, .ref 153, .ref 154, .ref 155, .ref 156, .ref 157, .ref 158, .ref 159, .int u14, .ref 160, .int u15, .ref 161, .ref 162, .ref 163, .ref 164, .int u16, .ref 165, .ref 166]) kc_23_2 rfl rfl rfl A249 rfl rfl rfl (Nat.le_of_ble_eq_true rfl) rfl (fun hh251 eh250 => ?_)
              have K252 := xk_pf (k := 0) (v := 0) K248 (xk_wf rfl) xD_115 A249 rfl (by first | omega | decide) (by first | omega | decide) eh250 rfl
              refine xi_iload_n (pc' := 6) (x := a24) kc_23_5 rfl rfl ?_
              refine xi_static (mj := 24) (as := [.int a24]) (st1 := []) (lv0 := [(0, .int a24)]) kc_23_6 rfl rfl (Nat.le_of_ble_eq_true rfl) rfl rfl (Nat.le_of_ble_eq_true rfl) (hJ _ _ _ _ (by decide)) (xm_le ml_24 rfl) rfl ?_
              refine xi_iload_n (pc' := 1) (x := a24) kc_24_0 rfl rfl ?_
              refine xi_iconst (pc' := 2) (v := 0) kc_24_1 rfl rfl ?_
              refine xi_bipush (pc' := 4) (v := 11) kc_24_2 rfl rfl ?_
              refine xi_static (mj := 11) (as := [.int a24, .int 0, .int 11]) (st1 := []) (lv0 := [(0, .int a24), (1, .int 0), (2, .int 11)]) kc_24_4 rfl rfl (Nat.le_of_ble_eq_true rfl) rfl rfl (Nat.le_of_ble_eq_true rfl) (hJ _ _ _ _ (by decide)) (xm_le ml_11 rfl) rfl ?_
              refine xi_iload_n (pc' := 1) (x := a24) kc_11_0 rfl rfl ?_
              refine xi_iload_n (pc' := 2) (x := 0) kc_11_1 rfl rfl ?_
              refine xi_cmf (pc' := 5) kc_11_2 rfl (xc_lt_f (X := a24.toInt) (Y := 0) rfl (by decide) (by omega)) ?_
              refine xi_iload_n (pc' := 6) (x := a24) kc_11_5 rfl rfl ?_
              refine xi_iload_n (pc' := 7) (x := 11) kc_11_6 rfl rfl ?_
              refine xi_cmf (pc' := 10) kc_11_7 rfl (xc_gt_f (X := a24.toInt) (Y := 11) rfl (by decide) (by omega)) ?_
              refine xi_iconst (pc' := 11) (v := 1) kc_11_10 rfl rfl ?_
              refine xi_goto (pc' := 15) kc_11_11 rfl ?_
              refine xi_ireturn kc_11_15 mr_11 rfl ?_
              show xw J ov 98 24 (7, [(0, .int a24)], [.int 1], hh251) _
              refine xi_ireturn kc_24_7 mr_24 rfl ?_
              show xw J ov 99 23 (9, [(0, .ref 115), (1, .int a24), (2, .int a26), (3, .int a28), (4, .int 0)], [.int 1], hh251) _
              refine xi_iff (pc' := 12) kc_23_9 rfl rfl ?_
              refine xi_iload_n (pc' := 13) (x := a26) kc_23_12 rfl rfl ?_
              refine xi_static (mj := 10) (as := [.int a26]) (st1 := []) (lv0 := [(0, .int a26)]) kc_23_13 rfl rfl (Nat.le_of_ble_eq_true rfl) rfl rfl (Nat.le_of_ble_eq_true rfl) (hJ _ _ _ _ (by decide)) (xm_le ml_10 rfl) rfl ?_
              refine xi_iload_n (pc' := 1) (x := a26) kc_10_0 rfl rfl ?_
              refine xi_iconst (pc' := 2) (v := 0) kc_10_1 rfl rfl ?_
              refine xi_iconst (pc' := 3) (v := 5) kc_10_2 rfl rfl ?_
              refine xi_static (mj := 11) (as := [.int a26, .int 0, .int 5]) (st1 := []) (lv0 := [(0, .int a26), (1, .int 0), (2, .int 5)]) kc_10_3 rfl rfl (Nat.le_of_ble_eq_true rfl) rfl rfl (Nat.le_of_ble_eq_true rfl) (hJ _ _ _ _ (by decide)) (xm_le ml_11 rfl) rfl ?_
              refine xi_iload_n (pc' := 1) (x := a26) kc_11_0 rfl rfl ?_
              refine xi_iload_n (pc' := 2) (x := 0) kc_11_1 rfl rfl ?_
              refine xi_cmf (pc' := 5) kc_11_2 rfl (xc_lt_f (X := a26.toInt) (Y := 0) rfl (by decide) (by omega)) ?_
              refine xi_iload_n (pc' := 6) (x := a26) kc_11_5 rfl rfl ?_
              refine xi_iload_n (pc' := 7) (x := 5) kc_11_6 rfl rfl ?_
              refine xi_cmf (pc' := 10) kc_11_7 rfl (xc_gt_f (X := a26.toInt) (Y := 5) rfl (by decide) (by omega)) ?_
              refine xi_iconst (pc' := 11) (v := 1) kc_11_10 rfl rfl ?_
              refine xi_goto (pc' := 15) kc_11_11 rfl ?_
              refine xi_ireturn kc_11_15 mr_11 rfl ?_
              show xw J ov 98 10 (6, [(0, .int a26)], [.int 1], hh251) _
              refine xi_ireturn kc_10_6 mr_10 rfl ?_
              show xw J ov 99 23 (16, [(0, .ref 115), (1, .int a24), (2, .int a26), (3, .int a28), (4, .int 0)], [.int 1], hh251) _
              refine xi_ift (pc' := 25) kc_23_16 rfl rfl ?_
              refine xi_iload_n (pc' := 26) (x := a28) kc_23_25 rfl rfl ?_
              refine xi_iff (pc' := 29) kc_23_26 rfl (xc_ge_f (X := a28.toInt) (Y := 0) rfl (by decide) (by omega)) ?_
              refine xi_aload_n (pc' := 30) (x := 115) kc_23_29 rfl rfl ?_
              refine xi_bipush (pc' := 32) (v := (-4)) kc_23_30 rfl rfl ?_
              refine xi_virtual (mj := 12) (as := [.int (-4)]) (st1 := []) (lv0 := [(0, .ref 115), (1, .int (-4))]) kc_23_32 rfl rfl rfl rfl rfl eh250.1 (Nat.le_of_ble_eq_true rfl) (hJ _ _ _ _ (by decide)) (xm_le ml_12 rfl) rfl ?_
              refine xi_aload_n (pc' := 1) (x := 115) kc_12_0 rfl rfl ?_
              refine xi_getfield (pc' := 4) (v := .ref 140) kc_12_1 rfl rfl rfl eh250.1 rfl ?_
              refine xi_iload_n (pc' := 5) (x := (-4)) kc_12_4 rfl rfl ?_
              refine xi_ineg (pc' := 6) (v := 4) kc_12_5 rfl rfl ?_
              refine xi_dup2 (pc' := 7) kc_12_6 rfl ⟨rfl, rfl⟩ ?_
              obtain ⟨y253, A253, hy253, ry253⟩ := xk_arr K.1 xD_140
              obtain ⟨v254, ev254, bv254, dv254⟩ := xj_get hy253 ry253 (i := 4) (by decide) (by decide)
              have A255 := ((eh250.2.1 140 (by decide)).trans ((eh247.2.1 140 (by decide)).trans A253))
              refine xi_iaload (pc' := 8) (v := v254) kc_12_7 rfl A255 (by decide) rfl (xi_in (by decide) (by rw [hy253]; decide)) ev254 ?_
              refine xi_iconst (pc' := 9) (v := 1) kc_12_8 rfl rfl ?_
              obtain ⟨v256, ev256⟩ : ∃ q : Int32, (v254 : Int32) + 1 = q := ⟨_, rfl⟩
              have rv256 := xc_rng v256
              refine xi_iadd (pc' := 10) (v := v256) kc_12_9 rfl ev256 ?_
              obtain ⟨y257, s257, hy257, ry257⟩ := xj_set (v := v256) hy253 ry253 4 (by first | omega | decide) (by first | omega | decide)
              refine xi_iastore (pc' := 11) (x' := y257) kc_12_10 rfl A255 rfl (xi_in (by decide) (by rw [hy253]; decide)) s257 (fun hh257 eh257 => ?_)
              have K258 := xk_pa K252 (xk_wa rfl) xD_140 hy257 ry257 eh257
              refine xi_iload_n (pc' := 12) (x := (-4)) kc_12_11 rfl rfl ?_
              refine xi_ireturn kc_12_12 mr_12 rfl ?_
              show xw J ov 99 23 (35, [(0, .ref 115), (1, .int a24), (2, .int a26), (3, .int a28), (4, .int 0)], [.int (-4)], hh257) _
              refine xi_ireturn kc_23_35 mr_23 rfl ?_
              show xw J ov 100 195 (474, [(4, .int x4), (3, .ref 167), (2, .ref 115), (1, .ref 0), (0, .ref 1000000)], [.int (-4)], hh257) _
              refine xi_pop (pc' := 475) kc_195_474 rfl rfl ?_
              refine xi_goto (pc' := 1501) kc_195_475 rfl ?_
              obtain ⟨v259, ev259⟩ : ∃ q : Int32, x4 + 6 = q := ⟨_, rfl⟩
              have zv259 : v259.toInt = (x4.toInt + 6) := by rw [← ev259]; exact (xz_add (X := x4.toInt) (Y := 6) rfl (by decide) (by omega) (by omega)).trans (by omega)
              refine xi_iinc (pc' := 1504) (x := x4) (v := v259) (lv' := [(4, .int v259), (3, .ref 167), (2, .ref 115), (1, .ref 0), (0, .ref 1000000)]) kc_195_1501 rfl rfl ev259 rfl (xm_lt ml_195 rfl) ?_
              refine xi_goto (pc' := 23) kc_195_1504 rfl ?_
              have A260 := ((eh257.2.1 0 (by decide)).trans ((eh250.2.1 0 (by decide)).trans ((eh247.2.1 0 (by decide)).trans A3)))
              have A261 := ((eh257.2.1 115 (by decide)).trans eh250.1)
              have A262 := ((eh257.2.1 66 (by decide)).trans ((eh250.2.1 66 (by decide)).trans ((eh247.2.1 66 (by decide)).trans A20)))
              have A263 := ((eh257.2.1 71 (by decide)).trans ((eh250.2.1 71 (by decide)).trans ((eh247.2.1 71 (by decide)).trans A21)))
              have A264 := ((eh257.2.1 132 (by decide)).trans ((eh250.2.1 132 (by decide)).trans ((eh247.2.1 132 (by decide)).trans A22)))
              exact kk v259 hh257 (by omega) K258 ⟨(xGR_kept I.1 (fun c hc => ((eh257.2.1 c (Ne.symm (xk_nc hc rfl))).trans ((eh250.2.1 c (Ne.symm (xk_nc hc rfl))).trans (eh247.2.1 c (Ne.symm (xk_nc hc rfl)))))) ((eh257.2.1 125 (by decide)).trans ((eh250.2.1 125 (by decide)).trans (eh247.2.1 125 (by decide))))), ((xl_of A260 rfl).trans (xl_of A261 rfl).symm), ((xl_of A262 rfl).trans (xl_of A261 rfl).symm), ((xl_arr A263).trans (xl_arr A264).symm)⟩
  · refine xi_iff (pc' := 429) kc_195_426 rfl (xc_eq_f (X := a30.toInt) (Y := 0) rfl (by decide) (by omega)) ?_
    refine xi_iconst (pc' := 430) (v := 1) kc_195_429 rfl rfl ?_
    refine xi_goto (pc' := 434) kc_195_430 rfl ?_
    refine xi_virtual (mj := 103) (as := [.int a24, .int a26, .int a28, .int 1]) (st1 := []) (lv0 := [(0, .ref 0), (1, .int a24), (2, .int a26), (3, .int a28), (4, .int 1)]) kc_195_434 rfl rfl rfl rfl rfl A3 (Nat.le_of_ble_eq_true rfl) (hJ _ _ _ _ (by decide)) (xm_le ml_103 rfl) rfl ?_
    refine xi_iload_n (pc' := 1) (x := a24) kc_103_0 rfl rfl ?_
    refine xi_static (mj := 104) (as := [.int a24]) (st1 := []) (lv0 := [(0, .int a24)]) kc_103_1 rfl rfl (Nat.le_of_ble_eq_true rfl) rfl rfl (Nat.le_of_ble_eq_true rfl) (hJ _ _ _ _ (by decide)) (xm_le ml_104 rfl) rfl ?_
    refine xi_iload_n (pc' := 1) (x := a24) kc_104_0 rfl rfl ?_
    by_cases c265 : a24.toInt < 0
    · refine xi_ift (pc' := 14) kc_104_1 rfl (xc_lt_t (X := a24.toInt) (Y := 0) rfl (by decide) (by omega)) ?_
      refine xi_iconst (pc' := 15) (v := 0) kc_104_14 rfl rfl ?_
      refine xi_ireturn kc_104_15 mr_104 rfl ?_
      show xw J ov 99 103 (4, [(0, .ref 0), (1, .int a24), (2, .int a26), (3, .int a28), (4, .int 1)], [.int 0], h) _
      refine xi_ift (pc' := 14) kc_103_4 rfl rfl ?_
      refine xi_aload_n (pc' := 15) (x := 0) kc_103_14 rfl rfl ?_
      refine xi_iconst (pc' := 16) (v := (-1)) kc_103_15 rfl rfl ?_
      refine xi_virtual (mj := 90) (as := [.int (-1)]) (st1 := []) (lv0 := [(0, .ref 0), (1, .int (-1))]) kc_103_16 rfl rfl rfl rfl rfl A3 (Nat.le_of_ble_eq_true rfl) (hJ _ _ _ _ (by decide)) (xm_le ml_90 rfl) rfl ?_
      refine xi_iload_n (pc' := 1) (x := (-1)) kc_90_0 rfl rfl ?_
      refine xi_ineg (pc' := 2) (v := 1) kc_90_1 rfl rfl ?_
      refine xi_istore_n (pc' := 3) (lv' := [(2, .int 1), (0, .ref 0), (1, .int (-1))]) kc_90_2 rfl rfl (xm_lt ml_90 rfl) ?_
      refine xi_iload_n (pc' := 4) (x := 1) kc_90_3 rfl rfl ?_
      refine xi_iff (pc' := 7) kc_90_4 rfl rfl ?_
      refine xi_iload_n (pc' := 8) (x := 1) kc_90_7 rfl rfl ?_
      refine xi_aload_n (pc' := 9) (x := 0) kc_90_8 rfl rfl ?_
      refine xi_getfield (pc' := 12) (v := .ref 94) kc_90_9 rfl rfl rfl A3 rfl ?_
      obtain ⟨y266, A266, hy266, ry266⟩ := xk_arr K.1 xD_94
      refine xi_arraylength (pc' := 13) (n := 7) (v := 7) kc_90_12 rfl (xl_lenI (by decide) (by decide) A266 hy266) rfl ?_
      refine xi_cmf (pc' := 16) kc_90_13 rfl rfl ?_
      refine xi_aload_n (pc' := 17) (x := 0) kc_90_16 rfl rfl ?_
      refine xi_getfield (pc' := 20) (v := .ref 94) kc_90_17 rfl rfl rfl A3 rfl ?_
      refine xi_iload_n (pc' := 21) (x := 1) kc_90_20 rfl rfl ?_
      refine xi_dup2 (pc' := 22) kc_90_21 rfl ⟨rfl, rfl⟩ ?_
      obtain ⟨v267, ev267, bv267, dv267⟩ := xj_get hy266 ry266 (i := 1) (by decide) (by decide)
      refine xi_iaload (pc' := 23) (v := v267) kc_90_22 rfl A266 (by decide) rfl (xi_in (by decide) (by rw [hy266]; decide)) ev267 ?_
      refine xi_iconst (pc' := 24) (v := 1) kc_90_23 rfl rfl ?_
      obtain ⟨v268, ev268⟩ : ∃ q : Int32, (v267 : Int32) + 1 = q := ⟨_, rfl⟩
      have rv268 := xc_rng v268
      refine xi_iadd (pc' := 25) (v := v268) kc_90_24 rfl ev268 ?_
      obtain ⟨y269, s269, hy269, ry269⟩ := xj_set (v := v268) hy266 ry266 1 (by first | omega | decide) (by first | omega | decide)
      refine xi_iastore (pc' := 26) (x' := y269) kc_90_25 rfl A266 rfl (xi_in (by decide) (by rw [hy266]; decide)) s269 (fun hh269 eh269 => ?_)
      have K270 := xk_pa K (xk_wa rfl) xD_94 hy269 ry269 eh269
      refine xi_iload_n (pc' := 27) (x := (-1)) kc_90_26 rfl rfl ?_
      refine xi_ireturn kc_90_27 mr_90 rfl ?_
      show xw J ov 99 103 (19, [(0, .ref 0), (1, .int a24), (2, .int a26), (3, .int a28), (4, .int 1)], [.int (-1)], hh269) _
      refine xi_ireturn kc_103_19 mr_103 rfl ?_
      show xw J ov 100 195 (437, [(4, .int x4), (3, .ref 167), (2, .ref 115), (1, .ref 0), (0, .ref 1000000)], [.int (-1)], hh269) _
      refine xi_pop (pc' := 438) kc_195_437 rfl rfl ?_
      refine xi_aload_n (pc' := 439) (x := 115) kc_195_438 rfl rfl ?_
      refine xi_aload_n (pc' := 440) (x := 1000000) kc_195_439 rfl rfl ?_
      refine xi_iload (pc' := 442) (x := x4) kc_195_440 rfl rfl ?_
      refine xi_iconst (pc' := 443) (v := 1) kc_195_442 rfl rfl ?_
      refine xi_iadd (pc' := 444) (v := v23) kc_195_443 rfl ev23 ?_
      refine xi_ialoadO (pc' := 445) (v := a24) kc_195_444 rfl (by decide) hov0 (xi_in (by omega) (by omega)) ea24 ?_
      refine xi_aload_n (pc' := 446) (x := 1000000) kc_195_445 rfl rfl ?_
      refine xi_iload (pc' := 448) (x := x4) kc_195_446 rfl rfl ?_
      refine xi_iconst (pc' := 449) (v := 2) kc_195_448 rfl rfl ?_
      refine xi_iadd (pc' := 450) (v := v25) kc_195_449 rfl ev25 ?_
      refine xi_ialoadO (pc' := 451) (v := a26) kc_195_450 rfl (by decide) hov0 (xi_in (by omega) (by omega)) ea26 ?_
      refine xi_aload_n (pc' := 452) (x := 1000000) kc_195_451 rfl rfl ?_
      refine xi_iload (pc' := 454) (x := x4) kc_195_452 rfl rfl ?_
      refine xi_iconst (pc' := 455) (v := 3) kc_195_454 rfl rfl ?_
      refine xi_iadd (pc' := 456) (v := v27) kc_195_455 rfl ev27 ?_
      refine xi_ialoadO (pc' := 457) (v := a28) kc_195_456 rfl (by decide) hov0 (xi_in (by omega) (by omega)) ea28 ?_
      refine xi_aload_n (pc' := 458) (x := 1000000) kc_195_457 rfl rfl ?_
      refine xi_iload (pc' := 460) (x := x4) kc_195_458 rfl rfl ?_
      refine xi_iconst (pc' := 461) (v := 4) kc_195_460 rfl rfl ?_
      refine xi_iadd (pc' := 462) (v := v29) kc_195_461 rfl ev29 ?_
      refine xi_ialoadO (pc' := 463) (v := a30) kc_195_462 rfl (by decide) hov0 (xi_in (by omega) (by omega)) ea30 ?_
      refine xi_iff (pc' := 466) kc_195_463 rfl (xc_eq_f (X := a30.toInt) (Y := 0) rfl (by decide) (by omega)) ?_
      refine xi_iconst (pc' := 467) (v := 1) kc_195_466 rfl rfl ?_
      refine xi_goto (pc' := 471) kc_195_467 rfl ?_
      have A271 := ((eh269.2.1 115 (by decide)).trans A17)
      refine xi_virtual (mj := 23) (as := [.int a24, .int a26, .int a28, .int 1]) (st1 := []) (lv0 := [(0, .ref 115), (1, .int a24), (2, .int a26), (3, .int a28), (4, .int 1)]) kc_195_471 rfl rfl rfl rfl rfl A271 (Nat.le_of_ble_eq_true rfl) (hJ _ _ _ _ (by decide)) (xm_le ml_23 rfl) rfl ?_
      refine xi_aload_n (pc' := 1) (x := 115) kc_23_0 rfl rfl ?_
      refine xi_iconst (pc' := 2) (v := 0) kc_23_1 rfl rfl ?_
      refine xi_putfield (pc' := 5) (fs' := [.int 0, .int u2, .ref 116, .ref 117, .ref 118, .ref 119, .ref 120, .ref 121, .ref 122, .ref 123, .ref 124, .ref 125, .ref 126, .ref 127, .ref 128, .ref 129, .int u6, .ref 130, .int u19, .ref 131, .ref 132, .ref 133, .ref 134, .int u8, .ref 135, .ref 136, .ref 137, .ref 138, .ref 139, .ref 140, .ref 141, .ref 142, .int u9, .int u10, .int u11, .ref 143, .ref 144, .ref 145, .ref 146, .ref 147, .ref 148, .int u12, .ref 149, .ref 150, .ref 151, .int u13, .ref 152, .ref 153, .ref 154, .ref 155, .ref 156, .ref 157, .ref 158, .ref 159, .int u14, .ref 160, .int u15, .ref 161, .ref 162, .ref 163, .ref 164, .int u16, .ref 165, .ref 166]) kc_23_2 rfl rfl rfl A271 rfl rfl rfl (Nat.le_of_ble_eq_true rfl) rfl (fun hh273 eh272 => ?_)
      have K274 := xk_pf (k := 0) (v := 0) K270 (xk_wf rfl) xD_115 A271 rfl (by first | omega | decide) (by first | omega | decide) eh272 rfl
      refine xi_iload_n (pc' := 6) (x := a24) kc_23_5 rfl rfl ?_
      refine xi_static (mj := 24) (as := [.int a24]) (st1 := []) (lv0 := [(0, .int a24)]) kc_23_6 rfl rfl (Nat.le_of_ble_eq_true rfl) rfl rfl (Nat.le_of_ble_eq_true rfl) (hJ _ _ _ _ (by decide)) (xm_le ml_24 rfl) rfl ?_
      refine xi_iload_n (pc' := 1) (x := a24) kc_24_0 rfl rfl ?_
      refine xi_iconst (pc' := 2) (v := 0) kc_24_1 rfl rfl ?_
      refine xi_bipush (pc' := 4) (v := 11) kc_24_2 rfl rfl ?_
      refine xi_static (mj := 11) (as := [.int a24, .int 0, .int 11]) (st1 := []) (lv0 := [(0, .int a24), (1, .int 0), (2, .int 11)]) kc_24_4 rfl rfl (Nat.le_of_ble_eq_true rfl) rfl rfl (Nat.le_of_ble_eq_true rfl) (hJ _ _ _ _ (by decide)) (xm_le ml_11 rfl) rfl ?_
      refine xi_iload_n (pc' := 1) (x := a24) kc_11_0 rfl rfl ?_
      refine xi_iload_n (pc' := 2) (x := 0) kc_11_1 rfl rfl ?_
      refine xi_cmt (pc' := 14) kc_11_2 rfl (xc_lt_t (X := a24.toInt) (Y := 0) rfl (by decide) (by omega)) ?_
      refine xi_iconst (pc' := 15) (v := 0) kc_11_14 rfl rfl ?_
      refine xi_ireturn kc_11_15 mr_11 rfl ?_
      show xw J ov 98 24 (7, [(0, .int a24)], [.int 0], hh273) _
      refine xi_ireturn kc_24_7 mr_24 rfl ?_
      show xw J ov 99 23 (9, [(0, .ref 115), (1, .int a24), (2, .int a26), (3, .int a28), (4, .int 1)], [.int 0], hh273) _
      refine xi_ift (pc' := 19) kc_23_9 rfl rfl ?_
      refine xi_aload_n (pc' := 20) (x := 115) kc_23_19 rfl rfl ?_
      refine xi_iconst (pc' := 21) (v := (-1)) kc_23_20 rfl rfl ?_
      refine xi_virtual (mj := 12) (as := [.int (-1)]) (st1 := []) (lv0 := [(0, .ref 115), (1, .int (-1))]) kc_23_21 rfl rfl rfl rfl rfl eh272.1 (Nat.le_of_ble_eq_true rfl) (hJ _ _ _ _ (by decide)) (xm_le ml_12 rfl) rfl ?_
      refine xi_aload_n (pc' := 1) (x := 115) kc_12_0 rfl rfl ?_
      refine xi_getfield (pc' := 4) (v := .ref 140) kc_12_1 rfl rfl rfl eh272.1 rfl ?_
      refine xi_iload_n (pc' := 5) (x := (-1)) kc_12_4 rfl rfl ?_
      refine xi_ineg (pc' := 6) (v := 1) kc_12_5 rfl rfl ?_
      refine xi_dup2 (pc' := 7) kc_12_6 rfl ⟨rfl, rfl⟩ ?_
      obtain ⟨y275, A275, hy275, ry275⟩ := xk_arr K.1 xD_140
      obtain ⟨v276, ev276, bv276, dv276⟩ := xj_get hy275 ry275 (i := 1) (by decide) (by decide)
      have A277 := ((eh272.2.1 140 (by decide)).trans ((eh269.2.1 140 (by decide)).trans A275))
      refine xi_iaload (pc' := 8) (v := v276) kc_12_7 rfl A277 (by decide) rfl (xi_in (by decide) (by rw [hy275]; decide)) ev276 ?_
      refine xi_iconst (pc' := 9) (v := 1) kc_12_8 rfl rfl ?_
      obtain ⟨v278, ev278⟩ : ∃ q : Int32, (v276 : Int32) + 1 = q := ⟨_, rfl⟩
      have rv278 := xc_rng v278
      refine xi_iadd (pc' := 10) (v := v278) kc_12_9 rfl ev278 ?_
      obtain ⟨y279, s279, hy279, ry279⟩ := xj_set (v := v278) hy275 ry275 1 (by first | omega | decide) (by first | omega | decide)
      refine xi_iastore (pc' := 11) (x' := y279) kc_12_10 rfl A277 rfl (xi_in (by decide) (by rw [hy275]; decide)) s279 (fun hh279 eh279 => ?_)
      have K280 := xk_pa K274 (xk_wa rfl) xD_140 hy279 ry279 eh279
      refine xi_iload_n (pc' := 12) (x := (-1)) kc_12_11 rfl rfl ?_
      refine xi_ireturn kc_12_12 mr_12 rfl ?_
      show xw J ov 99 23 (24, [(0, .ref 115), (1, .int a24), (2, .int a26), (3, .int a28), (4, .int 1)], [.int (-1)], hh279) _
      refine xi_ireturn kc_23_24 mr_23 rfl ?_
      show xw J ov 100 195 (474, [(4, .int x4), (3, .ref 167), (2, .ref 115), (1, .ref 0), (0, .ref 1000000)], [.int (-1)], hh279) _
      refine xi_pop (pc' := 475) kc_195_474 rfl rfl ?_
      refine xi_goto (pc' := 1501) kc_195_475 rfl ?_
      obtain ⟨v281, ev281⟩ : ∃ q : Int32, x4 + 6 = q := ⟨_, rfl⟩
      have zv281 : v281.toInt = (x4.toInt + 6) := by rw [← ev281]; exact (xz_add (X := x4.toInt) (Y := 6) rfl (by decide) (by omega) (by omega)).trans (by omega)
      refine xi_iinc (pc' := 1504) (x := x4) (v := v281) (lv' := [(4, .int v281), (3, .ref 167), (2, .ref 115), (1, .ref 0), (0, .ref 1000000)]) kc_195_1501 rfl rfl ev281 rfl (xm_lt ml_195 rfl) ?_
      refine xi_goto (pc' := 23) kc_195_1504 rfl ?_
      have A282 := ((eh279.2.1 0 (by decide)).trans ((eh272.2.1 0 (by decide)).trans ((eh269.2.1 0 (by decide)).trans A3)))
      have A283 := ((eh279.2.1 115 (by decide)).trans eh272.1)
      have A284 := ((eh279.2.1 66 (by decide)).trans ((eh272.2.1 66 (by decide)).trans ((eh269.2.1 66 (by decide)).trans A20)))
      have A285 := ((eh279.2.1 71 (by decide)).trans ((eh272.2.1 71 (by decide)).trans ((eh269.2.1 71 (by decide)).trans A21)))
      have A286 := ((eh279.2.1 132 (by decide)).trans ((eh272.2.1 132 (by decide)).trans ((eh269.2.1 132 (by decide)).trans A22)))
      exact kk v281 hh279 (by omega) K280 ⟨(xGR_kept I.1 (fun c hc => ((eh279.2.1 c (Ne.symm (xk_nc hc rfl))).trans ((eh272.2.1 c (Ne.symm (xk_nc hc rfl))).trans (eh269.2.1 c (Ne.symm (xk_nc hc rfl)))))) ((eh279.2.1 125 (by decide)).trans ((eh272.2.1 125 (by decide)).trans (eh269.2.1 125 (by decide))))), ((xl_of A282 rfl).trans (xl_of A283 rfl).symm), ((xl_of A284 rfl).trans (xl_of A283 rfl).symm), ((xl_arr A285).trans (xl_arr A286).symm)⟩
    · refine xi_iff (pc' := 4) kc_104_1 rfl (xc_lt_f (X := a24.toInt) (Y := 0) rfl (by decide) (by omega)) ?_
      refine xi_iload_n (pc' := 5) (x := a24) kc_104_4 rfl rfl ?_
      refine xi_bipush (pc' := 7) (v := 12) kc_104_5 rfl rfl ?_
      by_cases c287 : 12 ≤ a24.toInt
      · refine xi_cmt (pc' := 14) kc_104_7 rfl (xc_ge_t (X := a24.toInt) (Y := 12) rfl (by decide) (by omega)) ?_
        refine xi_iconst (pc' := 15) (v := 0) kc_104_14 rfl rfl ?_
        refine xi_ireturn kc_104_15 mr_104 rfl ?_
        show xw J ov 99 103 (4, [(0, .ref 0), (1, .int a24), (2, .int a26), (3, .int a28), (4, .int 1)], [.int 0], h) _
        refine xi_ift (pc' := 14) kc_103_4 rfl rfl ?_
        refine xi_aload_n (pc' := 15) (x := 0) kc_103_14 rfl rfl ?_
        refine xi_iconst (pc' := 16) (v := (-1)) kc_103_15 rfl rfl ?_
        refine xi_virtual (mj := 90) (as := [.int (-1)]) (st1 := []) (lv0 := [(0, .ref 0), (1, .int (-1))]) kc_103_16 rfl rfl rfl rfl rfl A3 (Nat.le_of_ble_eq_true rfl) (hJ _ _ _ _ (by decide)) (xm_le ml_90 rfl) rfl ?_
        refine xi_iload_n (pc' := 1) (x := (-1)) kc_90_0 rfl rfl ?_
        refine xi_ineg (pc' := 2) (v := 1) kc_90_1 rfl rfl ?_
        refine xi_istore_n (pc' := 3) (lv' := [(2, .int 1), (0, .ref 0), (1, .int (-1))]) kc_90_2 rfl rfl (xm_lt ml_90 rfl) ?_
        refine xi_iload_n (pc' := 4) (x := 1) kc_90_3 rfl rfl ?_
        refine xi_iff (pc' := 7) kc_90_4 rfl rfl ?_
        refine xi_iload_n (pc' := 8) (x := 1) kc_90_7 rfl rfl ?_
        refine xi_aload_n (pc' := 9) (x := 0) kc_90_8 rfl rfl ?_
        refine xi_getfield (pc' := 12) (v := .ref 94) kc_90_9 rfl rfl rfl A3 rfl ?_
        obtain ⟨y288, A288, hy288, ry288⟩ := xk_arr K.1 xD_94
        refine xi_arraylength (pc' := 13) (n := 7) (v := 7) kc_90_12 rfl (xl_lenI (by decide) (by decide) A288 hy288) rfl ?_
        refine xi_cmf (pc' := 16) kc_90_13 rfl rfl ?_
        refine xi_aload_n (pc' := 17) (x := 0) kc_90_16 rfl rfl ?_
        refine xi_getfield (pc' := 20) (v := .ref 94) kc_90_17 rfl rfl rfl A3 rfl ?_
        refine xi_iload_n (pc' := 21) (x := 1) kc_90_20 rfl rfl ?_
        refine xi_dup2 (pc' := 22) kc_90_21 rfl ⟨rfl, rfl⟩ ?_
        obtain ⟨v289, ev289, bv289, dv289⟩ := xj_get hy288 ry288 (i := 1) (by decide) (by decide)
        refine xi_iaload (pc' := 23) (v := v289) kc_90_22 rfl A288 (by decide) rfl (xi_in (by decide) (by rw [hy288]; decide)) ev289 ?_
        refine xi_iconst (pc' := 24) (v := 1) kc_90_23 rfl rfl ?_
        obtain ⟨v290, ev290⟩ : ∃ q : Int32, (v289 : Int32) + 1 = q := ⟨_, rfl⟩
        have rv290 := xc_rng v290
        refine xi_iadd (pc' := 25) (v := v290) kc_90_24 rfl ev290 ?_
        obtain ⟨y291, s291, hy291, ry291⟩ := xj_set (v := v290) hy288 ry288 1 (by first | omega | decide) (by first | omega | decide)
        refine xi_iastore (pc' := 26) (x' := y291) kc_90_25 rfl A288 rfl (xi_in (by decide) (by rw [hy288]; decide)) s291 (fun hh291 eh291 => ?_)
        have K292 := xk_pa K (xk_wa rfl) xD_94 hy291 ry291 eh291
        refine xi_iload_n (pc' := 27) (x := (-1)) kc_90_26 rfl rfl ?_
        refine xi_ireturn kc_90_27 mr_90 rfl ?_
        show xw J ov 99 103 (19, [(0, .ref 0), (1, .int a24), (2, .int a26), (3, .int a28), (4, .int 1)], [.int (-1)], hh291) _
        refine xi_ireturn kc_103_19 mr_103 rfl ?_
        show xw J ov 100 195 (437, [(4, .int x4), (3, .ref 167), (2, .ref 115), (1, .ref 0), (0, .ref 1000000)], [.int (-1)], hh291) _
        refine xi_pop (pc' := 438) kc_195_437 rfl rfl ?_
        refine xi_aload_n (pc' := 439) (x := 115) kc_195_438 rfl rfl ?_
        refine xi_aload_n (pc' := 440) (x := 1000000) kc_195_439 rfl rfl ?_
        refine xi_iload (pc' := 442) (x := x4) kc_195_440 rfl rfl ?_
        refine xi_iconst (pc' := 443) (v := 1) kc_195_442 rfl rfl ?_
        refine xi_iadd (pc' := 444) (v := v23) kc_195_443 rfl ev23 ?_
        refine xi_ialoadO (pc' := 445) (v := a24) kc_195_444 rfl (by decide) hov0 (xi_in (by omega) (by omega)) ea24 ?_
        refine xi_aload_n (pc' := 446) (x := 1000000) kc_195_445 rfl rfl ?_
        refine xi_iload (pc' := 448) (x := x4) kc_195_446 rfl rfl ?_
        refine xi_iconst (pc' := 449) (v := 2) kc_195_448 rfl rfl ?_
        refine xi_iadd (pc' := 450) (v := v25) kc_195_449 rfl ev25 ?_
        refine xi_ialoadO (pc' := 451) (v := a26) kc_195_450 rfl (by decide) hov0 (xi_in (by omega) (by omega)) ea26 ?_
        refine xi_aload_n (pc' := 452) (x := 1000000) kc_195_451 rfl rfl ?_
        refine xi_iload (pc' := 454) (x := x4) kc_195_452 rfl rfl ?_
        refine xi_iconst (pc' := 455) (v := 3) kc_195_454 rfl rfl ?_
        refine xi_iadd (pc' := 456) (v := v27) kc_195_455 rfl ev27 ?_
        refine xi_ialoadO (pc' := 457) (v := a28) kc_195_456 rfl (by decide) hov0 (xi_in (by omega) (by omega)) ea28 ?_
        refine xi_aload_n (pc' := 458) (x := 1000000) kc_195_457 rfl rfl ?_
        refine xi_iload (pc' := 460) (x := x4) kc_195_458 rfl rfl ?_
        refine xi_iconst (pc' := 461) (v := 4) kc_195_460 rfl rfl ?_
        refine xi_iadd (pc' := 462) (v := v29) kc_195_461 rfl ev29 ?_
        refine xi_ialoadO (pc' := 463) (v := a30) kc_195_462 rfl (by decide) hov0 (xi_in (by omega) (by omega)) ea30 ?_
        refine xi_iff (pc' := 466) kc_195_463 rfl (xc_eq_f (X := a30.toInt) (Y := 0) rfl (by decide) (by omega)) ?_
        refine xi_iconst (pc' := 467) (v := 1) kc_195_466 rfl rfl ?_
        refine xi_goto (pc' := 471) kc_195_467 rfl ?_
        have A293 := ((eh291.2.1 115 (by decide)).trans A17)
        refine xi_virtual (mj := 23) (as := [.int a24, .int a26, .int a28, .int 1]) (st1 := []) (lv0 := [(0, .ref 115), (1, .int a24), (2, .int a26), (3, .int a28), (4, .int 1)]) kc_195_471 rfl rfl rfl rfl rfl A293 (Nat.le_of_ble_eq_true rfl) (hJ _ _ _ _ (by decide)) (xm_le ml_23 rfl) rfl ?_
        refine xi_aload_n (pc' := 1) (x := 115) kc_23_0 rfl rfl ?_
        refine xi_iconst (pc' := 2) (v := 0) kc_23_1 rfl rfl ?_
        refine xi_putfield (pc' := 5) (fs' := [.int 0, .int u2, .ref 116, .ref 117, .ref 118, .ref 119, .ref 120, .ref 121, .ref 122, .ref 123, .ref 124, .ref 125, .ref 126, .ref 127, .ref 128, .ref 129, .int u6, .ref 130, .int u19, .ref 131, .ref 132, .ref 133, .ref 134, .int u8, .ref 135, .ref 136, .ref 137, .ref 138, .ref 139, .ref 140, .ref 141, .ref 142, .int u9, .int u10, .int u11, .ref 143, .ref 144, .ref 145, .ref 146, .ref 147, .ref 148, .int u12, .ref 149, .ref 150, .ref 151, .int u13, .ref 152, .ref 153, .ref 154, .ref 155, .ref 156, .ref 157, .ref 158, .ref 159, .int u14, .ref 160, .int u15, .ref 161, .ref 162, .ref 163, .ref 164, .int u16, .ref 165, .ref 166]) kc_23_2 rfl rfl rfl A293 rfl rfl rfl (Nat.le_of_ble_eq_true rfl) rfl (fun hh295 eh294 => ?_)
        have K296 := xk_pf (k := 0) (v := 0) K292 (xk_wf rfl) xD_115 A293 rfl (by first | omega | decide) (by first | omega | decide) eh294 rfl
        refine xi_iload_n (pc' := 6) (x := a24) kc_23_5 rfl rfl ?_
        refine xi_static (mj := 24) (as := [.int a24]) (st1 := []) (lv0 := [(0, .int a24)]) kc_23_6 rfl rfl (Nat.le_of_ble_eq_true rfl) rfl rfl (Nat.le_of_ble_eq_true rfl) (hJ _ _ _ _ (by decide)) (xm_le ml_24 rfl) rfl ?_
        refine xi_iload_n (pc' := 1) (x := a24) kc_24_0 rfl rfl ?_
        refine xi_iconst (pc' := 2) (v := 0) kc_24_1 rfl rfl ?_
        refine xi_bipush (pc' := 4) (v := 11) kc_24_2 rfl rfl ?_
        refine xi_static (mj := 11) (as := [.int a24, .int 0, .int 11]) (st1 := []) (lv0 := [(0, .int a24), (1, .int 0), (2, .int 11)]) kc_24_4 rfl rfl (Nat.le_of_ble_eq_true rfl) rfl rfl (Nat.le_of_ble_eq_true rfl) (hJ _ _ _ _ (by decide)) (xm_le ml_11 rfl) rfl ?_
        refine xi_iload_n (pc' := 1) (x := a24) kc_11_0 rfl rfl ?_
        refine xi_iload_n (pc' := 2) (x := 0) kc_11_1 rfl rfl ?_
        refine xi_cmf (pc' := 5) kc_11_2 rfl (xc_lt_f (X := a24.toInt) (Y := 0) rfl (by decide) (by omega)) ?_
        refine xi_iload_n (pc' := 6) (x := a24) kc_11_5 rfl rfl ?_
        refine xi_iload_n (pc' := 7) (x := 11) kc_11_6 rfl rfl ?_
        refine xi_cmt (pc' := 14) kc_11_7 rfl (xc_gt_t (X := a24.toInt) (Y := 11) rfl (by decide) (by omega)) ?_
        refine xi_iconst (pc' := 15) (v := 0) kc_11_14 rfl rfl ?_
        refine xi_ireturn kc_11_15 mr_11 rfl ?_
        show xw J ov 98 24 (7, [(0, .int a24)], [.int 0], hh295) _
        refine xi_ireturn kc_24_7 mr_24 rfl ?_
        show xw J ov 99 23 (9, [(0, .ref 115), (1, .int a24), (2, .int a26), (3, .int a28), (4, .int 1)], [.int 0], hh295) _
        refine xi_ift (pc' := 19) kc_23_9 rfl rfl ?_
        refine xi_aload_n (pc' := 20) (x := 115) kc_23_19 rfl rfl ?_
        refine xi_iconst (pc' := 21) (v := (-1)) kc_23_20 rfl rfl ?_
        refine xi_virtual (mj := 12) (as := [.int (-1)]) (st1 := []) (lv0 := [(0, .ref 115), (1, .int (-1))]) kc_23_21 rfl rfl rfl rfl rfl eh294.1 (Nat.le_of_ble_eq_true rfl) (hJ _ _ _ _ (by decide)) (xm_le ml_12 rfl) rfl ?_
        refine xi_aload_n (pc' := 1) (x := 115) kc_12_0 rfl rfl ?_
        refine xi_getfield (pc' := 4) (v := .ref 140) kc_12_1 rfl rfl rfl eh294.1 rfl ?_
        refine xi_iload_n (pc' := 5) (x := (-1)) kc_12_4 rfl rfl ?_
        refine xi_ineg (pc' := 6) (v := 1) kc_12_5 rfl rfl ?_
        refine xi_dup2 (pc' := 7) kc_12_6 rfl ⟨rfl, rfl⟩ ?_
        obtain ⟨y297, A297, hy297, ry297⟩ := xk_arr K.1 xD_140
        obtain ⟨v298, ev298, bv298, dv298⟩ := xj_get hy297 ry297 (i := 1) (by decide) (by decide)
        have A299 := ((eh294.2.1 140 (by decide)).trans ((eh291.2.1 140 (by decide)).trans A297))
        refine xi_iaload (pc' := 8) (v := v298) kc_12_7 rfl A299 (by decide) rfl (xi_in (by decide) (by rw [hy297]; decide)) ev298 ?_
        refine xi_iconst (pc' := 9) (v := 1) kc_12_8 rfl rfl ?_
        obtain ⟨v300, ev300⟩ : ∃ q : Int32, (v298 : Int32) + 1 = q := ⟨_, rfl⟩
        have rv300 := xc_rng v300
        refine xi_iadd (pc' := 10) (v := v300) kc_12_9 rfl ev300 ?_
        obtain ⟨y301, s301, hy301, ry301⟩ := xj_set (v := v300) hy297 ry297 1 (by first | omega | decide) (by first | omega | decide)
        refine xi_iastore (pc' := 11) (x' := y301) kc_12_10 rfl A299 rfl (xi_in (by decide) (by rw [hy297]; decide)) s301 (fun hh301 eh301 => ?_)
        have K302 := xk_pa K296 (xk_wa rfl) xD_140 hy301 ry301 eh301
        refine xi_iload_n (pc' := 12) (x := (-1)) kc_12_11 rfl rfl ?_
        refine xi_ireturn kc_12_12 mr_12 rfl ?_
        show xw J ov 99 23 (24, [(0, .ref 115), (1, .int a24), (2, .int a26), (3, .int a28), (4, .int 1)], [.int (-1)], hh301) _
        refine xi_ireturn kc_23_24 mr_23 rfl ?_
        show xw J ov 100 195 (474, [(4, .int x4), (3, .ref 167), (2, .ref 115), (1, .ref 0), (0, .ref 1000000)], [.int (-1)], hh301) _
        refine xi_pop (pc' := 475) kc_195_474 rfl rfl ?_
        refine xi_goto (pc' := 1501) kc_195_475 rfl ?_
        obtain ⟨v303, ev303⟩ : ∃ q : Int32, x4 + 6 = q := ⟨_, rfl⟩
        have zv303 : v303.toInt = (x4.toInt + 6) := by rw [← ev303]; exact (xz_add (X := x4.toInt) (Y := 6) rfl (by decide) (by omega) (by omega)).trans (by omega)
        refine xi_iinc (pc' := 1504) (x := x4) (v := v303) (lv' := [(4, .int v303), (3, .ref 167), (2, .ref 115), (1, .ref 0), (0, .ref 1000000)]) kc_195_1501 rfl rfl ev303 rfl (xm_lt ml_195 rfl) ?_
        refine xi_goto (pc' := 23) kc_195_1504 rfl ?_
        have A304 := ((eh301.2.1 0 (by decide)).trans ((eh294.2.1 0 (by decide)).trans ((eh291.2.1 0 (by decide)).trans A3)))
        have A305 := ((eh301.2.1 115 (by decide)).trans eh294.1)
        have A306 := ((eh301.2.1 66 (by decide)).trans ((eh294.2.1 66 (by decide)).trans ((eh291.2.1 66 (by decide)).trans A20)))
        have A307 := ((eh301.2.1 71 (by decide)).trans ((eh294.2.1 71 (by decide)).trans ((eh291.2.1 71 (by decide)).trans A21)))
        have A308 := ((eh301.2.1 132 (by decide)).trans ((eh294.2.1 132 (by decide)).trans ((eh291.2.1 132 (by decide)).trans A22)))
        exact kk v303 hh301 (by omega) K302 ⟨(xGR_kept I.1 (fun c hc => ((eh301.2.1 c (Ne.symm (xk_nc hc rfl))).trans ((eh294.2.1 c (Ne.symm (xk_nc hc rfl))).trans (eh291.2.1 c (Ne.symm (xk_nc hc rfl)))))) ((eh301.2.1 125 (by decide)).trans ((eh294.2.1 125 (by decide)).trans (eh291.2.1 125 (by decide))))), ((xl_of A304 rfl).trans (xl_of A305 rfl).symm), ((xl_of A306 rfl).trans (xl_of A305 rfl).symm), ((xl_arr A307).trans (xl_arr A308).symm)⟩
      · refine xi_cmf (pc' := 10) kc_104_7 rfl (xc_ge_f (X := a24.toInt) (Y := 12) rfl (by decide) (by omega)) ?_
        refine xi_iconst (pc' := 11) (v := 1) kc_104_10 rfl rfl ?_
        refine xi_goto (pc' := 15) kc_104_11 rfl ?_
        refine xi_ireturn kc_104_15 mr_104 rfl ?_
        show xw J ov 99 103 (4, [(0, .ref 0), (1, .int a24), (2, .int a26), (3, .int a28), (4, .int 1)], [.int 1], h) _
        refine xi_iff (pc' := 7) kc_103_4 rfl rfl ?_
        refine xi_iload_n (pc' := 8) (x := a26) kc_103_7 rfl rfl ?_
        refine xi_static (mj := 89) (as := [.int a26]) (st1 := []) (lv0 := [(0, .int a26)]) kc_103_8 rfl rfl (Nat.le_of_ble_eq_true rfl) rfl rfl (Nat.le_of_ble_eq_true rfl) (hJ _ _ _ _ (by decide)) (xm_le ml_89 rfl) rfl ?_
        refine xi_iload_n (pc' := 1) (x := a26) kc_89_0 rfl rfl ?_
        by_cases c309 : a26.toInt < 0
        · refine xi_ift (pc' := 14) kc_89_1 rfl (xc_lt_t (X := a26.toInt) (Y := 0) rfl (by decide) (by omega)) ?_
          refine xi_iconst (pc' := 15) (v := 0) kc_89_14 rfl rfl ?_
          refine xi_ireturn kc_89_15 mr_89 rfl ?_
          show xw J ov 99 103 (11, [(0, .ref 0), (1, .int a24), (2, .int a26), (3, .int a28), (4, .int 1)], [.int 0], h) _
          refine xi_iff (pc' := 14) kc_103_11 rfl rfl ?_
          refine xi_aload_n (pc' := 15) (x := 0) kc_103_14 rfl rfl ?_
          refine xi_iconst (pc' := 16) (v := (-1)) kc_103_15 rfl rfl ?_
          refine xi_virtual (mj := 90) (as := [.int (-1)]) (st1 := []) (lv0 := [(0, .ref 0), (1, .int (-1))]) kc_103_16 rfl rfl rfl rfl rfl A3 (Nat.le_of_ble_eq_true rfl) (hJ _ _ _ _ (by decide)) (xm_le ml_90 rfl) rfl ?_
          refine xi_iload_n (pc' := 1) (x := (-1)) kc_90_0 rfl rfl ?_
          refine xi_ineg (pc' := 2) (v := 1) kc_90_1 rfl rfl ?_
          refine xi_istore_n (pc' := 3) (lv' := [(2, .int 1), (0, .ref 0), (1, .int (-1))]) kc_90_2 rfl rfl (xm_lt ml_90 rfl) ?_
          refine xi_iload_n (pc' := 4) (x := 1) kc_90_3 rfl rfl ?_
          refine xi_iff (pc' := 7) kc_90_4 rfl rfl ?_
          refine xi_iload_n (pc' := 8) (x := 1) kc_90_7 rfl rfl ?_
          refine xi_aload_n (pc' := 9) (x := 0) kc_90_8 rfl rfl ?_
          refine xi_getfield (pc' := 12) (v := .ref 94) kc_90_9 rfl rfl rfl A3 rfl ?_
          obtain ⟨y310, A310, hy310, ry310⟩ := xk_arr K.1 xD_94
          refine xi_arraylength (pc' := 13) (n := 7) (v := 7) kc_90_12 rfl (xl_lenI (by decide) (by decide) A310 hy310) rfl ?_
          refine xi_cmf (pc' := 16) kc_90_13 rfl rfl ?_
          refine xi_aload_n (pc' := 17) (x := 0) kc_90_16 rfl rfl ?_
          refine xi_getfield (pc' := 20) (v := .ref 94) kc_90_17 rfl rfl rfl A3 rfl ?_
          refine xi_iload_n (pc' := 21) (x := 1) kc_90_20 rfl rfl ?_
          refine xi_dup2 (pc' := 22) kc_90_21 rfl ⟨rfl, rfl⟩ ?_
          obtain ⟨v311, ev311, bv311, dv311⟩ := xj_get hy310 ry310 (i := 1) (by decide) (by decide)
          refine xi_iaload (pc' := 23) (v := v311) kc_90_22 rfl A310 (by decide) rfl (xi_in (by decide) (by rw [hy310]; decide)) ev311 ?_
          refine xi_iconst (pc' := 24) (v := 1) kc_90_23 rfl rfl ?_
          obtain ⟨v312, ev312⟩ : ∃ q : Int32, (v311 : Int32) + 1 = q := ⟨_, rfl⟩
          have rv312 := xc_rng v312
          refine xi_iadd (pc' := 25) (v := v312) kc_90_24 rfl ev312 ?_
          obtain ⟨y313, s313, hy313, ry313⟩ := xj_set (v := v312) hy310 ry310 1 (by first | omega | decide) (by first | omega | decide)
          refine xi_iastore (pc' := 26) (x' := y313) kc_90_25 rfl A310 rfl (xi_in (by decide) (by rw [hy310]; decide)) s313 (fun hh313 eh313 => ?_)
          have K314 := xk_pa K (xk_wa rfl) xD_94 hy313 ry313 eh313
          refine xi_iload_n (pc' := 27) (x := (-1)) kc_90_26 rfl rfl ?_
          refine xi_ireturn kc_90_27 mr_90 rfl ?_
          show xw J ov 99 103 (19, [(0, .ref 0), (1, .int a24), (2, .int a26), (3, .int a28), (4, .int 1)], [.int (-1)], hh313) _
          refine xi_ireturn kc_103_19 mr_103 rfl ?_
          show xw J ov 100 195 (437, [(4, .int x4), (3, .ref 167), (2, .ref 115), (1, .ref 0), (0, .ref 1000000)], [.int (-1)], hh313) _
          refine xi_pop (pc' := 438) kc_195_437 rfl rfl ?_
          refine xi_aload_n (pc' := 439) (x := 115) kc_195_438 rfl rfl ?_
          refine xi_aload_n (pc' := 440) (x := 1000000) kc_195_439 rfl rfl ?_
          refine xi_iload (pc' := 442) (x := x4) kc_195_440 rfl rfl ?_
          refine xi_iconst (pc' := 443) (v := 1) kc_195_442 rfl rfl ?_
          refine xi_iadd (pc' := 444) (v := v23) kc_195_443 rfl ev23 ?_
          refine xi_ialoadO (pc' := 445) (v := a24) kc_195_444 rfl (by decide) hov0 (xi_in (by omega) (by omega)) ea24 ?_
          refine xi_aload_n (pc' := 446) (x := 1000000) kc_195_445 rfl rfl ?_
          refine xi_iload (pc' := 448) (x := x4) kc_195_446 rfl rfl ?_
          refine xi_iconst (pc' := 449) (v := 2) kc_195_448 rfl rfl ?_
          refine xi_iadd (pc' := 450) (v := v25) kc_195_449 rfl ev25 ?_
          refine xi_ialoadO (pc' := 451) (v := a26) kc_195_450 rfl (by decide) hov0 (xi_in (by omega) (by omega)) ea26 ?_
          refine xi_aload_n (pc' := 452) (x := 1000000) kc_195_451 rfl rfl ?_
          refine xi_iload (pc' := 454) (x := x4) kc_195_452 rfl rfl ?_
          refine xi_iconst (pc' := 455) (v := 3) kc_195_454 rfl rfl ?_
          refine xi_iadd (pc' := 456) (v := v27) kc_195_455 rfl ev27 ?_
          refine xi_ialoadO (pc' := 457) (v := a28) kc_195_456 rfl (by decide) hov0 (xi_in (by omega) (by omega)) ea28 ?_
          refine xi_aload_n (pc' := 458) (x := 1000000) kc_195_457 rfl rfl ?_
          refine xi_iload (pc' := 460) (x := x4) kc_195_458 rfl rfl ?_
          refine xi_iconst (pc' := 461) (v := 4) kc_195_460 rfl rfl ?_
          refine xi_iadd (pc' := 462) (v := v29) kc_195_461 rfl ev29 ?_
          refine xi_ialoadO (pc' := 463) (v := a30) kc_195_462 rfl (by decide) hov0 (xi_in (by omega) (by omega)) ea30 ?_
          refine xi_iff (pc' := 466) kc_195_463 rfl (xc_eq_f (X := a30.toInt) (Y := 0) rfl (by decide) (by omega)) ?_
          refine xi_iconst (pc' := 467) (v := 1) kc_195_466 rfl rfl ?_
          refine xi_goto (pc' := 471) kc_195_467 rfl ?_
          have A315 := ((eh313.2.1 115 (by decide)).trans A17)
          refine xi_virtual (mj := 23) (as := [.int a24, .int a26, .int a28, .int 1]) (st1 := []) (lv0 := [(0, .ref 115), (1, .int a24), (2, .int a26), (3, .int a28), (4, .int 1)]) kc_195_471 rfl rfl rfl rfl rfl A315 (Nat.le_of_ble_eq_true rfl) (hJ _ _ _ _ (by decide)) (xm_le ml_23 rfl) rfl ?_
          refine xi_aload_n (pc' := 1) (x := 115) kc_23_0 rfl rfl ?_
          refine xi_iconst (pc' := 2) (v := 0) kc_23_1 rfl rfl ?_
          refine xi_putfield (pc' := 5) (fs' := [.int 0, .int u2, .ref 116, .ref 117, .ref 118, .ref 119, .ref 120, .ref 121, .ref 122, .ref 123, .ref 124, .ref 125, .ref 126, .ref 127, .ref 128, .ref 129, .int u6, .ref 130, .int u19, .ref 131, .ref 132, .ref 133, .ref 134, .int u8, .ref 135, .ref 136, .ref 137, .ref 138, .ref 139, .ref 140, .ref 141, .ref 142, .int u9, .int u10, .int u11, .ref 143, .ref 144, .ref 145, .ref 146, .ref 147, .ref 148, .int u12, .ref 149, .ref 150, .ref 151, .int u13, .ref 152, .ref 153, .ref 154, .ref 155, .ref 156, .ref 157, .ref 158, .ref 159, .int u14, .ref 160, .int u15, .ref 161, .ref 162, .ref 163, .ref 164, .int u16, .ref 165, .ref 166]) kc_23_2 rfl rfl rfl A315 rfl rfl rfl (Nat.le_of_ble_eq_true rfl) rfl (fun hh317 eh316 => ?_)
          have K318 := xk_pf (k := 0) (v := 0) K314 (xk_wf rfl) xD_115 A315 rfl (by first | omega | decide) (by first | omega | decide) eh316 rfl
          refine xi_iload_n (pc' := 6) (x := a24) kc_23_5 rfl rfl ?_
          refine xi_static (mj := 24) (as := [.int a24]) (st1 := []) (lv0 := [(0, .int a24)]) kc_23_6 rfl rfl (Nat.le_of_ble_eq_true rfl) rfl rfl (Nat.le_of_ble_eq_true rfl) (hJ _ _ _ _ (by decide)) (xm_le ml_24 rfl) rfl ?_
          refine xi_iload_n (pc' := 1) (x := a24) kc_24_0 rfl rfl ?_
          refine xi_iconst (pc' := 2) (v := 0) kc_24_1 rfl rfl ?_
          refine xi_bipush (pc' := 4) (v := 11) kc_24_2 rfl rfl ?_
          refine xi_static (mj := 11) (as := [.int a24, .int 0, .int 11]) (st1 := []) (lv0 := [(0, .int a24), (1, .int 0), (2, .int 11)]) kc_24_4 rfl rfl (Nat.le_of_ble_eq_true rfl) rfl rfl (Nat.le_of_ble_eq_true rfl) (hJ _ _ _ _ (by decide)) (xm_le ml_11 rfl) rfl ?_
          refine xi_iload_n (pc' := 1) (x := a24) kc_11_0 rfl rfl ?_
          refine xi_iload_n (pc' := 2) (x := 0) kc_11_1 rfl rfl ?_
          refine xi_cmf (pc' := 5) kc_11_2 rfl (xc_lt_f (X := a24.toInt) (Y := 0) rfl (by decide) (by omega)) ?_
          refine xi_iload_n (pc' := 6) (x := a24) kc_11_5 rfl rfl ?_
          refine xi_iload_n (pc' := 7) (x := 11) kc_11_6 rfl rfl ?_
          refine xi_cmf (pc' := 10) kc_11_7 rfl (xc_gt_f (X := a24.toInt) (Y := 11) rfl (by decide) (by omega)) ?_
          refine xi_iconst (pc' := 11) (v := 1) kc_11_10 rfl rfl ?_
          refine xi_goto (pc' := 15) kc_11_11 rfl ?_
          refine xi_ireturn kc_11_15 mr_11 rfl ?_
          show xw J ov 98 24 (7, [(0, .int a24)], [.int 1], hh317) _
          refine xi_ireturn kc_24_7 mr_24 rfl ?_
          show xw J ov 99 23 (9, [(0, .ref 115), (1, .int a24), (2, .int a26), (3, .int a28), (4, .int 1)], [.int 1], hh317) _
          refine xi_iff (pc' := 12) kc_23_9 rfl rfl ?_
          refine xi_iload_n (pc' := 13) (x := a26) kc_23_12 rfl rfl ?_
          refine xi_static (mj := 10) (as := [.int a26]) (st1 := []) (lv0 := [(0, .int a26)]) kc_23_13 rfl rfl (Nat.le_of_ble_eq_true rfl) rfl rfl (Nat.le_of_ble_eq_true rfl) (hJ _ _ _ _ (by decide)) (xm_le ml_10 rfl) rfl ?_
          refine xi_iload_n (pc' := 1) (x := a26) kc_10_0 rfl rfl ?_
          refine xi_iconst (pc' := 2) (v := 0) kc_10_1 rfl rfl ?_
          refine xi_iconst (pc' := 3) (v := 5) kc_10_2 rfl rfl ?_
          refine xi_static (mj := 11) (as := [.int a26, .int 0, .int 5]) (st1 := []) (lv0 := [(0, .int a26), (1, .int 0), (2, .int 5)]) kc_10_3 rfl rfl (Nat.le_of_ble_eq_true rfl) rfl rfl (Nat.le_of_ble_eq_true rfl) (hJ _ _ _ _ (by decide)) (xm_le ml_11 rfl) rfl ?_
          refine xi_iload_n (pc' := 1) (x := a26) kc_11_0 rfl rfl ?_
          refine xi_iload_n (pc' := 2) (x := 0) kc_11_1 rfl rfl ?_
          refine xi_cmt (pc' := 14) kc_11_2 rfl (xc_lt_t (X := a26.toInt) (Y := 0) rfl (by decide) (by omega)) ?_
          refine xi_iconst (pc' := 15) (v := 0) kc_11_14 rfl rfl ?_
          refine xi_ireturn kc_11_15 mr_11 rfl ?_
          show xw J ov 98 10 (6, [(0, .int a26)], [.int 0], hh317) _
          refine xi_ireturn kc_10_6 mr_10 rfl ?_
          show xw J ov 99 23 (16, [(0, .ref 115), (1, .int a24), (2, .int a26), (3, .int a28), (4, .int 1)], [.int 0], hh317) _
          refine xi_iff (pc' := 19) kc_23_16 rfl rfl ?_
          refine xi_aload_n (pc' := 20) (x := 115) kc_23_19 rfl rfl ?_
          refine xi_iconst (pc' := 21) (v := (-1)) kc_23_20 rfl rfl ?_
          refine xi_virtual (mj := 12) (as := [.int (-1)]) (st1 := []) (lv0 := [(0, .ref 115), (1, .int (-1))]) kc_23_21 rfl rfl rfl rfl rfl eh316.1 (Nat.le_of_ble_eq_true rfl) (hJ _ _ _ _ (by decide)) (xm_le ml_12 rfl) rfl ?_
          refine xi_aload_n (pc' := 1) (x := 115) kc_12_0 rfl rfl ?_
          refine xi_getfield (pc' := 4) (v := .ref 140) kc_12_1 rfl rfl rfl eh316.1 rfl ?_
          refine xi_iload_n (pc' := 5) (x := (-1)) kc_12_4 rfl rfl ?_
          refine xi_ineg (pc' := 6) (v := 1) kc_12_5 rfl rfl ?_
          refine xi_dup2 (pc' := 7) kc_12_6 rfl ⟨rfl, rfl⟩ ?_
          obtain ⟨y319, A319, hy319, ry319⟩ := xk_arr K.1 xD_140
          obtain ⟨v320, ev320, bv320, dv320⟩ := xj_get hy319 ry319 (i := 1) (by decide) (by decide)
          have A321 := ((eh316.2.1 140 (by decide)).trans ((eh313.2.1 140 (by decide)).trans A319))
          refine xi_iaload (pc' := 8) (v := v320) kc_12_7 rfl A321 (by decide) rfl (xi_in (by decide) (by rw [hy319]; decide)) ev320 ?_
          refine xi_iconst (pc' := 9) (v := 1) kc_12_8 rfl rfl ?_
          obtain ⟨v322, ev322⟩ : ∃ q : Int32, (v320 : Int32) + 1 = q := ⟨_, rfl⟩
          have rv322 := xc_rng v322
          refine xi_iadd (pc' := 10) (v := v322) kc_12_9 rfl ev322 ?_
          obtain ⟨y323, s323, hy323, ry323⟩ := xj_set (v := v322) hy319 ry319 1 (by first | omega | decide) (by first | omega | decide)
          refine xi_iastore (pc' := 11) (x' := y323) kc_12_10 rfl A321 rfl (xi_in (by decide) (by rw [hy319]; decide)) s323 (fun hh323 eh323 => ?_)
          have K324 := xk_pa K318 (xk_wa rfl) xD_140 hy323 ry323 eh323
          refine xi_iload_n (pc' := 12) (x := (-1)) kc_12_11 rfl rfl ?_
          refine xi_ireturn kc_12_12 mr_12 rfl ?_
          show xw J ov 99 23 (24, [(0, .ref 115), (1, .int a24), (2, .int a26), (3, .int a28), (4, .int 1)], [.int (-1)], hh323) _
          refine xi_ireturn kc_23_24 mr_23 rfl ?_
          show xw J ov 100 195 (474, [(4, .int x4), (3, .ref 167), (2, .ref 115), (1, .ref 0), (0, .ref 1000000)], [.int (-1)], hh323) _
          refine xi_pop (pc' := 475) kc_195_474 rfl rfl ?_
          refine xi_goto (pc' := 1501) kc_195_475 rfl ?_
          obtain ⟨v325, ev325⟩ : ∃ q : Int32, x4 + 6 = q := ⟨_, rfl⟩
          have zv325 : v325.toInt = (x4.toInt + 6) := by rw [← ev325]; exact (xz_add (X := x4.toInt) (Y := 6) rfl (by decide) (by omega) (by omega)).trans (by omega)
          refine xi_iinc (pc' := 1504) (x := x4) (v := v325) (lv' := [(4, .int v325), (3, .ref 167), (2, .ref 115), (1, .ref 0), (0, .ref 1000000)]) kc_195_1501 rfl rfl ev325 rfl (xm_lt ml_195 rfl) ?_
          refine xi_goto (pc' := 23) kc_195_1504 rfl ?_
          have A326 := ((eh323.2.1 0 (by decide)).trans ((eh316.2.1 0 (by decide)).trans ((eh313.2.1 0 (by decide)).trans A3)))
          have A327 := ((eh323.2.1 115 (by decide)).trans eh316.1)
          have A328 := ((eh323.2.1 66 (by decide)).trans ((eh316.2.1 66 (by decide)).trans ((eh313.2.1 66 (by decide)).trans A20)))
          have A329 := ((eh323.2.1 71 (by decide)).trans ((eh316.2.1 71 (by decide)).trans ((eh313.2.1 71 (by decide)).trans A21)))
          have A330 := ((eh323.2.1 132 (by decide)).trans ((eh316.2.1 132 (by decide)).trans ((eh313.2.1 132 (by decide)).trans A22)))
          exact kk v325 hh323 (by omega) K324 ⟨(xGR_kept I.1 (fun c hc => ((eh323.2.1 c (Ne.symm (xk_nc hc rfl))).trans ((eh316.2.1 c (Ne.symm (xk_nc hc rfl))).trans (eh313.2.1 c (Ne.symm (xk_nc hc rfl)))))) ((eh323.2.1 125 (by decide)).trans ((eh316.2.1 125 (by decide)).trans (eh313.2.1 125 (by decide))))), ((xl_of A326 rfl).trans (xl_of A327 rfl).symm), ((xl_of A328 rfl).trans (xl_of A327 rfl).symm), ((xl_arr A329).trans (xl_arr A330).symm)⟩
        · refine xi_iff (pc' := 4) kc_89_1 rfl (xc_lt_f (X := a26.toInt) (Y := 0) rfl (by decide) (by omega)) ?_
          refine xi_iload_n (pc' := 5) (x := a26) kc_89_4 rfl rfl ?_
          refine xi_bipush (pc' := 7) (v := 6) kc_89_5 rfl rfl ?_
          by_cases c331 : 6 ≤ a26.toInt
          · refine xi_cmt (pc' := 14) kc_89_7 rfl (xc_ge_t (X := a26.toInt) (Y := 6) rfl (by decide) (by omega)) ?_
            refine xi_iconst (pc' := 15) (v := 0) kc_89_14 rfl rfl ?_
            refine xi_ireturn kc_89_15 mr_89 rfl ?_
            show xw J ov 99 103 (11, [(0, .ref 0), (1, .int a24), (2, .int a26), (3, .int a28), (4, .int 1)], [.int 0], h) _
            refine xi_iff (pc' := 14) kc_103_11 rfl rfl ?_
            refine xi_aload_n (pc' := 15) (x := 0) kc_103_14 rfl rfl ?_
            refine xi_iconst (pc' := 16) (v := (-1)) kc_103_15 rfl rfl ?_
            refine xi_virtual (mj := 90) (as := [.int (-1)]) (st1 := []) (lv0 := [(0, .ref 0), (1, .int (-1))]) kc_103_16 rfl rfl rfl rfl rfl A3 (Nat.le_of_ble_eq_true rfl) (hJ _ _ _ _ (by decide)) (xm_le ml_90 rfl) rfl ?_
            refine xi_iload_n (pc' := 1) (x := (-1)) kc_90_0 rfl rfl ?_
            refine xi_ineg (pc' := 2) (v := 1) kc_90_1 rfl rfl ?_
            refine xi_istore_n (pc' := 3) (lv' := [(2, .int 1), (0, .ref 0), (1, .int (-1))]) kc_90_2 rfl rfl (xm_lt ml_90 rfl) ?_
            refine xi_iload_n (pc' := 4) (x := 1) kc_90_3 rfl rfl ?_
            refine xi_iff (pc' := 7) kc_90_4 rfl rfl ?_
            refine xi_iload_n (pc' := 8) (x := 1) kc_90_7 rfl rfl ?_
            refine xi_aload_n (pc' := 9) (x := 0) kc_90_8 rfl rfl ?_
            refine xi_getfield (pc' := 12) (v := .ref 94) kc_90_9 rfl rfl rfl A3 rfl ?_
            obtain ⟨y332, A332, hy332, ry332⟩ := xk_arr K.1 xD_94
            refine xi_arraylength (pc' := 13) (n := 7) (v := 7) kc_90_12 rfl (xl_lenI (by decide) (by decide) A332 hy332) rfl ?_
            refine xi_cmf (pc' := 16) kc_90_13 rfl rfl ?_
            refine xi_aload_n (pc' := 17) (x := 0) kc_90_16 rfl rfl ?_
            refine xi_getfield (pc' := 20) (v := .ref 94) kc_90_17 rfl rfl rfl A3 rfl ?_
            refine xi_iload_n (pc' := 21) (x := 1) kc_90_20 rfl rfl ?_
            refine xi_dup2 (pc' := 22) kc_90_21 rfl ⟨rfl, rfl⟩ ?_
            obtain ⟨v333, ev333, bv333, dv333⟩ := xj_get hy332 ry332 (i := 1) (by decide) (by decide)
            refine xi_iaload (pc' := 23) (v := v333) kc_90_22 rfl A332 (by decide) rfl (xi_in (by decide) (by rw [hy332]; decide)) ev333 ?_
            refine xi_iconst (pc' := 24) (v := 1) kc_90_23 rfl rfl ?_
            obtain ⟨v334, ev334⟩ : ∃ q : Int32, (v333 : Int32) + 1 = q := ⟨_, rfl⟩
            have rv334 := xc_rng v334
            refine xi_iadd (pc' := 25) (v := v334) kc_90_24 rfl ev334 ?_
            obtain ⟨y335, s335, hy335, ry335⟩ := xj_set (v := v334) hy332 ry332 1 (by first | omega | decide) (by first | omega | decide)
            refine xi_iastore (pc' := 26) (x' := y335) kc_90_25 rfl A332 rfl (xi_in (by decide) (by rw [hy332]; decide)) s335 (fun hh335 eh335 => ?_)
            have K336 := xk_pa K (xk_wa rfl) xD_94 hy335 ry335 eh335
            refine xi_iload_n (pc' := 27) (x := (-1)) kc_90_26 rfl rfl ?_
            refine xi_ireturn kc_90_27 mr_90 rfl ?_
            show xw J ov 99 103 (19, [(0, .ref 0), (1, .int a24), (2, .int a26), (3, .int a28), (4, .int 1)], [.int (-1)], hh335) _
            refine xi_ireturn kc_103_19 mr_103 rfl ?_
            show xw J ov 100 195 (437, [(4, .int x4), (3, .ref 167), (2, .ref 115), (1, .ref 0), (0, .ref 1000000)], [.int (-1)], hh335) _
            refine xi_pop (pc' := 438) kc_195_437 rfl rfl ?_
            refine xi_aload_n (pc' := 439) (x := 115) kc_195_438 rfl rfl ?_
            refine xi_aload_n (pc' := 440) (x := 1000000) kc_195_439 rfl rfl ?_
            refine xi_iload (pc' := 442) (x := x4) kc_195_440 rfl rfl ?_
            refine xi_iconst (pc' := 443) (v := 1) kc_195_442 rfl rfl ?_
            refine xi_iadd (pc' := 444) (v := v23) kc_195_443 rfl ev23 ?_
            refine xi_ialoadO (pc' := 445) (v := a24) kc_195_444 rfl (by decide) hov0 (xi_in (by omega) (by omega)) ea24 ?_
            refine xi_aload_n (pc' := 446) (x := 1000000) kc_195_445 rfl rfl ?_
            refine xi_iload (pc' := 448) (x := x4) kc_195_446 rfl rfl ?_
            refine xi_iconst (pc' := 449) (v := 2) kc_195_448 rfl rfl ?_
            refine xi_iadd (pc' := 450) (v := v25) kc_195_449 rfl ev25 ?_
            refine xi_ialoadO (pc' := 451) (v := a26) kc_195_450 rfl (by decide) hov0 (xi_in (by omega) (by omega)) ea26 ?_
            refine xi_aload_n (pc' := 452) (x := 1000000) kc_195_451 rfl rfl ?_
            refine xi_iload (pc' := 454) (x := x4) kc_195_452 rfl rfl ?_
            refine xi_iconst (pc' := 455) (v := 3) kc_195_454 rfl rfl ?_
            refine xi_iadd (pc' := 456) (v := v27) kc_195_455 rfl ev27 ?_
            refine xi_ialoadO (pc' := 457) (v := a28) kc_195_456 rfl (by decide) hov0 (xi_in (by omega) (by omega)) ea28 ?_
            refine xi_aload_n (pc' := 458) (x := 1000000) kc_195_457 rfl rfl ?_
            refine xi_iload (pc' := 460) (x := x4) kc_195_458 rfl rfl ?_
            refine xi_iconst (pc' := 461) (v := 4) kc_195_460 rfl rfl ?_
            refine xi_iadd (pc' := 462) (v := v29) kc_195_461 rfl ev29 ?_
            refine xi_ialoadO (pc' := 463) (v := a30) kc_195_462 rfl (by decide) hov0 (xi_in (by omega) (by omega)) ea30 ?_
            refine xi_iff (pc' := 466) kc_195_463 rfl (xc_eq_f (X := a30.toInt) (Y := 0) rfl (by decide) (by omega)) ?_
            refine xi_iconst (pc' := 467) (v := 1) kc_195_466 rfl rfl ?_
            refine xi_goto (pc' := 471) kc_195_467 rfl ?_
            have A337 := ((eh335.2.1 115 (by decide)).trans A17)
            refine xi_virtual (mj := 23) (as := [.int a24, .int a26, .int a28, .int 1]) (st1 := []) (lv0 := [(0, .ref 115), (1, .int a24), (2, .int a26), (3, .int a28), (4, .int 1)]) kc_195_471 rfl rfl rfl rfl rfl A337 (Nat.le_of_ble_eq_true rfl) (hJ _ _ _ _ (by decide)) (xm_le ml_23 rfl) rfl ?_
            refine xi_aload_n (pc' := 1) (x := 115) kc_23_0 rfl rfl ?_
            refine xi_iconst (pc' := 2) (v := 0) kc_23_1 rfl rfl ?_
            refine xi_putfield (pc' := 5) (fs' := [.int 0, .int u2, .ref 116, .ref 117, .ref 118, .ref 119, .ref 120, .ref 121, .ref 122, .ref 123, .ref 124, .ref 125, .ref 126, .ref 127, .ref 128, .ref 129, .int u6, .ref 130, .int u19, .ref 131, .ref 132, .ref 133, .ref 134, .int u8, .ref 135, .ref 136, .ref 137, .ref 138, .ref 139, .ref 140, .ref 141, .ref 142, .int u9, .int u10, .int u11, .ref 143, .ref 144, .ref 145, .ref 146, .ref 147, .ref 148, .int u12, .ref 149, .ref 150, .ref 151, .int u13, .ref 152, .ref 153, .ref 154, .ref 155, .ref 156, .ref 157, .ref 158, .ref 159, .int u14, .ref 160, .int u15, .ref 161, .ref 162, .ref 163, .ref 164, .int u16, .ref 165, .ref 166]) kc_23_2 rfl rfl rfl A337 rfl rfl rfl (Nat.le_of_ble_eq_true rfl) rfl (fun hh339 eh338 => ?_)
            have K340 := xk_pf (k := 0) (v := 0) K336 (xk_wf rfl) xD_115 A337 rfl (by first | omega | decide) (by first | omega | decide) eh338 rfl
            refine xi_iload_n (pc' := 6) (x := a24) kc_23_5 rfl rfl ?_
            refine xi_static (mj := 24) (as := [.int a24]) (st1 := []) (lv0 := [(0, .int a24)]) kc_23_6 rfl rfl (Nat.le_of_ble_eq_true rfl) rfl rfl (Nat.le_of_ble_eq_true rfl) (hJ _ _ _ _ (by decide)) (xm_le ml_24 rfl) rfl ?_
            refine xi_iload_n (pc' := 1) (x := a24) kc_24_0 rfl rfl ?_
            refine xi_iconst (pc' := 2) (v := 0) kc_24_1 rfl rfl ?_
            refine xi_bipush (pc' := 4) (v := 11) kc_24_2 rfl rfl ?_
            refine xi_static (mj := 11) (as := [.int a24, .int 0, .int 11]) (st1 := []) (lv0 := [(0, .int a24), (1, .int 0), (2, .int 11)]) kc_24_4 rfl rfl (Nat.le_of_ble_eq_true rfl) rfl rfl (Nat.le_of_ble_eq_true rfl) (hJ _ _ _ _ (by decide)) (xm_le ml_11 rfl) rfl ?_
            refine xi_iload_n (pc' := 1) (x := a24) kc_11_0 rfl rfl ?_
            refine xi_iload_n (pc' := 2) (x := 0) kc_11_1 rfl rfl ?_
            refine xi_cmf (pc' := 5) kc_11_2 rfl (xc_lt_f (X := a24.toInt) (Y := 0) rfl (by decide) (by omega)) ?_
            refine xi_iload_n (pc' := 6) (x := a24) kc_11_5 rfl rfl ?_
            refine xi_iload_n (pc' := 7) (x := 11) kc_11_6 rfl rfl ?_
            refine xi_cmf (pc' := 10) kc_11_7 rfl (xc_gt_f (X := a24.toInt) (Y := 11) rfl (by decide) (by omega)) ?_
            refine xi_iconst (pc' := 11) (v := 1) kc_11_10 rfl rfl ?_
            refine xi_goto (pc' := 15) kc_11_11 rfl ?_
            refine xi_ireturn kc_11_15 mr_11 rfl ?_
            show xw J ov 98 24 (7, [(0, .int a24)], [.int 1], hh339) _
            refine xi_ireturn kc_24_7 mr_24 rfl ?_
            show xw J ov 99 23 (9, [(0, .ref 115), (1, .int a24), (2, .int a26), (3, .int a28), (4, .int 1)], [.int 1], hh339) _
            refine xi_iff (pc' := 12) kc_23_9 rfl rfl ?_
            refine xi_iload_n (pc' := 13) (x := a26) kc_23_12 rfl rfl ?_
            refine xi_static (mj := 10) (as := [.int a26]) (st1 := []) (lv0 := [(0, .int a26)]) kc_23_13 rfl rfl (Nat.le_of_ble_eq_true rfl) rfl rfl (Nat.le_of_ble_eq_true rfl) (hJ _ _ _ _ (by decide)) (xm_le ml_10 rfl) rfl ?_
            refine xi_iload_n (pc' := 1) (x := a26) kc_10_0 rfl rfl ?_
            refine xi_iconst (pc' := 2) (v := 0) kc_10_1 rfl rfl ?_
            refine xi_iconst (pc' := 3) (v := 5) kc_10_2 rfl rfl ?_
            refine xi_static (mj := 11) (as := [.int a26, .int 0, .int 5]) (st1 := []) (lv0 := [(0, .int a26), (1, .int 0), (2, .int 5)]) kc_10_3 rfl rfl (Nat.le_of_ble_eq_true rfl) rfl rfl (Nat.le_of_ble_eq_true rfl) (hJ _ _ _ _ (by decide)) (xm_le ml_11 rfl) rfl ?_
            refine xi_iload_n (pc' := 1) (x := a26) kc_11_0 rfl rfl ?_
            refine xi_iload_n (pc' := 2) (x := 0) kc_11_1 rfl rfl ?_
            refine xi_cmf (pc' := 5) kc_11_2 rfl (xc_lt_f (X := a26.toInt) (Y := 0) rfl (by decide) (by omega)) ?_
            refine xi_iload_n (pc' := 6) (x := a26) kc_11_5 rfl rfl ?_
            refine xi_iload_n (pc' := 7) (x := 5) kc_11_6 rfl rfl ?_
            refine xi_cmt (pc' := 14) kc_11_7 rfl (xc_gt_t (X := a26.toInt) (Y := 5) rfl (by decide) (by omega)) ?_
            refine xi_iconst (pc' := 15) (v := 0) kc_11_14 rfl rfl ?_
            refine xi_ireturn kc_11_15 mr_11 rfl ?_
            show xw J ov 98 10 (6, [(0, .int a26)], [.int 0], hh339) _
            refine xi_ireturn kc_10_6 mr_10 rfl ?_
            show xw J ov 99 23 (16, [(0, .ref 115), (1, .int a24), (2, .int a26), (3, .int a28), (4, .int 1)], [.int 0], hh339) _
            refine xi_iff (pc' := 19) kc_23_16 rfl rfl ?_
            refine xi_aload_n (pc' := 20) (x := 115) kc_23_19 rfl rfl ?_
            refine xi_iconst (pc' := 21) (v := (-1)) kc_23_20 rfl rfl ?_
            refine xi_virtual (mj := 12) (as := [.int (-1)]) (st1 := []) (lv0 := [(0, .ref 115), (1, .int (-1))]) kc_23_21 rfl rfl rfl rfl rfl eh338.1 (Nat.le_of_ble_eq_true rfl) (hJ _ _ _ _ (by decide)) (xm_le ml_12 rfl) rfl ?_
            refine xi_aload_n (pc' := 1) (x := 115) kc_12_0 rfl rfl ?_
            refine xi_getfield (pc' := 4) (v := .ref 140) kc_12_1 rfl rfl rfl eh338.1 rfl ?_
            refine xi_iload_n (pc' := 5) (x := (-1)) kc_12_4 rfl rfl ?_
            refine xi_ineg (pc' := 6) (v := 1) kc_12_5 rfl rfl ?_
            refine xi_dup2 (pc' := 7) kc_12_6 rfl ⟨rfl, rfl⟩ ?_
            obtain ⟨y341, A341, hy341, ry341⟩ := xk_arr K.1 xD_140
            obtain ⟨v342, ev342, bv342, dv342⟩ := xj_get hy341 ry341 (i := 1) (by decide) (by decide)
            have A343 := ((eh338.2.1 140 (by decide)).trans ((eh335.2.1 140 (by decide)).trans A341))
            refine xi_iaload (pc' := 8) (v := v342) kc_12_7 rfl A343 (by decide) rfl (xi_in (by decide) (by rw [hy341]; decide)) ev342 ?_
            refine xi_iconst (pc' := 9) (v := 1) kc_12_8 rfl rfl ?_
            obtain ⟨v344, ev344⟩ : ∃ q : Int32, (v342 : Int32) + 1 = q := ⟨_, rfl⟩
            have rv344 := xc_rng v344
            refine xi_iadd (pc' := 10) (v := v344) kc_12_9 rfl ev344 ?_
            obtain ⟨y345, s345, hy345, ry345⟩ := xj_set (v := v344) hy341 ry341 1 (by first | omega | decide) (by first | omega | decide)
            refine xi_iastore (pc' := 11) (x' := y345) kc_12_10 rfl A343 rfl (xi_in (by decide) (by rw [hy341]; decide)) s345 (fun hh345 eh345 => ?_)
            have K346 := xk_pa K340 (xk_wa rfl) xD_140 hy345 ry345 eh345
            refine xi_iload_n (pc' := 12) (x := (-1)) kc_12_11 rfl rfl ?_
            refine xi_ireturn kc_12_12 mr_12 rfl ?_
            show xw J ov 99 23 (24, [(0, .ref 115), (1, .int a24), (2, .int a26), (3, .int a28), (4, .int 1)], [.int (-1)], hh345) _
            refine xi_ireturn kc_23_24 mr_23 rfl ?_
            show xw J ov 100 195 (474, [(4, .int x4), (3, .ref 167), (2, .ref 115), (1, .ref 0), (0, .ref 1000000)], [.int (-1)], hh345) _
            refine xi_pop (pc' := 475) kc_195_474 rfl rfl ?_
            refine xi_goto (pc' := 1501) kc_195_475 rfl ?_
            obtain ⟨v347, ev347⟩ : ∃ q : Int32, x4 + 6 = q := ⟨_, rfl⟩
            have zv347 : v347.toInt = (x4.toInt + 6) := by rw [← ev347]; exact (xz_add (X := x4.toInt) (Y := 6) rfl (by decide) (by omega) (by omega)).trans (by omega)
            refine xi_iinc (pc' := 1504) (x := x4) (v := v347) (lv' := [(4, .int v347), (3, .ref 167), (2, .ref 115), (1, .ref 0), (0, .ref 1000000)]) kc_195_1501 rfl rfl ev347 rfl (xm_lt ml_195 rfl) ?_
            refine xi_goto (pc' := 23) kc_195_1504 rfl ?_
            have A348 := ((eh345.2.1 0 (by decide)).trans ((eh338.2.1 0 (by decide)).trans ((eh335.2.1 0 (by decide)).trans A3)))
            have A349 := ((eh345.2.1 115 (by decide)).trans eh338.1)
            have A350 := ((eh345.2.1 66 (by decide)).trans ((eh338.2.1 66 (by decide)).trans ((eh335.2.1 66 (by decide)).trans A20)))
            have A351 := ((eh345.2.1 71 (by decide)).trans ((eh338.2.1 71 (by decide)).trans ((eh335.2.1 71 (by decide)).trans A21)))
            have A352 := ((eh345.2.1 132 (by decide)).trans ((eh338.2.1 132 (by decide)).trans ((eh335.2.1 132 (by decide)).trans A22)))
            exact kk v347 hh345 (by omega) K346 ⟨(xGR_kept I.1 (fun c hc => ((eh345.2.1 c (Ne.symm (xk_nc hc rfl))).trans ((eh338.2.1 c (Ne.symm (xk_nc hc rfl))).trans (eh335.2.1 c (Ne.symm (xk_nc hc rfl)))))) ((eh345.2.1 125 (by decide)).trans ((eh338.2.1 125 (by decide)).trans (eh335.2.1 125 (by decide))))), ((xl_of A348 rfl).trans (xl_of A349 rfl).symm), ((xl_of A350 rfl).trans (xl_of A349 rfl).symm), ((xl_arr A351).trans (xl_arr A352).symm)⟩
          · refine xi_cmf (pc' := 10) kc_89_7 rfl (xc_ge_f (X := a26.toInt) (Y := 6) rfl (by decide) (by omega)) ?_
            refine xi_iconst (pc' := 11) (v := 1) kc_89_10 rfl rfl ?_
            refine xi_goto (pc' := 15) kc_89_11 rfl ?_
            refine xi_ireturn kc_89_15 mr_89 rfl ?_
            show xw J ov 99 103 (11, [(0, .ref 0), (1, .int a24), (2, .int a26), (3, .int a28), (4, .int 1)], [.int 1], h) _
            refine xi_ift (pc' := 20) kc_103_11 rfl rfl ?_
            refine xi_iload_n (pc' := 21) (x := a28) kc_103_20 rfl rfl ?_
            by_cases c353 : 0 ≤ a28.toInt
            · refine xi_ift (pc' := 31) kc_103_21 rfl (xc_ge_t (X := a28.toInt) (Y := 0) rfl (by decide) (by omega)) ?_
              refine xi_iload_n (pc' := 32) (x := a28) kc_103_31 rfl rfl ?_
              refine xi_bipush (pc' := 34) (v := 100) kc_103_32 rfl rfl ?_
              by_cases c354 : a28.toInt ≤ 100
              · refine xi_cmt (pc' := 44) kc_103_34 rfl (xc_le_t (X := a28.toInt) (Y := 100) rfl (by decide) (by omega)) ?_
                refine xi_aload_n (pc' := 45) (x := 0) kc_103_44 rfl rfl ?_
                refine xi_getfield (pc' := 48) (v := .ref 66) kc_103_45 rfl rfl rfl A3 rfl ?_
                refine xi_virtual (mj := 91) (as := []) (st1 := []) (lv0 := [(0, .ref 66)]) kc_103_48 rfl rfl rfl rfl rfl A20 (Nat.le_of_ble_eq_true rfl) (hJ _ _ _ _ (by decide)) (xm_le ml_91 rfl) rfl ?_
                refine xi_aload_n (pc' := 1) (x := 66) kc_91_0 rfl rfl ?_
                refine xi_lconst (pc' := 2) (v := 0) kc_91_1 rfl rfl ?_
                refine xi_putfield (pc' := 5) (fs' := [.ref 1, .ref 67, .ref 70, .ref 71, .ref 72, .ref 73, .ref 74, .long 0, .int u19]) kc_91_2 rfl rfl rfl A20 rfl rfl rfl (Nat.le_of_ble_eq_true rfl) rfl (fun hh356 eh355 => ?_)
                have K357 := xk_pl (k := 7) (v := 0) K (xk_wf rfl) xD_66 A20 rfl eh355 rfl
                refine xi_return kc_91_5 mr_91 ?_
                show xw J ov 99 103 (51, [(0, .ref 0), (1, .int a24), (2, .int a26), (3, .int a28), (4, .int 1)], [], hh356) _
                refine xi_aload_n (pc' := 52) (x := 0) kc_103_51 rfl rfl ?_
                have A358 := ((eh355.2.1 0 (by decide)).trans A3)
                refine xi_getfield (pc' := 55) (v := .ref 1) kc_103_52 rfl rfl rfl A358 rfl ?_
                obtain ⟨u359, u360, bu359, bu360, A361⟩ := xq_1 K.1
                have A362 := ((eh355.2.1 1 (by decide)).trans A361)
                refine xi_getfield (pc' := 58) (v := .ref 3) kc_103_55 rfl rfl rfl A362 rfl ?_
                refine xi_iload_n (pc' := 59) (x := a24) kc_103_58 rfl rfl ?_
                have A363 := xk_ex K.1 xD_3
                obtain ⟨pt364, ept364, mpt364⟩ := xR_3 (i := a24) (by omega) (by omega)
                have A365 := ((eh355.2.1 3 (by decide)).trans A363)
                refine xj_aaload (pc' := 60) (b := pt364) kc_103_59 rfl A365 rfl (xi_in (n := 12) (by omega) (by omega)) ept364 ?_
                refine xi_astore (pc' := 62) (lv' := [(5, .ref pt364), (0, .ref 0), (1, .int a24), (2, .int a26), (3, .int a28), (4, .int 1)]) kc_103_60 rfl rfl (xm_lt ml_103 rfl) ?_
                refine xi_aload (pc' := 64) (x := pt364) kc_103_62 rfl rfl ?_
                obtain ⟨u366, u367, u368, u369, pt370, bu366, bu367, bu368, bu369, mpt370, A371⟩ := xg_wall K.1 mpt364
                obtain ⟨y372, A372, hy372, ry372⟩ := xk_arr K.1 xD_125
                have HG373 : y372.getD (Int32.toNatClampNeg a24) 0 = u366 := xGR_ld (Lo := [some 29, some 31, some 33, some 35, some 37, some 39, some 41, some 43, some 45, some 47, some 49, some 51]) I.1 rfl ept364 (by omega) (by show _ < ((12 : Nat) : Int); omega) A371 rfl A372
                have bHG373 : (-9) ≤ u366.toInt ∧ u366.toInt ≤ 5 := by rw [← HG373]; exact ry372 _ (xj_nat (n := 12) (by omega) (by omega))
                have A374 := ((eh355.2.1 pt364 (Ne.symm (xk_nc mpt364 rfl))).trans A371)
                refine xi_virtual (mj := 105) (as := []) (st1 := []) (lv0 := [(0, .ref pt364)]) kc_103_64 rfl rfl rfl rfl rfl A374 (Nat.le_of_ble_eq_true rfl) (hJ _ _ _ _ (by decide)) (xm_le ml_105 rfl) rfl ?_
                refine xi_aload_n (pc' := 1) (x := pt364) kc_105_0 rfl rfl ?_
                refine xi_getfield (pc' := 4) (v := .int u366) kc_105_1 rfl rfl rfl A374 rfl ?_
                refine xi_static (mj := 89) (as := [.int u366]) (st1 := []) (lv0 := [(0, .int u366)]) kc_105_4 rfl rfl (Nat.le_of_ble_eq_true rfl) rfl rfl (Nat.le_of_ble_eq_true rfl) (hJ _ _ _ _ (by decide)) (xm_le ml_89 rfl) rfl ?_
                refine xi_iload_n (pc' := 1) (x := u366) kc_89_0 rfl rfl ?_
                by_cases c375 : u366.toInt < 0
                · refine xi_ift (pc' := 14) kc_89_1 rfl (xc_lt_t (X := u366.toInt) (Y := 0) rfl (by decide) (by omega)) ?_
                  refine xi_iconst (pc' := 15) (v := 0) kc_89_14 rfl rfl ?_
                  refine xi_ireturn kc_89_15 mr_89 rfl ?_
                  show xw J ov 98 105 (7, [(0, .ref pt364)], [.int 0], hh356) _
                  refine xi_ireturn kc_105_7 mr_105 rfl ?_
                  show xw J ov 99 103 (67, [(5, .ref pt364), (0, .ref 0), (1, .int a24), (2, .int a26), (3, .int a28), (4, .int 1)], [.int 0], hh356) _
                  refine xi_ift (pc' := 74) kc_103_67 rfl rfl ?_
                  refine xi_iconst (pc' := 75) (v := 1) kc_103_74 rfl rfl ?_
                  refine xi_istore (pc' := 77) (lv' := [(6, .int 1), (5, .ref pt364), (0, .ref 0), (1, .int a24), (2, .int a26), (3, .int a28), (4, .int 1)]) kc_103_75 rfl rfl (xm_lt ml_103 rfl) ?_
                  refine xi_aload (pc' := 79) (x := pt364) kc_103_77 rfl rfl ?_
                  refine xi_iload_n (pc' := 80) (x := a26) kc_103_79 rfl rfl ?_
                  refine xi_putfield (pc' := 83) (fs' := [.int a26, .int u367, .int u368, .int u369, .ref pt370]) kc_103_80 rfl rfl rfl A374 rfl rfl rfl (Nat.le_of_ble_eq_true rfl) rfl (fun hh377 eh376 => ?_)
                  obtain ⟨ds378, Dds378, dds378_0, dds378_1, dds378_2, dds378_3⟩ := xGo_wall mpt364
                  have K379 := xk_pf (k := 0) (v := a26) K357 (xk_gf mpt364 rfl) Dds378 A374 dds378_0 (by first | omega | decide) (by first | omega | decide) eh376 rfl
                  refine xi_aload (pc' := 85) (x := pt364) kc_103_83 rfl rfl ?_
                  refine xi_iload_n (pc' := 86) (x := a28) kc_103_85 rfl rfl ?_
                  refine xi_putfield (pc' := 89) (fs' := [.int a26, .int a28, .int u368, .int u369, .ref pt370]) kc_103_86 rfl rfl rfl eh376.1 rfl rfl rfl (Nat.le_of_ble_eq_true rfl) rfl (fun hh381 eh380 => ?_)
                  obtain ⟨ds382, Dds382, dds382_0, dds382_1, dds382_2, dds382_3⟩ := xGo_wall mpt364
                  have K383 := xk_pf (k := 1) (v := a28) K379 (xk_gf mpt364 rfl) Dds382 eh376.1 dds382_1 (by first | omega | decide) (by first | omega | decide) eh380 rfl
                  refine xi_aload (pc' := 91) (x := pt364) kc_103_89 rfl rfl ?_
                  refine xi_iload (pc' := 93) (x := 1) kc_103_91 rfl rfl ?_
                  refine xi_putfield (pc' := 96) (fs' := [.int a26, .int a28, .int 1, .int u369, .ref pt370]) kc_103_93 rfl rfl rfl eh380.1 rfl rfl rfl (Nat.le_of_ble_eq_true rfl) rfl (fun hh385 eh384 => ?_)
                  obtain ⟨ds386, Dds386, dds386_0, dds386_1, dds386_2, dds386_3⟩ := xGo_wall mpt364
                  have K387 := xk_pf (k := 2) (v := 1) K383 (xk_gf mpt364 rfl) Dds386 eh380.1 dds386_2 (by first | omega | decide) (by first | omega | decide) eh384 rfl
                  refine xi_iload (pc' := 98) (x := 1) kc_103_96 rfl rfl ?_
                  refine xi_ireturn kc_103_98 mr_103 rfl ?_
                  show xw J ov 100 195 (437, [(4, .int x4), (3, .ref 167), (2, .ref 115), (1, .ref 0), (0, .ref 1000000)], [.int 1], hh385) _
                  refine xi_pop (pc' := 438) kc_195_437 rfl rfl ?_
                  refine xi_aload_n (pc' := 439) (x := 115) kc_195_438 rfl rfl ?_
                  refine xi_aload_n (pc' := 440) (x := 1000000) kc_195_439 rfl rfl ?_
                  refine xi_iload (pc' := 442) (x := x4) kc_195_440 rfl rfl ?_
                  refine xi_iconst (pc' := 443) (v := 1) kc_195_442 rfl rfl ?_
                  refine xi_iadd (pc' := 444) (v := v23) kc_195_443 rfl ev23 ?_
                  refine xi_ialoadO (pc' := 445) (v := a24) kc_195_444 rfl (by decide) hov0 (xi_in (by omega) (by omega)) ea24 ?_
                  refine xi_aload_n (pc' := 446) (x := 1000000) kc_195_445 rfl rfl ?_
                  refine xi_iload (pc' := 448) (x := x4) kc_195_446 rfl rfl ?_
                  refine xi_iconst (pc' := 449) (v := 2) kc_195_448 rfl rfl ?_
                  refine xi_iadd (pc' := 450) (v := v25) kc_195_449 rfl ev25 ?_
                  refine xi_ialoadO (pc' := 451) (v := a26) kc_195_450 rfl (by decide) hov0 (xi_in (by omega) (by omega)) ea26 ?_
                  refine xi_aload_n (pc' := 452) (x := 1000000) kc_195_451 rfl rfl ?_
                  refine xi_iload (pc' := 454) (x := x4) kc_195_452 rfl rfl ?_
                  refine xi_iconst (pc' := 455) (v := 3) kc_195_454 rfl rfl ?_
                  refine xi_iadd (pc' := 456) (v := v27) kc_195_455 rfl ev27 ?_
                  refine xi_ialoadO (pc' := 457) (v := a28) kc_195_456 rfl (by decide) hov0 (xi_in (by omega) (by omega)) ea28 ?_
                  refine xi_aload_n (pc' := 458) (x := 1000000) kc_195_457 rfl rfl ?_
                  refine xi_iload (pc' := 460) (x := x4) kc_195_458 rfl rfl ?_
                  refine xi_iconst (pc' := 461) (v := 4) kc_195_460 rfl rfl ?_
                  refine xi_iadd (pc' := 462) (v := v29) kc_195_461 rfl ev29 ?_
                  refine xi_ialoadO (pc' := 463) (v := a30) kc_195_462 rfl (by decide) hov0 (xi_in (by omega) (by omega)) ea30 ?_
                  refine xi_iff (pc' := 466) kc_195_463 rfl (xc_eq_f (X := a30.toInt) (Y := 0) rfl (by decide) (by omega)) ?_
                  refine xi_iconst (pc' := 467) (v := 1) kc_195_466 rfl rfl ?_
                  refine xi_goto (pc' := 471) kc_195_467 rfl ?_
                  have A388 := ((eh384.2.1 115 (xk_nc mpt364 rfl)).trans ((eh380.2.1 115 (xk_nc mpt364 rfl)).trans ((eh376.2.1 115 (xk_nc mpt364 rfl)).trans ((eh355.2.1 115 (by decide)).trans A17))))
                  refine xi_virtual (mj := 23) (as := [.int a24, .int a26, .int a28, .int 1]) (st1 := []) (lv0 := [(0, .ref 115), (1, .int a24), (2, .int a26), (3, .int a28), (4, .int 1)]) kc_195_471 rfl rfl rfl rfl rfl A388 (Nat.le_of_ble_eq_true rfl) (hJ _ _ _ _ (by decide)) (xm_le ml_23 rfl) rfl ?_
                  refine xi_aload_n (pc' := 1) (x := 115) kc_23_0 rfl rfl ?_
                  refine xi_iconst (pc' := 2) (v := 0) kc_23_1 rfl rfl ?_
                  refine xi_putfield (pc' := 5) (fs' := [.int 0, .int u2, .ref 116, .ref 117, .ref 118, .ref 119, .ref 120, .ref 121, .ref 122, .ref 123, .ref 124, .ref 125, .ref 126, .ref 127, .ref 128, .ref 129, .int u6, .ref 130, .int u19, .ref 131, .ref 132, .ref 133, .ref 134, .int u8, .ref 135, .ref 136, .ref 137, .ref 138, .ref 139, .ref 140, .ref 141, .ref 142, .int u9, .int u10, .int u11, .ref 143, .ref 144, .ref 145, .ref 146, .ref 147, .ref 148, .int u12, .ref 149, .ref 150, .ref 151, .int u13, .ref 152, .ref 153, .ref 154, .ref 155, .ref 156, .ref 157, .ref 158, .ref 159, .int u14, .ref 160, .int u15, .ref 161, .ref 162, .ref 163, .ref 164, .int u16, .ref 165, .ref 166]) kc_23_2 rfl rfl rfl A388 rfl rfl rfl (Nat.le_of_ble_eq_true rfl) rfl (fun hh390 eh389 => ?_)
                  have K391 := xk_pf (k := 0) (v := 0) K387 (xk_wf rfl) xD_115 A388 rfl (by first | omega | decide) (by first | omega | decide) eh389 rfl
                  refine xi_iload_n (pc' := 6) (x := a24) kc_23_5 rfl rfl ?_
                  refine xi_static (mj := 24) (as := [.int a24]) (st1 := []) (lv0 := [(0, .int a24)]) kc_23_6 rfl rfl (Nat.le_of_ble_eq_true rfl) rfl rfl (Nat.le_of_ble_eq_true rfl) (hJ _ _ _ _ (by decide)) (xm_le ml_24 rfl) rfl ?_
                  refine xi_iload_n (pc' := 1) (x := a24) kc_24_0 rfl rfl ?_
                  refine xi_iconst (pc' := 2) (v := 0) kc_24_1 rfl rfl ?_
                  refine xi_bipush (pc' := 4) (v := 11) kc_24_2 rfl rfl ?_
                  refine xi_static (mj := 11) (as := [.int a24, .int 0, .int 11]) (st1 := []) (lv0 := [(0, .int a24), (1, .int 0), (2, .int 11)]) kc_24_4 rfl rfl (Nat.le_of_ble_eq_true rfl) rfl rfl (Nat.le_of_ble_eq_true rfl) (hJ _ _ _ _ (by decide)) (xm_le ml_11 rfl) rfl ?_
                  refine xi_iload_n (pc' := 1) (x := a24) kc_11_0 rfl rfl ?_
                  refine xi_iload_n (pc' := 2) (x := 0) kc_11_1 rfl rfl ?_
                  refine xi_cmf (pc' := 5) kc_11_2 rfl (xc_lt_f (X := a24.toInt) (Y := 0) rfl (by decide) (by omega)) ?_
                  refine xi_iload_n (pc' := 6) (x := a24) kc_11_5 rfl rfl ?_
                  refine xi_iload_n (pc' := 7) (x := 11) kc_11_6 rfl rfl ?_
                  refine xi_cmf (pc' := 10) kc_11_7 rfl (xc_gt_f (X := a24.toInt) (Y := 11) rfl (by decide) (by omega)) ?_
                  refine xi_iconst (pc' := 11) (v := 1) kc_11_10 rfl rfl ?_
                  refine xi_goto (pc' := 15) kc_11_11 rfl ?_
                  refine xi_ireturn kc_11_15 mr_11 rfl ?_
                  show xw J ov 98 24 (7, [(0, .int a24)], [.int 1], hh390) _
                  refine xi_ireturn kc_24_7 mr_24 rfl ?_
                  show xw J ov 99 23 (9, [(0, .ref 115), (1, .int a24), (2, .int a26), (3, .int a28), (4, .int 1)], [.int 1], hh390) _
                  refine xi_iff (pc' := 12) kc_23_9 rfl rfl ?_
                  refine xi_iload_n (pc' := 13) (x := a26) kc_23_12 rfl rfl ?_
                  refine xi_static (mj := 10) (as := [.int a26]) (st1 := []) (lv0 := [(0, .int a26)]) kc_23_13 rfl rfl (Nat.le_of_ble_eq_true rfl) rfl rfl (Nat.le_of_ble_eq_true rfl) (hJ _ _ _ _ (by decide)) (xm_le ml_10 rfl) rfl ?_
                  refine xi_iload_n (pc' := 1) (x := a26) kc_10_0 rfl rfl ?_
                  refine xi_iconst (pc' := 2) (v := 0) kc_10_1 rfl rfl ?_
                  refine xi_iconst (pc' := 3) (v := 5) kc_10_2 rfl rfl ?_
                  refine xi_static (mj := 11) (as := [.int a26, .int 0, .int 5]) (st1 := []) (lv0 := [(0, .int a26), (1, .int 0), (2, .int 5)]) kc_10_3 rfl rfl (Nat.le_of_ble_eq_true rfl) rfl rfl (Nat.le_of_ble_eq_true rfl) (hJ _ _ _ _ (by decide)) (xm_le ml_11 rfl) rfl ?_
                  refine xi_iload_n (pc' := 1) (x := a26) kc_11_0 rfl rfl ?_
                  refine xi_iload_n (pc' := 2) (x := 0) kc_11_1 rfl rfl ?_
                  refine xi_cmf (pc' := 5) kc_11_2 rfl (xc_lt_f (X := a26.toInt) (Y := 0) rfl (by decide) (by omega)) ?_
                  refine xi_iload_n (pc' := 6) (x := a26) kc_11_5 rfl rfl ?_
                  refine xi_iload_n (pc' := 7) (x := 5) kc_11_6 rfl rfl ?_
                  refine xi_cmf (pc' := 10) kc_11_7 rfl (xc_gt_f (X := a26.toInt) (Y := 5) rfl (by decide) (by omega)) ?_
                  refine xi_iconst (pc' := 11) (v := 1) kc_11_10 rfl rfl ?_
                  refine xi_goto (pc' := 15) kc_11_11 rfl ?_
                  refine xi_ireturn kc_11_15 mr_11 rfl ?_
                  show xw J ov 98 10 (6, [(0, .int a26)], [.int 1], hh390) _
                  refine xi_ireturn kc_10_6 mr_10 rfl ?_
                  show xw J ov 99 23 (16, [(0, .ref 115), (1, .int a24), (2, .int a26), (3, .int a28), (4, .int 1)], [.int 1], hh390) _
                  refine xi_ift (pc' := 25) kc_23_16 rfl rfl ?_
                  refine xi_iload_n (pc' := 26) (x := a28) kc_23_25 rfl rfl ?_
                  refine xi_ift (pc' := 36) kc_23_26 rfl (xc_ge_t (X := a28.toInt) (Y := 0) rfl (by decide) (by omega)) ?_
                  refine xi_iload_n (pc' := 37) (x := a28) kc_23_36 rfl rfl ?_
                  refine xi_bipush (pc' := 39) (v := 100) kc_23_37 rfl rfl ?_
                  refine xi_cmt (pc' := 49) kc_23_39 rfl (xc_le_t (X := a28.toInt) (Y := 100) rfl (by decide) (by omega)) ?_
                  refine xi_aload_n (pc' := 50) (x := 115) kc_23_49 rfl rfl ?_
                  refine xi_getfield (pc' := 53) (v := .ref 125) kc_23_50 rfl rfl rfl eh389.1 rfl ?_
                  refine xi_iload_n (pc' := 54) (x := a24) kc_23_53 rfl rfl ?_
                  have A392 := ((eh389.2.1 125 (by decide)).trans ((eh384.2.1 125 (xk_nc mpt364 rfl)).trans ((eh380.2.1 125 (xk_nc mpt364 rfl)).trans ((eh376.2.1 125 (xk_nc mpt364 rfl)).trans ((eh355.2.1 125 (by decide)).trans A372)))))
                  refine xi_iaload (pc' := 55) (v := u366) kc_23_54 rfl A392 (by decide) rfl (xi_in (by omega) (by rw [hy372]; omega)) HG373 ?_
                  refine xi_ift (pc' := 62) kc_23_55 rfl (xc_lt_t (X := u366.toInt) (Y := 0) rfl (by decide) (by omega)) ?_
                  refine xi_iconst (pc' := 63) (v := 0) kc_23_62 rfl rfl ?_
                  refine xi_istore (pc' := 65) (lv' := [(5, .int 0), (0, .ref 115), (1, .int a24), (2, .int a26), (3, .int a28), (4, .int 1)]) kc_23_63 rfl rfl (xm_lt ml_23 rfl) ?_
                  refine xi_aload_n (pc' := 66) (x := 115) kc_23_65 rfl rfl ?_
                  refine xi_getfield (pc' := 69) (v := .ref 125) kc_23_66 rfl rfl rfl eh389.1 rfl ?_
                  refine xi_iload_n (pc' := 70) (x := a24) kc_23_69 rfl rfl ?_
                  refine xi_iload_n (pc' := 71) (x := a26) kc_23_70 rfl rfl ?_
                  obtain ⟨y393, s393, hy393, ry393⟩ := xj_set (v := a26) hy372 ry372 a24 (by first | omega | decide) (by first | omega | decide)
                  refine xi_iastore (pc' := 72) (x' := y393) kc_23_71 rfl A392 rfl (xi_in (by omega) (by rw [hy372]; omega)) s393 (fun hh393 eh393 => ?_)
                  have K394 := xk_pa K391 (xk_wa rfl) xD_125 hy393 ry393 eh393
                  refine xi_aload_n (pc' := 73) (x := 115) kc_23_72 rfl rfl ?_
                  have A395 := ((eh393.2.1 115 (by decide)).trans eh389.1)
                  refine xi_getfield (pc' := 76) (v := .ref 126) kc_23_73 rfl rfl rfl A395 rfl ?_
                  refine xi_iload_n (pc' := 77) (x := a24) kc_23_76 rfl rfl ?_
                  refine xi_iload_n (pc' := 78) (x := a28) kc_23_77 rfl rfl ?_
                  obtain ⟨y396, A396, hy396, ry396⟩ := xk_arr K.1 xD_126
                  have A397 := ((eh393.2.1 126 (by decide)).trans ((eh389.2.1 126 (by decide)).trans ((eh384.2.1 126 (xk_nc mpt364 rfl)).trans ((eh380.2.1 126 (xk_nc mpt364 rfl)).trans ((eh376.2.1 126 (xk_nc mpt364 rfl)).trans ((eh355.2.1 126 (by decide)).trans A396))))))
                  obtain ⟨y398, s398, hy398, ry398⟩ := xj_set (v := a28) hy396 ry396 a24 (by first | omega | decide) (by first | omega | decide)
                  refine xi_iastore (pc' := 79) (x' := y398) kc_23_78 rfl A397 rfl (xi_in (by omega) (by rw [hy396]; omega)) s398 (fun hh398 eh398 => ?_)
                  have K399 := xk_pa K394 (xk_wa rfl) xD_126 hy398 ry398 eh398
                  refine xi_aload_n (pc' := 80) (x := 115) kc_23_79 rfl rfl ?_
                  have A400 := ((eh398.2.1 115 (by decide)).trans A395)
                  refine xi_getfield (pc' := 83) (v := .ref 127) kc_23_80 rfl rfl rfl A400 rfl ?_
                  refine xi_iload_n (pc' := 84) (x := a24) kc_23_83 rfl rfl ?_
                  refine xi_iload (pc' := 86) (x := 1) kc_23_84 rfl rfl ?_
                  obtain ⟨y401, A401, hy401, ry401⟩ := xk_arr K.1 xD_127
                  have A402 := ((eh398.2.1 127 (by decide)).trans ((eh393.2.1 127 (by decide)).trans ((eh389.2.1 127 (by decide)).trans ((eh384.2.1 127 (xk_nc mpt364 rfl)).trans ((eh380.2.1 127 (xk_nc mpt364 rfl)).trans ((eh376.2.1 127 (xk_nc mpt364 rfl)).trans ((eh355.2.1 127 (by decide)).trans A401)))))))
                  obtain ⟨y403, s403, hy403, ry403⟩ := xj_set (v := 1) hy401 ry401 a24 (by first | omega | decide) (by first | omega | decide)
                  refine xi_bastore (pc' := 87) (x' := y403) kc_23_86 rfl A402 rfl (xi_in (by omega) (by rw [hy401]; omega)) s403 (fun hh403 eh403 => ?_)
                  have K404 := xk_pa K399 (xk_wa rfl) xD_127 hy403 ry403 eh403
                  refine xi_aload_n (pc' := 88) (x := 115) kc_23_87 rfl rfl ?_
                  refine xi_iconst (pc' := 89) (v := 0) kc_23_88 rfl rfl ?_
                  have A405 := ((eh403.2.1 115 (by decide)).trans A400)
                  refine xi_putfield (pc' := 92) (fs' := [.int 0, .int u2, .ref 116, .ref 117, .ref 118, .ref 119, .ref 120, .ref 121, .ref 122, .ref 123, .ref 124, .ref 125, .ref 126, .ref 127, .ref 128, .ref 129, .int u6, .ref 130, .int u19, .ref 131, .ref 132, .ref 133, .ref 134, .int u8, .ref 135, .ref 136, .ref 137, .ref 138, .ref 139, .ref 140, .ref 141, .ref 142, .int u9, .int u10, .int u11, .ref 143, .ref 144, .ref 145, .ref 146, .ref 147, .ref 148, .int 0, .ref 149, .ref 150, .ref 151, .int u13, .ref 152, .ref 153, .ref 154, .ref 155, .ref 156, .ref 157, .ref 158, .ref 159, .int u14, .ref 160, .int u15, .ref 161, .ref 162, .ref 163, .ref 164, .int u16, .ref 165, .ref 166]) kc_23_89 rfl rfl rfl A405 rfl rfl rfl (Nat.le_of_ble_eq_true rfl) rfl (fun hh407 eh406 => ?_)
                  have K408 := xk_pf (k := 41) (v := 0) K404 (xk_wf rfl) xD_115 A405 rfl (by first | omega | decide) (by first | omega | decide) eh406 rfl
                  refine xi_iload (pc' := 94) (x := 0) kc_23_92 rfl rfl ?_
                  refine xi_ift (pc' := 101) kc_23_94 rfl rfl ?_
                  refine xi_iconst (pc' := 102) (v := 1) kc_23_101 rfl rfl ?_
                  refine xi_ireturn kc_23_102 mr_23 rfl ?_
                  show xw J ov 100 195 (474, [(4, .int x4), (3, .ref 167), (2, .ref 115), (1, .ref 0), (0, .ref 1000000)], [.int 1], hh407) _
                  refine xi_pop (pc' := 475) kc_195_474 rfl rfl ?_
                  refine xi_goto (pc' := 1501) kc_195_475 rfl ?_
                  obtain ⟨v409, ev409⟩ : ∃ q : Int32, x4 + 6 = q := ⟨_, rfl⟩
                  have zv409 : v409.toInt = (x4.toInt + 6) := by rw [← ev409]; exact (xz_add (X := x4.toInt) (Y := 6) rfl (by decide) (by omega) (by omega)).trans (by omega)
                  refine xi_iinc (pc' := 1504) (x := x4) (v := v409) (lv' := [(4, .int v409), (3, .ref 167), (2, .ref 115), (1, .ref 0), (0, .ref 1000000)]) kc_195_1501 rfl rfl ev409 rfl (xm_lt ml_195 rfl) ?_
                  refine xi_goto (pc' := 23) kc_195_1504 rfl ?_
                  have A410 := ((eh406.2.1 pt364 (Ne.symm (xk_nc mpt364 rfl))).trans ((eh403.2.1 pt364 (Ne.symm (xk_nc mpt364 rfl))).trans ((eh398.2.1 pt364 (Ne.symm (xk_nc mpt364 rfl))).trans ((eh393.2.1 pt364 (Ne.symm (xk_nc mpt364 rfl))).trans ((eh389.2.1 pt364 (Ne.symm (xk_nc mpt364 rfl))).trans eh384.1)))))
                  have A411 := ((eh406.2.1 125 (by decide)).trans ((eh403.2.1 125 (by decide)).trans ((eh398.2.1 125 (by decide)).trans eh393.1)))
                  have A412 := ((eh406.2.1 0 (by decide)).trans ((eh403.2.1 0 (by decide)).trans ((eh398.2.1 0 (by decide)).trans ((eh393.2.1 0 (by decide)).trans ((eh389.2.1 0 (by decide)).trans ((eh384.2.1 0 (xk_nc mpt364 rfl)).trans ((eh380.2.1 0 (xk_nc mpt364 rfl)).trans ((eh376.2.1 0 (xk_nc mpt364 rfl)).trans A358))))))))
                  have A413 := ((eh406.2.1 66 (by decide)).trans ((eh403.2.1 66 (by decide)).trans ((eh398.2.1 66 (by decide)).trans ((eh393.2.1 66 (by decide)).trans ((eh389.2.1 66 (by decide)).trans ((eh384.2.1 66 (xk_nc mpt364 rfl)).trans ((eh380.2.1 66 (xk_nc mpt364 rfl)).trans ((eh376.2.1 66 (xk_nc mpt364 rfl)).trans eh355.1))))))))
                  have A414 := ((eh406.2.1 71 (by decide)).trans ((eh403.2.1 71 (by decide)).trans ((eh398.2.1 71 (by decide)).trans ((eh393.2.1 71 (by decide)).trans ((eh389.2.1 71 (by decide)).trans ((eh384.2.1 71 (xk_nc mpt364 rfl)).trans ((eh380.2.1 71 (xk_nc mpt364 rfl)).trans ((eh376.2.1 71 (xk_nc mpt364 rfl)).trans ((eh355.2.1 71 (by decide)).trans A21)))))))))
                  have A415 := ((eh406.2.1 132 (by decide)).trans ((eh403.2.1 132 (by decide)).trans ((eh398.2.1 132 (by decide)).trans ((eh393.2.1 132 (by decide)).trans ((eh389.2.1 132 (by decide)).trans ((eh384.2.1 132 (xk_nc mpt364 rfl)).trans ((eh380.2.1 132 (xk_nc mpt364 rfl)).trans ((eh376.2.1 132 (xk_nc mpt364 rfl)).trans ((eh355.2.1 132 (by decide)).trans A22)))))))))
                  exact kk v409 hh407 (by omega) K408 ⟨(xGR_set (Lo := [some 29, some 31, some 33, some 35, some 37, some 39, some 41, some 43, some 45, some 47, some 49, some 51]) I.1 (by decide) rfl ept364 (by omega) (by show _ < ((12 : Nat) : Int); omega) A372 (by rw [hy372]; decide) A410 rfl A411 s393 (fun c hc hne => ((eh406.2.1 c (Ne.symm (xk_nc hc rfl))).trans ((eh403.2.1 c (Ne.symm (xk_nc hc rfl))).trans ((eh398.2.1 c (Ne.symm (xk_nc hc rfl))).trans ((eh393.2.1 c (Ne.symm (xk_nc hc rfl))).trans ((eh389.2.1 c (Ne.symm (xk_nc hc rfl))).trans ((eh384.2.1 c hne).trans ((eh380.2.1 c hne).trans ((eh376.2.1 c hne).trans (eh355.2.1 c (Ne.symm (xk_nc hc rfl))))))))))))), ((xl_of A412 rfl).trans (xl_of eh406.1 rfl).symm), ((xl_of A413 rfl).trans (xl_of eh406.1 rfl).symm), ((xl_arr A414).trans (xl_arr A415).symm)⟩
                · refine xi_iff (pc' := 4) kc_89_1 rfl (xc_lt_f (X := u366.toInt) (Y := 0) rfl (by decide) (by omega)) ?_
                  refine xi_iload_n (pc' := 5) (x := u366) kc_89_4 rfl rfl ?_
                  refine xi_bipush (pc' := 7) (v := 6) kc_89_5 rfl rfl ?_
                  refine xi_cmf (pc' := 10) kc_89_7 rfl (xc_ge_f (X := u366.toInt) (Y := 6) rfl (by decide) (by omega)) ?_
                  refine xi_iconst (pc' := 11) (v := 1) kc_89_10 rfl rfl ?_
                  refine xi_goto (pc' := 15) kc_89_11 rfl ?_
                  refine xi_ireturn kc_89_15 mr_89 rfl ?_
                  show xw J ov 98 105 (7, [(0, .ref pt364)], [.int 1], hh356) _
                  refine xi_ireturn kc_105_7 mr_105 rfl ?_
                  show xw J ov 99 103 (67, [(5, .ref pt364), (0, .ref 0), (1, .int a24), (2, .int a26), (3, .int a28), (4, .int 1)], [.int 1], hh356) _
                  refine xi_iff (pc' := 70) kc_103_67 rfl rfl ?_
                  refine xi_iconst (pc' := 71) (v := 0) kc_103_70 rfl rfl ?_
                  refine xi_goto (pc' := 75) kc_103_71 rfl ?_
                  refine xi_istore (pc' := 77) (lv' := [(6, .int 0), (5, .ref pt364), (0, .ref 0), (1, .int a24), (2, .int a26), (3, .int a28), (4, .int 1)]) kc_103_75 rfl rfl (xm_lt ml_103 rfl) ?_
                  refine xi_aload (pc' := 79) (x := pt364) kc_103_77 rfl rfl ?_
                  refine xi_iload_n (pc' := 80) (x := a26) kc_103_79 rfl rfl ?_
                  refine xi_putfield (pc' := 83) (fs' := [.int a26, .int u367, .int u368, .int u369, .ref pt370]) kc_103_80 rfl rfl rfl A374 rfl rfl rfl (Nat.le_of_ble_eq_true rfl) rfl (fun hh417 eh416 => ?_)
                  obtain ⟨ds418, Dds418, dds418_0, dds418_1, dds418_2, dds418_3⟩ := xGo_wall mpt364
                  have K419 := xk_pf (k := 0) (v := a26) K357 (xk_gf mpt364 rfl) Dds418 A374 dds418_0 (by first | omega | decide) (by first | omega | decide) eh416 rfl
                  refine xi_aload (pc' := 85) (x := pt364) kc_103_83 rfl rfl ?_
                  refine xi_iload_n (pc' := 86) (x := a28) kc_103_85 rfl rfl ?_
                  refine xi_putfield (pc' := 89) (fs' := [.int a26, .int a28, .int u368, .int u369, .ref pt370]) kc_103_86 rfl rfl rfl eh416.1 rfl rfl rfl (Nat.le_of_ble_eq_true rfl) rfl (fun hh421 eh420 => ?_)
                  obtain ⟨ds422, Dds422, dds422_0, dds422_1, dds422_2, dds422_3⟩ := xGo_wall mpt364
                  have K423 := xk_pf (k := 1) (v := a28) K419 (xk_gf mpt364 rfl) Dds422 eh416.1 dds422_1 (by first | omega | decide) (by first | omega | decide) eh420 rfl
                  refine xi_aload (pc' := 91) (x := pt364) kc_103_89 rfl rfl ?_
                  refine xi_iload (pc' := 93) (x := 1) kc_103_91 rfl rfl ?_
                  refine xi_putfield (pc' := 96) (fs' := [.int a26, .int a28, .int 1, .int u369, .ref pt370]) kc_103_93 rfl rfl rfl eh420.1 rfl rfl rfl (Nat.le_of_ble_eq_true rfl) rfl (fun hh425 eh424 => ?_)
                  obtain ⟨ds426, Dds426, dds426_0, dds426_1, dds426_2, dds426_3⟩ := xGo_wall mpt364
                  have K427 := xk_pf (k := 2) (v := 1) K423 (xk_gf mpt364 rfl) Dds426 eh420.1 dds426_2 (by first | omega | decide) (by first | omega | decide) eh424 rfl
                  refine xi_iload (pc' := 98) (x := 0) kc_103_96 rfl rfl ?_
                  refine xi_ireturn kc_103_98 mr_103 rfl ?_
                  show xw J ov 100 195 (437, [(4, .int x4), (3, .ref 167), (2, .ref 115), (1, .ref 0), (0, .ref 1000000)], [.int 0], hh425) _
                  refine xi_pop (pc' := 438) kc_195_437 rfl rfl ?_
                  refine xi_aload_n (pc' := 439) (x := 115) kc_195_438 rfl rfl ?_
                  refine xi_aload_n (pc' := 440) (x := 1000000) kc_195_439 rfl rfl ?_
                  refine xi_iload (pc' := 442) (x := x4) kc_195_440 rfl rfl ?_
                  refine xi_iconst (pc' := 443) (v := 1) kc_195_442 rfl rfl ?_
                  refine xi_iadd (pc' := 444) (v := v23) kc_195_443 rfl ev23 ?_
                  refine xi_ialoadO (pc' := 445) (v := a24) kc_195_444 rfl (by decide) hov0 (xi_in (by omega) (by omega)) ea24 ?_
                  refine xi_aload_n (pc' := 446) (x := 1000000) kc_195_445 rfl rfl ?_
                  refine xi_iload (pc' := 448) (x := x4) kc_195_446 rfl rfl ?_
                  refine xi_iconst (pc' := 449) (v := 2) kc_195_448 rfl rfl ?_
                  refine xi_iadd (pc' := 450) (v := v25) kc_195_449 rfl ev25 ?_
                  refine xi_ialoadO (pc' := 451) (v := a26) kc_195_450 rfl (by decide) hov0 (xi_in (by omega) (by omega)) ea26 ?_
                  refine xi_aload_n (pc' := 452) (x := 1000000) kc_195_451 rfl rfl ?_
                  refine xi_iload (pc' := 454) (x := x4) kc_195_452 rfl rfl ?_
                  refine xi_iconst (pc' := 455) (v := 3) kc_195_454 rfl rfl ?_
                  refine xi_iadd (pc' := 456) (v := v27) kc_195_455 rfl ev27 ?_
                  refine xi_ialoadO (pc' := 457) (v := a28) kc_195_456 rfl (by decide) hov0 (xi_in (by omega) (by omega)) ea28 ?_
                  refine xi_aload_n (pc' := 458) (x := 1000000) kc_195_457 rfl rfl ?_
                  refine xi_iload (pc' := 460) (x := x4) kc_195_458 rfl rfl ?_
                  refine xi_iconst (pc' := 461) (v := 4) kc_195_460 rfl rfl ?_
                  refine xi_iadd (pc' := 462) (v := v29) kc_195_461 rfl ev29 ?_
                  refine xi_ialoadO (pc' := 463) (v := a30) kc_195_462 rfl (by decide) hov0 (xi_in (by omega) (by omega)) ea30 ?_
                  refine xi_iff (pc' := 466) kc_195_463 rfl (xc_eq_f (X := a30.toInt) (Y := 0) rfl (by decide) (by omega)) ?_
                  refine xi_iconst (pc' := 467) (v := 1) kc_195_466 rfl rfl ?_
                  refine xi_goto (pc' := 471) kc_195_467 rfl ?_
                  have A428 := ((eh424.2.1 115 (xk_nc mpt364 rfl)).trans ((eh420.2.1 115 (xk_nc mpt364 rfl)).trans ((eh416.2.1 115 (xk_nc mpt364 rfl)).trans ((eh355.2.1 115 (by decide)).trans A17))))
                  refine xi_virtual (mj := 23) (as := [.int a24, .int a26, .int a28, .int 1]) (st1 := []) (lv0 := [(0, .ref 115), (1, .int a24), (2, .int a26), (3, .int a28), (4, .int 1)]) kc_195_471 rfl rfl rfl rfl rfl A428 (Nat.le_of_ble_eq_true rfl) (hJ _ _ _ _ (by decide)) (xm_le ml_23 rfl) rfl ?_
                  refine xi_aload_n (pc' := 1) (x := 115) kc_23_0 rfl rfl ?_
                  refine xi_iconst (pc' := 2) (v := 0) kc_23_1 rfl rfl ?_
                  refine xi_putfield (pc' := 5) (fs' := [.int 0, .int u2, .ref 116, .ref 117, .ref 118, .ref 119, .ref 120, .ref 121, .ref 122, .ref 123, .ref 124, .ref 125, .ref 126, .ref 127, .ref 128, .ref 129, .int u6, .ref 130, .int u19, .ref 131, .ref 132, .ref 133, .ref 134, .int u8, .ref 135, .ref 136, .ref 137, .ref 138, .ref 139, .ref 140, .ref 141, .ref 142, .int u9, .int u10, .int u11, .ref 143, .ref 144, .ref 145, .ref 146, .ref 147, .ref 148, .int u12, .ref 149, .ref 150, .ref 151, .int u13, .ref 152, .ref 153, .ref 154, .ref 155, .ref 156, .ref 157, .ref 158, .ref 159, .int u14, .ref 160, .int u15, .ref 161, .ref 162, .ref 163, .ref 164, .int u16, .ref 165, .ref 166]) kc_23_2 rfl rfl rfl A428 rfl rfl rfl (Nat.le_of_ble_eq_true rfl) rfl (fun hh430 eh429 => ?_)
                  have K431 := xk_pf (k := 0) (v := 0) K427 (xk_wf rfl) xD_115 A428 rfl (by first | omega | decide) (by first | omega | decide) eh429 rfl
                  refine xi_iload_n (pc' := 6) (x := a24) kc_23_5 rfl rfl ?_
                  refine xi_static (mj := 24) (as := [.int a24]) (st1 := []) (lv0 := [(0, .int a24)]) kc_23_6 rfl rfl (Nat.le_of_ble_eq_true rfl) rfl rfl (Nat.le_of_ble_eq_true rfl) (hJ _ _ _ _ (by decide)) (xm_le ml_24 rfl) rfl ?_
                  refine xi_iload_n (pc' := 1) (x := a24) kc_24_0 rfl rfl ?_
                  refine xi_iconst (pc' := 2) (v := 0) kc_24_1 rfl rfl ?_
                  refine xi_bipush (pc' := 4) (v := 11) kc_24_2 rfl rfl ?_
                  refine xi_static (mj := 11) (as := [.int a24, .int 0, .int 11]) (st1 := []) (lv0 := [(0, .int a24), (1, .int 0), (2, .int 11)]) kc_24_4 rfl rfl (Nat.le_of_ble_eq_true rfl) rfl rfl (Nat.le_of_ble_eq_true rfl) (hJ _ _ _ _ (by decide)) (xm_le ml_11 rfl) rfl ?_
                  refine xi_iload_n (pc' := 1) (x := a24) kc_11_0 rfl rfl ?_
                  refine xi_iload_n (pc' := 2) (x := 0) kc_11_1 rfl rfl ?_
                  refine xi_cmf (pc' := 5) kc_11_2 rfl (xc_lt_f (X := a24.toInt) (Y := 0) rfl (by decide) (by omega)) ?_
                  refine xi_iload_n (pc' := 6) (x := a24) kc_11_5 rfl rfl ?_
                  refine xi_iload_n (pc' := 7) (x := 11) kc_11_6 rfl rfl ?_
                  refine xi_cmf (pc' := 10) kc_11_7 rfl (xc_gt_f (X := a24.toInt) (Y := 11) rfl (by decide) (by omega)) ?_
                  refine xi_iconst (pc' := 11) (v := 1) kc_11_10 rfl rfl ?_
                  refine xi_goto (pc' := 15) kc_11_11 rfl ?_
                  refine xi_ireturn kc_11_15 mr_11 rfl ?_
                  show xw J ov 98 24 (7, [(0, .int a24)], [.int 1], hh430) _
                  refine xi_ireturn kc_24_7 mr_24 rfl ?_
                  show xw J ov 99 23 (9, [(0, .ref 115), (1, .int a24), (2, .int a26), (3, .int a28), (4, .int 1)], [.int 1], hh430) _
                  refine xi_iff (pc' := 12) kc_23_9 rfl rfl ?_
                  refine xi_iload_n (pc' := 13) (x := a26) kc_23_12 rfl rfl ?_
                  refine xi_static (mj := 10) (as := [.int a26]) (st1 := []) (lv0 := [(0, .int a26)]) kc_23_13 rfl rfl (Nat.le_of_ble_eq_true rfl) rfl rfl (Nat.le_of_ble_eq_true rfl) (hJ _ _ _ _ (by decide)) (xm_le ml_10 rfl) rfl ?_
                  refine xi_iload_n (pc' := 1) (x := a26) kc_10_0 rfl rfl ?_
                  refine xi_iconst (pc' := 2) (v := 0) kc_10_1 rfl rfl ?_
                  refine xi_iconst (pc' := 3) (v := 5) kc_10_2 rfl rfl ?_
                  refine xi_static (mj := 11) (as := [.int a26, .int 0, .int 5]) (st1 := []) (lv0 := [(0, .int a26), (1, .int 0), (2, .int 5)]) kc_10_3 rfl rfl (Nat.le_of_ble_eq_true rfl) rfl rfl (Nat.le_of_ble_eq_true rfl) (hJ _ _ _ _ (by decide)) (xm_le ml_11 rfl) rfl ?_
                  refine xi_iload_n (pc' := 1) (x := a26) kc_11_0 rfl rfl ?_
                  refine xi_iload_n (pc' := 2) (x := 0) kc_11_1 rfl rfl ?_
                  refine xi_cmf (pc' := 5) kc_11_2 rfl (xc_lt_f (X := a26.toInt) (Y := 0) rfl (by decide) (by omega)) ?_
                  refine xi_iload_n (pc' := 6) (x := a26) kc_11_5 rfl rfl ?_
                  refine xi_iload_n (pc' := 7) (x := 5) kc_11_6 rfl rfl ?_
                  refine xi_cmf (pc' := 10) kc_11_7 rfl (xc_gt_f (X := a26.toInt) (Y := 5) rfl (by decide) (by omega)) ?_
                  refine xi_iconst (pc' := 11) (v := 1) kc_11_10 rfl rfl ?_
                  refine xi_goto (pc' := 15) kc_11_11 rfl ?_
                  refine xi_ireturn kc_11_15 mr_11 rfl ?_
                  show xw J ov 98 10 (6, [(0, .int a26)], [.int 1], hh430) _
                  refine xi_ireturn kc_10_6 mr_10 rfl ?_
                  show xw J ov 99 23 (16, [(0, .ref 115), (1, .int a24), (2, .int a26), (3, .int a28), (4, .int 1)], [.int 1], hh430) _
                  refine xi_ift (pc' := 25) kc_23_16 rfl rfl ?_
                  refine xi_iload_n (pc' := 26) (x := a28) kc_23_25 rfl rfl ?_
                  refine xi_ift (pc' := 36) kc_23_26 rfl (xc_ge_t (X := a28.toInt) (Y := 0) rfl (by decide) (by omega)) ?_
                  refine xi_iload_n (pc' := 37) (x := a28) kc_23_36 rfl rfl ?_
                  refine xi_bipush (pc' := 39) (v := 100) kc_23_37 rfl rfl ?_
                  refine xi_cmt (pc' := 49) kc_23_39 rfl (xc_le_t (X := a28.toInt) (Y := 100) rfl (by decide) (by omega)) ?_
                  refine xi_aload_n (pc' := 50) (x := 115) kc_23_49 rfl rfl ?_
                  refine xi_getfield (pc' := 53) (v := .ref 125) kc_23_50 rfl rfl rfl eh429.1 rfl ?_
                  refine xi_iload_n (pc' := 54) (x := a24) kc_23_53 rfl rfl ?_
                  have A432 := ((eh429.2.1 125 (by decide)).trans ((eh424.2.1 125 (xk_nc mpt364 rfl)).trans ((eh420.2.1 125 (xk_nc mpt364 rfl)).trans ((eh416.2.1 125 (xk_nc mpt364 rfl)).trans ((eh355.2.1 125 (by decide)).trans A372)))))
                  refine xi_iaload (pc' := 55) (v := u366) kc_23_54 rfl A432 (by decide) rfl (xi_in (by omega) (by rw [hy372]; omega)) HG373 ?_
                  refine xi_iff (pc' := 58) kc_23_55 rfl (xc_lt_f (X := u366.toInt) (Y := 0) rfl (by decide) (by omega)) ?_
                  refine xi_iconst (pc' := 59) (v := 1) kc_23_58 rfl rfl ?_
                  refine xi_goto (pc' := 63) kc_23_59 rfl ?_
                  refine xi_istore (pc' := 65) (lv' := [(5, .int 1), (0, .ref 115), (1, .int a24), (2, .int a26), (3, .int a28), (4, .int 1)]) kc_23_63 rfl rfl (xm_lt ml_23 rfl) ?_
                  refine xi_aload_n (pc' := 66) (x := 115) kc_23_65 rfl rfl ?_
                  refine xi_getfield (pc' := 69) (v := .ref 125) kc_23_66 rfl rfl rfl eh429.1 rfl ?_
                  refine xi_iload_n (pc' := 70) (x := a24) kc_23_69 rfl rfl ?_
                  refine xi_iload_n (pc' := 71) (x := a26) kc_23_70 rfl rfl ?_
                  obtain ⟨y433, s433, hy433, ry433⟩ := xj_set (v := a26) hy372 ry372 a24 (by first | omega | decide) (by first | omega | decide)
                  refine xi_iastore (pc' := 72) (x' := y433) kc_23_71 rfl A432 rfl (xi_in (by omega) (by rw [hy372]; omega)) s433 (fun hh433 eh433 => ?_)
                  have K434 := xk_pa K431 (xk_wa rfl) xD_125 hy433 ry433 eh433
                  refine xi_aload_n (pc' := 73) (x := 115) kc_23_72 rfl rfl ?_
                  have A435 := ((eh433.2.1 115 (by decide)).trans eh429.1)
                  refine xi_getfield (pc' := 76) (v := .ref 126) kc_23_73 rfl rfl rfl A435 rfl ?_
                  refine xi_iload_n (pc' := 77) (x := a24) kc_23_76 rfl rfl ?_
                  refine xi_iload_n (pc' := 78) (x := a28) kc_23_77 rfl rfl ?_
                  obtain ⟨y436, A436, hy436, ry436⟩ := xk_arr K.1 xD_126
                  have A437 := ((eh433.2.1 126 (by decide)).trans ((eh429.2.1 126 (by decide)).trans ((eh424.2.1 126 (xk_nc mpt364 rfl)).trans ((eh420.2.1 126 (xk_nc mpt364 rfl)).trans ((eh416.2.1 126 (xk_nc mpt364 rfl)).trans ((eh355.2.1 126 (by decide)).trans A436))))))
                  obtain ⟨y438, s438, hy438, ry438⟩ := xj_set (v := a28) hy436 ry436 a24 (by first | omega | decide) (by first | omega | decide)
                  refine xi_iastore (pc' := 79) (x' := y438) kc_23_78 rfl A437 rfl (xi_in (by omega) (by rw [hy436]; omega)) s438 (fun hh438 eh438 => ?_)
                  have K439 := xk_pa K434 (xk_wa rfl) xD_126 hy438 ry438 eh438
                  refine xi_aload_n (pc' := 80) (x := 115) kc_23_79 rfl rfl ?_
                  have A440 := ((eh438.2.1 115 (by decide)).trans A435)
                  refine xi_getfield (pc' := 83) (v := .ref 127) kc_23_80 rfl rfl rfl A440 rfl ?_
                  refine xi_iload_n (pc' := 84) (x := a24) kc_23_83 rfl rfl ?_
                  refine xi_iload (pc' := 86) (x := 1) kc_23_84 rfl rfl ?_
                  obtain ⟨y441, A441, hy441, ry441⟩ := xk_arr K.1 xD_127
                  have A442 := ((eh438.2.1 127 (by decide)).trans ((eh433.2.1 127 (by decide)).trans ((eh429.2.1 127 (by decide)).trans ((eh424.2.1 127 (xk_nc mpt364 rfl)).trans ((eh420.2.1 127 (xk_nc mpt364 rfl)).trans ((eh416.2.1 127 (xk_nc mpt364 rfl)).trans ((eh355.2.1 127 (by decide)).trans A441)))))))
                  obtain ⟨y443, s443, hy443, ry443⟩ := xj_set (v := 1) hy441 ry441 a24 (by first | omega | decide) (by first | omega | decide)
                  refine xi_bastore (pc' := 87) (x' := y443) kc_23_86 rfl A442 rfl (xi_in (by omega) (by rw [hy441]; omega)) s443 (fun hh443 eh443 => ?_)
                  have K444 := xk_pa K439 (xk_wa rfl) xD_127 hy443 ry443 eh443
                  refine xi_aload_n (pc' := 88) (x := 115) kc_23_87 rfl rfl ?_
                  refine xi_iconst (pc' := 89) (v := 0) kc_23_88 rfl rfl ?_
                  have A445 := ((eh443.2.1 115 (by decide)).trans A440)
                  refine xi_putfield (pc' := 92) (fs' := [.int 0, .int u2, .ref 116, .ref 117, .ref 118, .ref 119, .ref 120, .ref 121, .ref 122, .ref 123, .ref 124, .ref 125, .ref 126, .ref 127, .ref 128, .ref 129, .int u6, .ref 130, .int u19, .ref 131, .ref 132, .ref 133, .ref 134, .int u8, .ref 135, .ref 136, .ref 137, .ref 138, .ref 139, .ref 140, .ref 141, .ref 142, .int u9, .int u10, .int u11, .ref 143, .ref 144, .ref 145, .ref 146, .ref 147, .ref 148, .int 0, .ref 149, .ref 150, .ref 151, .int u13, .ref 152, .ref 153, .ref 154, .ref 155, .ref 156, .ref 157, .ref 158, .ref 159, .int u14, .ref 160, .int u15, .ref 161, .ref 162, .ref 163, .ref 164, .int u16, .ref 165, .ref 166]) kc_23_89 rfl rfl rfl A445 rfl rfl rfl (Nat.le_of_ble_eq_true rfl) rfl (fun hh447 eh446 => ?_)
                  have K448 := xk_pf (k := 41) (v := 0) K444 (xk_wf rfl) xD_115 A445 rfl (by first | omega | decide) (by first | omega | decide) eh446 rfl
                  refine xi_iload (pc' := 94) (x := 1) kc_23_92 rfl rfl ?_
                  refine xi_iff (pc' := 97) kc_23_94 rfl rfl ?_
                  refine xi_iconst (pc' := 98) (v := 0) kc_23_97 rfl rfl ?_
                  refine xi_goto (pc' := 102) kc_23_98 rfl ?_
                  refine xi_ireturn kc_23_102 mr_23 rfl ?_
                  show xw J ov 100 195 (474, [(4, .int x4), (3, .ref 167), (2, .ref 115), (1, .ref 0), (0, .ref 1000000)], [.int 0], hh447) _
                  refine xi_pop (pc' := 475) kc_195_474 rfl rfl ?_
                  refine xi_goto (pc' := 1501) kc_195_475 rfl ?_
                  obtain ⟨v449, ev449⟩ : ∃ q : Int32, x4 + 6 = q := ⟨_, rfl⟩
                  have zv449 : v449.toInt = (x4.toInt + 6) := by rw [← ev449]; exact (xz_add (X := x4.toInt) (Y := 6) rfl (by decide) (by omega) (by omega)).trans (by omega)
                  refine xi_iinc (pc' := 1504) (x := x4) (v := v449) (lv' := [(4, .int v449), (3, .ref 167), (2, .ref 115), (1, .ref 0), (0, .ref 1000000)]) kc_195_1501 rfl rfl ev449 rfl (xm_lt ml_195 rfl) ?_
                  refine xi_goto (pc' := 23) kc_195_1504 rfl ?_
                  have A450 := ((eh446.2.1 pt364 (Ne.symm (xk_nc mpt364 rfl))).trans ((eh443.2.1 pt364 (Ne.symm (xk_nc mpt364 rfl))).trans ((eh438.2.1 pt364 (Ne.symm (xk_nc mpt364 rfl))).trans ((eh433.2.1 pt364 (Ne.symm (xk_nc mpt364 rfl))).trans ((eh429.2.1 pt364 (Ne.symm (xk_nc mpt364 rfl))).trans eh424.1)))))
                  have A451 := ((eh446.2.1 125 (by decide)).trans ((eh443.2.1 125 (by decide)).trans ((eh438.2.1 125 (by decide)).trans eh433.1)))
                  have A452 := ((eh446.2.1 0 (by decide)).trans ((eh443.2.1 0 (by decide)).trans ((eh438.2.1 0 (by decide)).trans ((eh433.2.1 0 (by decide)).trans ((eh429.2.1 0 (by decide)).trans ((eh424.2.1 0 (xk_nc mpt364 rfl)).trans ((eh420.2.1 0 (xk_nc mpt364 rfl)).trans ((eh416.2.1 0 (xk_nc mpt364 rfl)).trans A358))))))))
                  have A453 := ((eh446.2.1 66 (by decide)).trans ((eh443.2.1 66 (by decide)).trans ((eh438.2.1 66 (by decide)).trans ((eh433.2.1 66 (by decide)).trans ((eh429.2.1 66 (by decide)).trans ((eh424.2.1 66 (xk_nc mpt364 rfl)).trans ((eh420.2.1 66 (xk_nc mpt364 rfl)).trans ((eh416.2.1 66 (xk_nc mpt364 rfl)).trans eh355.1))))))))
                  have A454 := ((eh446.2.1 71 (by decide)).trans ((eh443.2.1 71 (by decide)).trans ((eh438.2.1 71 (by decide)).trans ((eh433.2.1 71 (by decide)).trans ((eh429.2.1 71 (by decide)).trans ((eh424.2.1 71 (xk_nc mpt364 rfl)).trans ((eh420.2.1 71 (xk_nc mpt364 rfl)).trans ((eh416.2.1 71 (xk_nc mpt364 rfl)).trans ((eh355.2.1 71 (by decide)).trans A21)))))))))
                  have A455 := ((eh446.2.1 132 (by decide)).trans ((eh443.2.1 132 (by decide)).trans ((eh438.2.1 132 (by decide)).trans ((eh433.2.1 132 (by decide)).trans ((eh429.2.1 132 (by decide)).trans ((eh424.2.1 132 (xk_nc mpt364 rfl)).trans ((eh420.2.1 132 (xk_nc mpt364 rfl)).trans ((eh416.2.1 132 (xk_nc mpt364 rfl)).trans ((eh355.2.1 132 (by decide)).trans A22)))))))))
                  exact kk v449 hh447 (by omega) K448 ⟨(xGR_set (Lo := [some 29, some 31, some 33, some 35, some 37, some 39, some 41, some 43, some 45, some 47, some 49, some 51]) I.1 (by decide) rfl ept364 (by omega) (by show _ < ((12 : Nat) : Int); omega) A372 (by rw [hy372]; decide) A450 rfl A451 s433 (fun c hc hne => ((eh446.2.1 c (Ne.symm (xk_nc hc rfl))).trans ((eh443.2.1 c (Ne.symm (xk_nc hc rfl))).trans ((eh438.2.1 c (Ne.symm (xk_nc hc rfl))).trans ((eh433.2.1 c (Ne.symm (xk_nc hc rfl))).trans ((eh429.2.1 c (Ne.symm (xk_nc hc rfl))).trans ((eh424.2.1 c hne).trans ((eh420.2.1 c hne).trans ((eh416.2.1 c hne).trans (eh355.2.1 c (Ne.symm (xk_nc hc rfl))))))))))))), ((xl_of A452 rfl).trans (xl_of eh446.1 rfl).symm), ((xl_of A453 rfl).trans (xl_of eh446.1 rfl).symm), ((xl_arr A454).trans (xl_arr A455).symm)⟩
              · refine xi_cmf (pc' := 37) kc_103_34 rfl (xc_le_f (X := a28.toInt) (Y := 100) rfl (by decide) (by omega)) ?_
                refine xi_aload_n (pc' := 38) (x := 0) kc_103_37 rfl rfl ?_
                refine xi_bipush (pc' := 40) (v := (-6)) kc_103_38 rfl rfl ?_
                refine xi_virtual (mj := 90) (as := [.int (-6)]) (st1 := []) (lv0 := [(0, .ref 0), (1, .int (-6))]) kc_103_40 rfl rfl rfl rfl rfl A3 (Nat.le_of_ble_eq_true rfl) (hJ _ _ _ _ (by decide)) (xm_le ml_90 rfl) rfl ?_
                refine xi_iload_n (pc' := 1) (x := (-6)) kc_90_0 rfl rfl ?_
                refine xi_ineg (pc' := 2) (v := 6) kc_90_1 rfl rfl ?_
                refine xi_istore_n (pc' := 3) (lv' := [(2, .int 6), (0, .ref 0), (1, .int (-6))]) kc_90_2 rfl rfl (xm_lt ml_90 rfl) ?_
                refine xi_iload_n (pc' := 4) (x := 6) kc_90_3 rfl rfl ?_
                refine xi_iff (pc' := 7) kc_90_4 rfl rfl ?_
                refine xi_iload_n (pc' := 8) (x := 6) kc_90_7 rfl rfl ?_
                refine xi_aload_n (pc' := 9) (x := 0) kc_90_8 rfl rfl ?_
                refine xi_getfield (pc' := 12) (v := .ref 94) kc_90_9 rfl rfl rfl A3 rfl ?_
                obtain ⟨y456, A456, hy456, ry456⟩ := xk_arr K.1 xD_94
                refine xi_arraylength (pc' := 13) (n := 7) (v := 7) kc_90_12 rfl (xl_lenI (by decide) (by decide) A456 hy456) rfl ?_
                refine xi_cmf (pc' := 16) kc_90_13 rfl rfl ?_
                refine xi_aload_n (pc' := 17) (x := 0) kc_90_16 rfl rfl ?_
                refine xi_getfield (pc' := 20) (v := .ref 94) kc_90_17 rfl rfl rfl A3 rfl ?_
                refine xi_iload_n (pc' := 21) (x := 6) kc_90_20 rfl rfl ?_
                refine xi_dup2 (pc' := 22) kc_90_21 rfl ⟨rfl, rfl⟩ ?_
                obtain ⟨v457, ev457, bv457, dv457⟩ := xj_get hy456 ry456 (i := 6) (by decide) (by decide)
                refine xi_iaload (pc' := 23) (v := v457) kc_90_22 rfl A456 (by decide) rfl (xi_in (by decide) (by rw [hy456]; decide)) ev457 ?_
                refine xi_iconst (pc' := 24) (v := 1) kc_90_23 rfl rfl ?_
                obtain ⟨v458, ev458⟩ : ∃ q : Int32, (v457 : Int32) + 1 = q := ⟨_, rfl⟩
                have rv458 := xc_rng v458
                refine xi_iadd (pc' := 25) (v := v458) kc_90_24 rfl ev458 ?_
                obtain ⟨y459, s459, hy459, ry459⟩ := xj_set (v := v458) hy456 ry456 6 (by first | omega | decide) (by first | omega | decide)
                refine xi_iastore (pc' := 26) (x' := y459) kc_90_25 rfl A456 rfl (xi_in (by decide) (by rw [hy456]; decide)) s459 (fun hh459 eh459 => ?_)
                have K460 := xk_pa K (xk_wa rfl) xD_94 hy459 ry459 eh459
                refine xi_iload_n (pc' := 27) (x := (-6)) kc_90_26 rfl rfl ?_
                refine xi_ireturn kc_90_27 mr_90 rfl ?_
                show xw J ov 99 103 (43, [(0, .ref 0), (1, .int a24), (2, .int a26), (3, .int a28), (4, .int 1)], [.int (-6)], hh459) _
                refine xi_ireturn kc_103_43 mr_103 rfl ?_
                show xw J ov 100 195 (437, [(4, .int x4), (3, .ref 167), (2, .ref 115), (1, .ref 0), (0, .ref 1000000)], [.int (-6)], hh459) _
                refine xi_pop (pc' := 438) kc_195_437 rfl rfl ?_
                refine xi_aload_n (pc' := 439) (x := 115) kc_195_438 rfl rfl ?_
                refine xi_aload_n (pc' := 440) (x := 1000000) kc_195_439 rfl rfl ?_
                refine xi_iload (pc' := 442) (x := x4) kc_195_440 rfl rfl ?_
                refine xi_iconst (pc' := 443) (v := 1) kc_195_442 rfl rfl ?_
                refine xi_iadd (pc' := 444) (v := v23) kc_195_443 rfl ev23 ?_
                refine xi_ialoadO (pc' := 445) (v := a24) kc_195_444 rfl (by decide) hov0 (xi_in (by omega) (by omega)) ea24 ?_
                refine xi_aload_n (pc' := 446) (x := 1000000) kc_195_445 rfl rfl ?_
                refine xi_iload (pc' := 448) (x := x4) kc_195_446 rfl rfl ?_
                refine xi_iconst (pc' := 449) (v := 2) kc_195_448 rfl rfl ?_
                refine xi_iadd (pc' := 450) (v := v25) kc_195_449 rfl ev25 ?_
                refine xi_ialoadO (pc' := 451) (v := a26) kc_195_450 rfl (by decide) hov0 (xi_in (by omega) (by omega)) ea26 ?_
                refine xi_aload_n (pc' := 452) (x := 1000000) kc_195_451 rfl rfl ?_
                refine xi_iload (pc' := 454) (x := x4) kc_195_452 rfl rfl ?_
                refine xi_iconst (pc' := 455) (v := 3) kc_195_454 rfl rfl ?_
                refine xi_iadd (pc' := 456) (v := v27) kc_195_455 rfl ev27 ?_
                refine xi_ialoadO (pc' := 457) (v := a28) kc_195_456 rfl (by decide) hov0 (xi_in (by omega) (by omega)) ea28 ?_
                refine xi_aload_n (pc' := 458) (x := 1000000) kc_195_457 rfl rfl ?_
                refine xi_iload (pc' := 460) (x := x4) kc_195_458 rfl rfl ?_
                refine xi_iconst (pc' := 461) (v := 4) kc_195_460 rfl rfl ?_
                refine xi_iadd (pc' := 462) (v := v29) kc_195_461 rfl ev29 ?_
                refine xi_ialoadO (pc' := 463) (v := a30) kc_195_462 rfl (by decide) hov0 (xi_in (by omega) (by omega)) ea30 ?_
                refine xi_iff (pc' := 466) kc_195_463 rfl (xc_eq_f (X := a30.toInt) (Y := 0) rfl (by decide) (by omega)) ?_
                refine xi_iconst (pc' := 467) (v := 1) kc_195_466 rfl rfl ?_
                refine xi_goto (pc' := 471) kc_195_467 rfl ?_
                have A461 := ((eh459.2.1 115 (by decide)).trans A17)
                refine xi_virtual (mj := 23) (as := [.int a24, .int a26, .int a28, .int 1]) (st1 := []) (lv0 := [(0, .ref 115), (1, .int a24), (2, .int a26), (3, .int a28), (4, .int 1)]) kc_195_471 rfl rfl rfl rfl rfl A461 (Nat.le_of_ble_eq_true rfl) (hJ _ _ _ _ (by decide)) (xm_le ml_23 rfl) rfl ?_
                refine xi_aload_n (pc' := 1) (x := 115) kc_23_0 rfl rfl ?_
                refine xi_iconst (pc' := 2) (v := 0) kc_23_1 rfl rfl ?_
                refine xi_putfield (pc' := 5) (fs' := [.int 0, .int u2, .ref 116, .ref 117, .ref 118, .ref 119, .ref 120, .ref 121, .ref 122, .ref 123, .ref 124, .ref 125, .ref 126, .ref 127, .ref 128, .ref 129, .int u6, .ref 130, .int u19, .ref 131, .ref 132, .ref 133, .ref 134, .int u8, .ref 135, .ref 136, .ref 137, .ref 138, .ref 139, .ref 140, .ref 141, .ref 142, .int u9, .int u10, .int u11, .ref 143, .ref 144, .ref 145, .ref 146, .ref 147, .ref 148, .int u12, .ref 149, .ref 150, .ref 151, .int u13, .ref 152, .ref 153, .ref 154, .ref 155, .ref 156, .ref 157, .ref 158, .ref 159, .int u14, .ref 160, .int u15, .ref 161, .ref 162, .ref 163, .ref 164, .int u16, .ref 165, .ref 166]) kc_23_2 rfl rfl rfl A461 rfl rfl rfl (Nat.le_of_ble_eq_true rfl) rfl (fun hh463 eh462 => ?_)
                have K464 := xk_pf (k := 0) (v := 0) K460 (xk_wf rfl) xD_115 A461 rfl (by first | omega | decide) (by first | omega | decide) eh462 rfl
                refine xi_iload_n (pc' := 6) (x := a24) kc_23_5 rfl rfl ?_
                refine xi_static (mj := 24) (as := [.int a24]) (st1 := []) (lv0 := [(0, .int a24)]) kc_23_6 rfl rfl (Nat.le_of_ble_eq_true rfl) rfl rfl (Nat.le_of_ble_eq_true rfl) (hJ _ _ _ _ (by decide)) (xm_le ml_24 rfl) rfl ?_
                refine xi_iload_n (pc' := 1) (x := a24) kc_24_0 rfl rfl ?_
                refine xi_iconst (pc' := 2) (v := 0) kc_24_1 rfl rfl ?_
                refine xi_bipush (pc' := 4) (v := 11) kc_24_2 rfl rfl ?_
                refine xi_static (mj := 11) (as := [.int a24, .int 0, .int 11]) (st1 := []) (lv0 := [(0, .int a24), (1, .int 0), (2, .int 11)]) kc_24_4 rfl rfl (Nat.le_of_ble_eq_true rfl) rfl rfl (Nat.le_of_ble_eq_true rfl) (hJ _ _ _ _ (by decide)) (xm_le ml_11 rfl) rfl ?_
                refine xi_iload_n (pc' := 1) (x := a24) kc_11_0 rfl rfl ?_
                refine xi_iload_n (pc' := 2) (x := 0) kc_11_1 rfl rfl ?_
                refine xi_cmf (pc' := 5) kc_11_2 rfl (xc_lt_f (X := a24.toInt) (Y := 0) rfl (by decide) (by omega)) ?_
                refine xi_iload_n (pc' := 6) (x := a24) kc_11_5 rfl rfl ?_
                refine xi_iload_n (pc' := 7) (x := 11) kc_11_6 rfl rfl ?_
                refine xi_cmf (pc' := 10) kc_11_7 rfl (xc_gt_f (X := a24.toInt) (Y := 11) rfl (by decide) (by omega)) ?_
                refine xi_iconst (pc' := 11) (v := 1) kc_11_10 rfl rfl ?_
                refine xi_goto (pc' := 15) kc_11_11 rfl ?_
                refine xi_ireturn kc_11_15 mr_11 rfl ?_
                show xw J ov 98 24 (7, [(0, .int a24)], [.int 1], hh463) _
                refine xi_ireturn kc_24_7 mr_24 rfl ?_
                show xw J ov 99 23 (9, [(0, .ref 115), (1, .int a24), (2, .int a26), (3, .int a28), (4, .int 1)], [.int 1], hh463) _
                refine xi_iff (pc' := 12) kc_23_9 rfl rfl ?_
                refine xi_iload_n (pc' := 13) (x := a26) kc_23_12 rfl rfl ?_
                refine xi_static (mj := 10) (as := [.int a26]) (st1 := []) (lv0 := [(0, .int a26)]) kc_23_13 rfl rfl (Nat.le_of_ble_eq_true rfl) rfl rfl (Nat.le_of_ble_eq_true rfl) (hJ _ _ _ _ (by decide)) (xm_le ml_10 rfl) rfl ?_
                refine xi_iload_n (pc' := 1) (x := a26) kc_10_0 rfl rfl ?_
                refine xi_iconst (pc' := 2) (v := 0) kc_10_1 rfl rfl ?_
                refine xi_iconst (pc' := 3) (v := 5) kc_10_2 rfl rfl ?_
                refine xi_static (mj := 11) (as := [.int a26, .int 0, .int 5]) (st1 := []) (lv0 := [(0, .int a26), (1, .int 0), (2, .int 5)]) kc_10_3 rfl rfl (Nat.le_of_ble_eq_true rfl) rfl rfl (Nat.le_of_ble_eq_true rfl) (hJ _ _ _ _ (by decide)) (xm_le ml_11 rfl) rfl ?_
                refine xi_iload_n (pc' := 1) (x := a26) kc_11_0 rfl rfl ?_
                refine xi_iload_n (pc' := 2) (x := 0) kc_11_1 rfl rfl ?_
                refine xi_cmf (pc' := 5) kc_11_2 rfl (xc_lt_f (X := a26.toInt) (Y := 0) rfl (by decide) (by omega)) ?_
                refine xi_iload_n (pc' := 6) (x := a26) kc_11_5 rfl rfl ?_
                refine xi_iload_n (pc' := 7) (x := 5) kc_11_6 rfl rfl ?_
                refine xi_cmf (pc' := 10) kc_11_7 rfl (xc_gt_f (X := a26.toInt) (Y := 5) rfl (by decide) (by omega)) ?_
                refine xi_iconst (pc' := 11) (v := 1) kc_11_10 rfl rfl ?_
                refine xi_goto (pc' := 15) kc_11_11 rfl ?_
                refine xi_ireturn kc_11_15 mr_11 rfl ?_
                show xw J ov 98 10 (6, [(0, .int a26)], [.int 1], hh463) _
                refine xi_ireturn kc_10_6 mr_10 rfl ?_
                show xw J ov 99 23 (16, [(0, .ref 115), (1, .int a24), (2, .int a26), (3, .int a28), (4, .int 1)], [.int 1], hh463) _
                refine xi_ift (pc' := 25) kc_23_16 rfl rfl ?_
                refine xi_iload_n (pc' := 26) (x := a28) kc_23_25 rfl rfl ?_
                refine xi_ift (pc' := 36) kc_23_26 rfl (xc_ge_t (X := a28.toInt) (Y := 0) rfl (by decide) (by omega)) ?_
                refine xi_iload_n (pc' := 37) (x := a28) kc_23_36 rfl rfl ?_
                refine xi_bipush (pc' := 39) (v := 100) kc_23_37 rfl rfl ?_
                refine xi_cmf (pc' := 42) kc_23_39 rfl (xc_le_f (X := a28.toInt) (Y := 100) rfl (by decide) (by omega)) ?_
                refine xi_aload_n (pc' := 43) (x := 115) kc_23_42 rfl rfl ?_
                refine xi_bipush (pc' := 45) (v := (-6)) kc_23_43 rfl rfl ?_
                refine xi_virtual (mj := 12) (as := [.int (-6)]) (st1 := []) (lv0 := [(0, .ref 115), (1, .int (-6))]) kc_23_45 rfl rfl rfl rfl rfl eh462.1 (Nat.le_of_ble_eq_true rfl) (hJ _ _ _ _ (by decide)) (xm_le ml_12 rfl) rfl ?_
                refine xi_aload_n (pc' := 1) (x := 115) kc_12_0 rfl rfl ?_
                refine xi_getfield (pc' := 4) (v := .ref 140) kc_12_1 rfl rfl rfl eh462.1 rfl ?_
                refine xi_iload_n (pc' := 5) (x := (-6)) kc_12_4 rfl rfl ?_
                refine xi_ineg (pc' := 6) (v := 6) kc_12_5 rfl rfl ?_
                refine xi_dup2 (pc' := 7) kc_12_6 rfl ⟨rfl, rfl⟩ ?_
                obtain ⟨y465, A465, hy465, ry465⟩ := xk_arr K.1 xD_140
                obtain ⟨v466, ev466, bv466, dv466⟩ := xj_get hy465 ry465 (i := 6) (by decide) (by decide)
                have A467 := ((eh462.2.1 140 (by decide)).trans ((eh459.2.1 140 (by decide)).trans A465))
                refine xi_iaload (pc' := 8) (v := v466) kc_12_7 rfl A467 (by decide) rfl (xi_in (by decide) (by rw [hy465]; decide)) ev466 ?_
                refine xi_iconst (pc' := 9) (v := 1) kc_12_8 rfl rfl ?_
                obtain ⟨v468, ev468⟩ : ∃ q : Int32, (v466 : Int32) + 1 = q := ⟨_, rfl⟩
                have rv468 := xc_rng v468
                refine xi_iadd (pc' := 10) (v := v468) kc_12_9 rfl ev468 ?_
                obtain ⟨y469, s469, hy469, ry469⟩ := xj_set (v := v468) hy465 ry465 6 (by first | omega | decide) (by first | omega | decide)
                refine xi_iastore (pc' := 11) (x' := y469) kc_12_10 rfl A467 rfl (xi_in (by decide) (by rw [hy465]; decide)) s469 (fun hh469 eh469 => ?_)
                have K470 := xk_pa K464 (xk_wa rfl) xD_140 hy469 ry469 eh469
                refine xi_iload_n (pc' := 12) (x := (-6)) kc_12_11 rfl rfl ?_
                refine xi_ireturn kc_12_12 mr_12 rfl ?_
                show xw J ov 99 23 (48, [(0, .ref 115), (1, .int a24), (2, .int a26), (3, .int a28), (4, .int 1)], [.int (-6)], hh469) _
                refine xi_ireturn kc_23_48 mr_23 rfl ?_
                show xw J ov 100 195 (474, [(4, .int x4), (3, .ref 167), (2, .ref 115), (1, .ref 0), (0, .ref 1000000)], [.int (-6)], hh469) _
                refine xi_pop (pc' := 475) kc_195_474 rfl rfl ?_
                refine xi_goto (pc' := 1501) kc_195_475 rfl ?_
                obtain ⟨v471, ev471⟩ : ∃ q : Int32, x4 + 6 = q := ⟨_, rfl⟩
                have zv471 : v471.toInt = (x4.toInt + 6) := by rw [← ev471]; exact (xz_add (X := x4.toInt) (Y := 6) rfl (by decide) (by omega) (by omega)).trans (by omega)
                refine xi_iinc (pc' := 1504) (x := x4) (v := v471) (lv' := [(4, .int v471), (3, .ref 167), (2, .ref 115), (1, .ref 0), (0, .ref 1000000)]) kc_195_1501 rfl rfl ev471 rfl (xm_lt ml_195 rfl) ?_
                refine xi_goto (pc' := 23) kc_195_1504 rfl ?_
                have A472 := ((eh469.2.1 0 (by decide)).trans ((eh462.2.1 0 (by decide)).trans ((eh459.2.1 0 (by decide)).trans A3)))
                have A473 := ((eh469.2.1 115 (by decide)).trans eh462.1)
                have A474 := ((eh469.2.1 66 (by decide)).trans ((eh462.2.1 66 (by decide)).trans ((eh459.2.1 66 (by decide)).trans A20)))
                have A475 := ((eh469.2.1 71 (by decide)).trans ((eh462.2.1 71 (by decide)).trans ((eh459.2.1 71 (by decide)).trans A21)))
                have A476 := ((eh469.2.1 132 (by decide)).trans ((eh462.2.1 132 (by decide)).trans ((eh459.2.1 132 (by decide)).trans A22)))
                exact kk v471 hh469 (by omega) K470 ⟨(xGR_kept I.1 (fun c hc => ((eh469.2.1 c (Ne.symm (xk_nc hc rfl))).trans ((eh462.2.1 c (Ne.symm (xk_nc hc rfl))).trans (eh459.2.1 c (Ne.symm (xk_nc hc rfl)))))) ((eh469.2.1 125 (by decide)).trans ((eh462.2.1 125 (by decide)).trans (eh459.2.1 125 (by decide))))), ((xl_of A472 rfl).trans (xl_of A473 rfl).symm), ((xl_of A474 rfl).trans (xl_of A473 rfl).symm), ((xl_arr A475).trans (xl_arr A476).symm)⟩
            · refine xi_iff (pc' := 24) kc_103_21 rfl (xc_ge_f (X := a28.toInt) (Y := 0) rfl (by decide) (by omega)) ?_
              refine xi_aload_n (pc' := 25) (x := 0) kc_103_24 rfl rfl ?_
              refine xi_bipush (pc' := 27) (v := (-4)) kc_103_25 rfl rfl ?_
              refine xi_virtual (mj := 90) (as := [.int (-4)]) (st1 := []) (lv0 := [(0, .ref 0), (1, .int (-4))]) kc_103_27 rfl rfl rfl rfl rfl A3 (Nat.le_of_ble_eq_true rfl) (hJ _ _ _ _ (by decide)) (xm_le ml_90 rfl) rfl ?_
              refine xi_iload_n (pc' := 1) (x := (-4)) kc_90_0 rfl rfl ?_
              refine xi_ineg (pc' := 2) (v := 4) kc_90_1 rfl rfl ?_
              refine xi_istore_n (pc' := 3) (lv' := [(2, .int 4), (0, .ref 0), (1, .int (-4))]) kc_90_2 rfl rfl (xm_lt ml_90 rfl) ?_
              refine xi_iload_n (pc' := 4) (x := 4) kc_90_3 rfl rfl ?_
              refine xi_iff (pc' := 7) kc_90_4 rfl rfl ?_
              refine xi_iload_n (pc' := 8) (x := 4) kc_90_7 rfl rfl ?_
              refine xi_aload_n (pc' := 9) (x := 0) kc_90_8 rfl rfl ?_
              refine xi_getfield (pc' := 12) (v := .ref 94) kc_90_9 rfl rfl rfl A3 rfl ?_
              obtain ⟨y477, A477, hy477, ry477⟩ := xk_arr K.1 xD_94
              refine xi_arraylength (pc' := 13) (n := 7) (v := 7) kc_90_12 rfl (xl_lenI (by decide) (by decide) A477 hy477) rfl ?_
              refine xi_cmf (pc' := 16) kc_90_13 rfl rfl ?_
              refine xi_aload_n (pc' := 17) (x := 0) kc_90_16 rfl rfl ?_
              refine xi_getfield (pc' := 20) (v := .ref 94) kc_90_17 rfl rfl rfl A3 rfl ?_
              refine xi_iload_n (pc' := 21) (x := 4) kc_90_20 rfl rfl ?_
              refine xi_dup2 (pc' := 22) kc_90_21 rfl ⟨rfl, rfl⟩ ?_
              obtain ⟨v478, ev478, bv478, dv478⟩ := xj_get hy477 ry477 (i := 4) (by decide) (by decide)
              refine xi_iaload (pc' := 23) (v := v478) kc_90_22 rfl A477 (by decide) rfl (xi_in (by decide) (by rw [hy477]; decide)) ev478 ?_
              refine xi_iconst (pc' := 24) (v := 1) kc_90_23 rfl rfl ?_
              obtain ⟨v479, ev479⟩ : ∃ q : Int32, (v478 : Int32) + 1 = q := ⟨_, rfl⟩
              have rv479 := xc_rng v479
              refine xi_iadd (pc' := 25) (v := v479) kc_90_24 rfl ev479 ?_
              obtain ⟨y480, s480, hy480, ry480⟩ := xj_set (v := v479) hy477 ry477 4 (by first | omega | decide) (by first | omega | decide)
              refine xi_iastore (pc' := 26) (x' := y480) kc_90_25 rfl A477 rfl (xi_in (by decide) (by rw [hy477]; decide)) s480 (fun hh480 eh480 => ?_)
              have K481 := xk_pa K (xk_wa rfl) xD_94 hy480 ry480 eh480
              refine xi_iload_n (pc' := 27) (x := (-4)) kc_90_26 rfl rfl ?_
              refine xi_ireturn kc_90_27 mr_90 rfl ?_
              show xw J ov 99 103 (30, [(0, .ref 0), (1, .int a24), (2, .int a26), (3, .int a28), (4, .int 1)], [.int (-4)], hh480) _
              refine xi_ireturn kc_103_30 mr_103 rfl ?_
              show xw J ov 100 195 (437, [(4, .int x4), (3, .ref 167), (2, .ref 115), (1, .ref 0), (0, .ref 1000000)], [.int (-4)], hh480) _
              refine xi_pop (pc' := 438) kc_195_437 rfl rfl ?_
              refine xi_aload_n (pc' := 439) (x := 115) kc_195_438 rfl rfl ?_
              refine xi_aload_n (pc' := 440) (x := 1000000) kc_195_439 rfl rfl ?_
              refine xi_iload (pc' := 442) (x := x4) kc_195_440 rfl rfl ?_
              refine xi_iconst (pc' := 443) (v := 1) kc_195_442 rfl rfl ?_
              refine xi_iadd (pc' := 444) (v := v23) kc_195_443 rfl ev23 ?_
              refine xi_ialoadO (pc' := 445) (v := a24) kc_195_444 rfl (by decide) hov0 (xi_in (by omega) (by omega)) ea24 ?_
              refine xi_aload_n (pc' := 446) (x := 1000000) kc_195_445 rfl rfl ?_
              refine xi_iload (pc' := 448) (x := x4) kc_195_446 rfl rfl ?_
              refine xi_iconst (pc' := 449) (v := 2) kc_195_448 rfl rfl ?_
              refine xi_iadd (pc' := 450) (v := v25) kc_195_449 rfl ev25 ?_
              refine xi_ialoadO (pc' := 451) (v := a26) kc_195_450 rfl (by decide) hov0 (xi_in (by omega) (by omega)) ea26 ?_
              refine xi_aload_n (pc' := 452) (x := 1000000) kc_195_451 rfl rfl ?_
              refine xi_iload (pc' := 454) (x := x4) kc_195_452 rfl rfl ?_
              refine xi_iconst (pc' := 455) (v := 3) kc_195_454 rfl rfl ?_
              refine xi_iadd (pc' := 456) (v := v27) kc_195_455 rfl ev27 ?_
              refine xi_ialoadO (pc' := 457) (v := a28) kc_195_456 rfl (by decide) hov0 (xi_in (by omega) (by omega)) ea28 ?_
              refine xi_aload_n (pc' := 458) (x := 1000000) kc_195_457 rfl rfl ?_
              refine xi_iload (pc' := 460) (x := x4) kc_195_458 rfl rfl ?_
              refine xi_iconst (pc' := 461) (v := 4) kc_195_460 rfl rfl ?_
              refine xi_iadd (pc' := 462) (v := v29) kc_195_461 rfl ev29 ?_
              refine xi_ialoadO (pc' := 463) (v := a30) kc_195_462 rfl (by decide) hov0 (xi_in (by omega) (by omega)) ea30 ?_
              refine xi_iff (pc' := 466) kc_195_463 rfl (xc_eq_f (X := a30.toInt) (Y := 0) rfl (by decide) (by omega)) ?_
              refine xi_iconst (pc' := 467) (v := 1) kc_195_466 rfl rfl ?_
              refine xi_goto (pc' := 471) kc_195_467 rfl ?_
              have A482 := ((eh480.2.1 115 (by decide)).trans A17)
              refine xi_virtual (mj := 23) (as := [.int a24, .int a26, .int a28, .int 1]) (st1 := []) (lv0 := [(0, .ref 115), (1, .int a24), (2, .int a26), (3, .int a28), (4, .int 1)]) kc_195_471 rfl rfl rfl rfl rfl A482 (Nat.le_of_ble_eq_true rfl) (hJ _ _ _ _ (by decide)) (xm_le ml_23 rfl) rfl ?_
              refine xi_aload_n (pc' := 1) (x := 115) kc_23_0 rfl rfl ?_
              refine xi_iconst (pc' := 2) (v := 0) kc_23_1 rfl rfl ?_
              refine xi_putfield (pc' := 5) (fs' := [.int 0, .int u2, .ref 116, .ref 117, .ref 118, .ref 119, .ref 120, .ref 121, .ref 122, .ref 123, .ref 124, .ref 125, .ref 126, .ref 127, .ref 128, .ref 129, .int u6, .ref 130, .int u19, .ref 131, .ref 132, .ref 133, .ref 134, .int u8, .ref 135, .ref 136, .ref 137, .ref 138, .ref 139, .ref 140, .ref 141, .ref 142, .int u9, .int u10, .int u11, .ref 143, .ref 144, .ref 145, .ref 146, .ref 147, .ref 148, .int u12, .ref 149, .ref 150, .ref 151, .int u13, .ref 152, .ref 153, .ref 154, .ref 155, .ref 156, .ref 157, .ref 158, .ref 159, .int u14, .ref 160, .int u15, .ref 161, .ref 162, .ref 163, .ref 164, .int u16, .ref 165, .ref 166]) kc_23_2 rfl rfl rfl A482 rfl rfl rfl (Nat.le_of_ble_eq_true rfl) rfl (fun hh484 eh483 => ?_)
              have K485 := xk_pf (k := 0) (v := 0) K481 (xk_wf rfl) xD_115 A482 rfl (by first | omega | decide) (by first | omega | decide) eh483 rfl
              refine xi_iload_n (pc' := 6) (x := a24) kc_23_5 rfl rfl ?_
              refine xi_static (mj := 24) (as := [.int a24]) (st1 := []) (lv0 := [(0, .int a24)]) kc_23_6 rfl rfl (Nat.le_of_ble_eq_true rfl) rfl rfl (Nat.le_of_ble_eq_true rfl) (hJ _ _ _ _ (by decide)) (xm_le ml_24 rfl) rfl ?_
              refine xi_iload_n (pc' := 1) (x := a24) kc_24_0 rfl rfl ?_
              refine xi_iconst (pc' := 2) (v := 0) kc_24_1 rfl rfl ?_
              refine xi_bipush (pc' := 4) (v := 11) kc_24_2 rfl rfl ?_
              refine xi_static (mj := 11) (as := [.int a24, .int 0, .int 11]) (st1 := []) (lv0 := [(0, .int a24), (1, .int 0), (2, .int 11)]) kc_24_4 rfl rfl (Nat.le_of_ble_eq_true rfl) rfl rfl (Nat.le_of_ble_eq_true rfl) (hJ _ _ _ _ (by decide)) (xm_le ml_11 rfl) rfl ?_
              refine xi_iload_n (pc' := 1) (x := a24) kc_11_0 rfl rfl ?_
              refine xi_iload_n (pc' := 2) (x := 0) kc_11_1 rfl rfl ?_
              refine xi_cmf (pc' := 5) kc_11_2 rfl (xc_lt_f (X := a24.toInt) (Y := 0) rfl (by decide) (by omega)) ?_
              refine xi_iload_n (pc' := 6) (x := a24) kc_11_5 rfl rfl ?_
              refine xi_iload_n (pc' := 7) (x := 11) kc_11_6 rfl rfl ?_
              refine xi_cmf (pc' := 10) kc_11_7 rfl (xc_gt_f (X := a24.toInt) (Y := 11) rfl (by decide) (by omega)) ?_
              refine xi_iconst (pc' := 11) (v := 1) kc_11_10 rfl rfl ?_
              refine xi_goto (pc' := 15) kc_11_11 rfl ?_
              refine xi_ireturn kc_11_15 mr_11 rfl ?_
              show xw J ov 98 24 (7, [(0, .int a24)], [.int 1], hh484) _
              refine xi_ireturn kc_24_7 mr_24 rfl ?_
              show xw J ov 99 23 (9, [(0, .ref 115), (1, .int a24), (2, .int a26), (3, .int a28), (4, .int 1)], [.int 1], hh484) _
              refine xi_iff (pc' := 12) kc_23_9 rfl rfl ?_
              refine xi_iload_n (pc' := 13) (x := a26) kc_23_12 rfl rfl ?_
              refine xi_static (mj := 10) (as := [.int a26]) (st1 := []) (lv0 := [(0, .int a26)]) kc_23_13 rfl rfl (Nat.le_of_ble_eq_true rfl) rfl rfl (Nat.le_of_ble_eq_true rfl) (hJ _ _ _ _ (by decide)) (xm_le ml_10 rfl) rfl ?_
              refine xi_iload_n (pc' := 1) (x := a26) kc_10_0 rfl rfl ?_
              refine xi_iconst (pc' := 2) (v := 0) kc_10_1 rfl rfl ?_
              refine xi_iconst (pc' := 3) (v := 5) kc_10_2 rfl rfl ?_
              refine xi_static (mj := 11) (as := [.int a26, .int 0, .int 5]) (st1 := []) (lv0 := [(0, .int a26), (1, .int 0), (2, .int 5)]) kc_10_3 rfl rfl (Nat.le_of_ble_eq_true rfl) rfl rfl (Nat.le_of_ble_eq_true rfl) (hJ _ _ _ _ (by decide)) (xm_le ml_11 rfl) rfl ?_
              refine xi_iload_n (pc' := 1) (x := a26) kc_11_0 rfl rfl ?_
              refine xi_iload_n (pc' := 2) (x := 0) kc_11_1 rfl rfl ?_
              refine xi_cmf (pc' := 5) kc_11_2 rfl (xc_lt_f (X := a26.toInt) (Y := 0) rfl (by decide) (by omega)) ?_
              refine xi_iload_n (pc' := 6) (x := a26) kc_11_5 rfl rfl ?_
              refine xi_iload_n (pc' := 7) (x := 5) kc_11_6 rfl rfl ?_
              refine xi_cmf (pc' := 10) kc_11_7 rfl (xc_gt_f (X := a26.toInt) (Y := 5) rfl (by decide) (by omega)) ?_
              refine xi_iconst (pc' := 11) (v := 1) kc_11_10 rfl rfl ?_
              refine xi_goto (pc' := 15) kc_11_11 rfl ?_
              refine xi_ireturn kc_11_15 mr_11 rfl ?_
              show xw J ov 98 10 (6, [(0, .int a26)], [.int 1], hh484) _
              refine xi_ireturn kc_10_6 mr_10 rfl ?_
              show xw J ov 99 23 (16, [(0, .ref 115), (1, .int a24), (2, .int a26), (3, .int a28), (4, .int 1)], [.int 1], hh484) _
              refine xi_ift (pc' := 25) kc_23_16 rfl rfl ?_
              refine xi_iload_n (pc' := 26) (x := a28) kc_23_25 rfl rfl ?_
              refine xi_iff (pc' := 29) kc_23_26 rfl (xc_ge_f (X := a28.toInt) (Y := 0) rfl (by decide) (by omega)) ?_
              refine xi_aload_n (pc' := 30) (x := 115) kc_23_29 rfl rfl ?_
              refine xi_bipush (pc' := 32) (v := (-4)) kc_23_30 rfl rfl ?_
              refine xi_virtual (mj := 12) (as := [.int (-4)]) (st1 := []) (lv0 := [(0, .ref 115), (1, .int (-4))]) kc_23_32 rfl rfl rfl rfl rfl eh483.1 (Nat.le_of_ble_eq_true rfl) (hJ _ _ _ _ (by decide)) (xm_le ml_12 rfl) rfl ?_
              refine xi_aload_n (pc' := 1) (x := 115) kc_12_0 rfl rfl ?_
              refine xi_getfield (pc' := 4) (v := .ref 140) kc_12_1 rfl rfl rfl eh483.1 rfl ?_
              refine xi_iload_n (pc' := 5) (x := (-4)) kc_12_4 rfl rfl ?_
              refine xi_ineg (pc' := 6) (v := 4) kc_12_5 rfl rfl ?_
              refine xi_dup2 (pc' := 7) kc_12_6 rfl ⟨rfl, rfl⟩ ?_
              obtain ⟨y486, A486, hy486, ry486⟩ := xk_arr K.1 xD_140
              obtain ⟨v487, ev487, bv487, dv487⟩ := xj_get hy486 ry486 (i := 4) (by decide) (by decide)
              have A488 := ((eh483.2.1 140 (by decide)).trans ((eh480.2.1 140 (by decide)).trans A486))
              refine xi_iaload (pc' := 8) (v := v487) kc_12_7 rfl A488 (by decide) rfl (xi_in (by decide) (by rw [hy486]; decide)) ev487 ?_
              refine xi_iconst (pc' := 9) (v := 1) kc_12_8 rfl rfl ?_
              obtain ⟨v489, ev489⟩ : ∃ q : Int32, (v487 : Int32) + 1 = q := ⟨_, rfl⟩
              have rv489 := xc_rng v489
              refine xi_iadd (pc' := 10) (v := v489) kc_12_9 rfl ev489 ?_
              obtain ⟨y490, s490, hy490, ry490⟩ := xj_set (v := v489) hy486 ry486 4 (by first | omega | decide) (by first | omega | decide)
              refine xi_iastore (pc' := 11) (x' := y490) kc_12_10 rfl A488 rfl (xi_in (by decide) (by rw [hy486]; decide)) s490 (fun hh490 eh490 => ?_)
              have K491 := xk_pa K485 (xk_wa rfl) xD_140 hy490 ry490 eh490
              refine xi_iload_n (pc' := 12) (x := (-4)) kc_12_11 rfl rfl ?_
              refine xi_ireturn kc_12_12 mr_12 rfl ?_
              show xw J ov 99 23 (35, [(0, .ref 115), (1, .int a24), (2, .int a26), (3, .int a28), (4, .int 1)], [.int (-4)], hh490) _
              refine xi_ireturn kc_23_35 mr_23 rfl ?_
              show xw J ov 100 195 (474, [(4, .int x4), (3, .ref 167), (2, .ref 115), (1, .ref 0), (0, .ref 1000000)], [.int (-4)], hh490) _
              refine xi_pop (pc' := 475) kc_195_474 rfl rfl ?_
              refine xi_goto (pc' := 1501) kc_195_475 rfl ?_
              obtain ⟨v492, ev492⟩ : ∃ q : Int32, x4 + 6 = q := ⟨_, rfl⟩
              have zv492 : v492.toInt = (x4.toInt + 6) := by rw [← ev492]; exact (xz_add (X := x4.toInt) (Y := 6) rfl (by decide) (by omega) (by omega)).trans (by omega)
              refine xi_iinc (pc' := 1504) (x := x4) (v := v492) (lv' := [(4, .int v492), (3, .ref 167), (2, .ref 115), (1, .ref 0), (0, .ref 1000000)]) kc_195_1501 rfl rfl ev492 rfl (xm_lt ml_195 rfl) ?_
              refine xi_goto (pc' := 23) kc_195_1504 rfl ?_
              have A493 := ((eh490.2.1 0 (by decide)).trans ((eh483.2.1 0 (by decide)).trans ((eh480.2.1 0 (by decide)).trans A3)))
              have A494 := ((eh490.2.1 115 (by decide)).trans eh483.1)
              have A495 := ((eh490.2.1 66 (by decide)).trans ((eh483.2.1 66 (by decide)).trans ((eh480.2.1 66 (by decide)).trans A20)))
              have A496 := ((eh490.2.1 71 (by decide)).trans ((eh483.2.1 71 (by decide)).trans ((eh480.2.1 71 (by decide)).trans A21)))
              have A497 := ((eh490.2.1 132 (by decide)).trans ((eh483.2.1 132 (by decide)).trans ((eh480.2.1 132 (by decide)).trans A22)))
              exact kk v492 hh490 (by omega) K491 ⟨(xGR_kept I.1 (fun c hc => ((eh490.2.1 c (Ne.symm (xk_nc hc rfl))).trans ((eh483.2.1 c (Ne.symm (xk_nc hc rfl))).trans (eh480.2.1 c (Ne.symm (xk_nc hc rfl)))))) ((eh490.2.1 125 (by decide)).trans ((eh483.2.1 125 (by decide)).trans (eh480.2.1 125 (by decide))))), ((xl_of A493 rfl).trans (xl_of A494 rfl).symm), ((xl_of A495 rfl).trans (xl_of A494 rfl).symm), ((xl_arr A496).trans (xl_arr A497).symm)⟩
set_option maxHeartbeats 8000000 in
theorem lc_6 {J : xe_J} {ov : List (List Int32)} (hJ : ∀ d mj as h, mj ≠ xe_loff → J d mj as h = none) (hov1 : ov[1]? = some [10, 0, 0, 0, 0, 0]) (hov2 : ov[2]? = some [99, 30, 50, 50, 1, 99999]) {xs : List Int32} (hov0 : ov[0]? = some xs) {Q : Option Value → xe_H → Prop} {h : xe_H} {x4 : Int32} (hi0 : 0 ≤ x4.toInt) (hi1 : x4.toInt + 6 ≤ xs.length) (hi2 : x4.toInt ≤ 3066) (T : xt h) (kk : ∀ (i : Int32) (h' : xe_H), i.toInt = x4.toInt + 6 → xk [(29, 0), (31, 0), (33, 0), (35, 0), (37, 0), (39, 0), (41, 0), (43, 0), (45, 0), (47, 0), (49, 0), (51, 0), (125, 0), (0, 9), (115, 1), (66, 8), (115, 18), (71, 0), (132, 0)] h h' → xw J ov 100 195 (23, [(4, .int i), (3, .ref 167), (2, .ref 115), (1, .ref 0), (0, .ref 1000000)], [], h') Q) : xw J ov 100 195 (478, [(4, .int x4), (3, .ref 167), (2, .ref 115), (1, .ref 0), (0, .ref 1000000)], [], h) Q := by
  have K : xk [(29, 0), (31, 0), (33, 0), (35, 0), (37, 0), (39, 0), (41, 0), (43, 0), (45, 0), (47, 0), (49, 0), (51, 0), (125, 0), (0, 9), (115, 1), (66, 8), (115, 18), (71, 0), (132, 0)] h h := xk_re T
  refine xi_aload_n (pc' := 479) (x := 0) kc_195_478 rfl rfl ?_
  refine xi_aload_n (pc' := 480) (x := 1000000) kc_195_479 rfl rfl ?_
  refine xi_iload (pc' := 482) (x := x4) kc_195_480 rfl rfl ?_
  refine xi_iconst (pc' := 483) (v := 1) kc_195_482 rfl rfl ?_
  obtain ⟨v1, ev1⟩ : ∃ q : Int32, x4 + 1 = q := ⟨_, rfl⟩
  have zv1 : v1.toInt = (x4.toInt + 1) := by rw [← ev1]; exact (xz_add (X := x4.toInt) (Y := 1) rfl (by decide) (by omega) (by omega)).trans (by omega)
  refine xi_iadd (pc' := 484) (v := v1) kc_195_483 rfl ev1 ?_
  obtain ⟨a2, ea2⟩ : ∃ q : Int32, xs.getD (Int32.toNatClampNeg v1) 0 = q := ⟨_, rfl⟩
  have ra2 := xc_rng a2
  refine xi_ialoadO (pc' := 485) (v := a2) kc_195_484 rfl (by decide) hov0 (xi_in (by omega) (by omega)) ea2 ?_
  refine xi_aload_n (pc' := 486) (x := 1000000) kc_195_485 rfl rfl ?_
  refine xi_iload (pc' := 488) (x := x4) kc_195_486 rfl rfl ?_
  refine xi_iconst (pc' := 489) (v := 2) kc_195_488 rfl rfl ?_
  obtain ⟨v3, ev3⟩ : ∃ q : Int32, x4 + 2 = q := ⟨_, rfl⟩
  have zv3 : v3.toInt = (x4.toInt + 2) := by rw [← ev3]; exact (xz_add (X := x4.toInt) (Y := 2) rfl (by decide) (by omega) (by omega)).trans (by omega)
  refine xi_iadd (pc' := 490) (v := v3) kc_195_489 rfl ev3 ?_
  obtain ⟨a4, ea4⟩ : ∃ q : Int32, xs.getD (Int32.toNatClampNeg v3) 0 = q := ⟨_, rfl⟩
  have ra4 := xc_rng a4
  refine xi_ialoadO (pc' := 491) (v := a4) kc_195_490 rfl (by decide) hov0 (xi_in (by omega) (by omega)) ea4 ?_
  obtain ⟨u5, u6, bu5, bu6, A7⟩ := xq_0 K.1
  refine xi_virtual (mj := 106) (as := [.int a2, .int a4]) (st1 := []) (lv0 := [(0, .ref 0), (1, .int a2), (2, .int a4)]) kc_195_491 rfl rfl rfl rfl rfl A7 (Nat.le_of_ble_eq_true rfl) (hJ _ _ _ _ (by decide)) (xm_le ml_106 rfl) rfl ?_
  refine mt_106_0 hJ hov1 hov2 (d := 95) (x1 := a2) (x2 := a4) K.1 (fun r8 hh9 K10 => ?_)
  have br8 := xc_rng r8
  have K11 := xk_tr K K10 rfl
  obtain ⟨u12, u13, bu12, bu13, A14⟩ := xq_0 K11.1
  have e15 : u6 = u13 := xk_eqi (q := 9) K10 rfl A7 A14 rfl rfl
  subst e15
  show xw J ov 100 195 (494, [(4, .int x4), (3, .ref 167), (2, .ref 115), (1, .ref 0), (0, .ref 1000000)], [.int r8], hh9) _
  refine xi_pop (pc' := 495) kc_195_494 rfl rfl ?_
  refine xi_aload_n (pc' := 496) (x := 115) kc_195_495 rfl rfl ?_
  refine xi_aload_n (pc' := 497) (x := 1000000) kc_195_496 rfl rfl ?_
  refine xi_iload (pc' := 499) (x := x4) kc_195_497 rfl rfl ?_
  refine xi_iconst (pc' := 500) (v := 1) kc_195_499 rfl rfl ?_
  refine xi_iadd (pc' := 501) (v := v1) kc_195_500 rfl ev1 ?_
  refine xi_ialoadO (pc' := 502) (v := a2) kc_195_501 rfl (by decide) hov0 (xi_in (by omega) (by omega)) ea2 ?_
  refine xi_aload_n (pc' := 503) (x := 1000000) kc_195_502 rfl rfl ?_
  refine xi_iload (pc' := 505) (x := x4) kc_195_503 rfl rfl ?_
  refine xi_iconst (pc' := 506) (v := 2) kc_195_505 rfl rfl ?_
  refine xi_iadd (pc' := 507) (v := v3) kc_195_506 rfl ev3 ?_
  refine xi_ialoadO (pc' := 508) (v := a4) kc_195_507 rfl (by decide) hov0 (xi_in (by omega) (by omega)) ea4 ?_
  obtain ⟨u16, u17, u18, u19, u20, u21, u22, u23, u24, u25, u26, u27, u28, bu16, bu17, bu18, bu19, bu20, bu21, bu22, bu23, bu24, bu25, bu26, bu27, bu28, A29⟩ := xq_115 K11.1
  refine xi_virtual (mj := 25) (as := [.int a2, .int a4]) (st1 := []) (lv0 := [(0, .ref 115), (1, .int a2), (2, .int a4)]) kc_195_508 rfl rfl rfl rfl rfl A29 (Nat.le_of_ble_eq_true rfl) (hJ _ _ _ _ (by decide)) (xm_le ml_25 rfl) rfl ?_
  refine mt_25_0 hJ hov1 hov2 (d := 96) (x1 := a2) (x2 := a4) K11.1 (fun r30 hh31 K32 => ?_)
  have br30 := xc_rng r30
  have K33 := xk_tr K11 K32 rfl
  obtain ⟨u34, u35, bu34, bu35, A36⟩ := xq_0 K33.1
  have e37 : u6 = u35 := xk_eqi (q := 9) K32 rfl A14 A36 rfl rfl
  subst e37
  obtain ⟨u38, u39, u40, u41, u42, u43, u44, u45, u46, u47, u48, u49, u50, bu38, bu39, bu40, bu41, bu42, bu43, bu44, bu45, bu46, bu47, bu48, bu49, bu50, A51⟩ := xq_115 K33.1
  have e52 : u17 = u39 := xk_eqi (q := 1) K32 rfl A29 A51 rfl rfl
  subst e52
  have e53 : u19 = u41 := xk_eqi (q := 18) K32 rfl A29 A51 rfl rfl
  subst e53
  show xw J ov 100 195 (511, [(4, .int x4), (3, .ref 167), (2, .ref 115), (1, .ref 0), (0, .ref 1000000)], [.int r30], hh31) _
  refine xi_pop (pc' := 512) kc_195_511 rfl rfl ?_
  refine xi_goto (pc' := 1501) kc_195_512 rfl ?_
  obtain ⟨v54, ev54⟩ : ∃ q : Int32, x4 + 6 = q := ⟨_, rfl⟩
  have zv54 : v54.toInt = (x4.toInt + 6) := by rw [← ev54]; exact (xz_add (X := x4.toInt) (Y := 6) rfl (by decide) (by omega) (by omega)).trans (by omega)
  refine xi_iinc (pc' := 1504) (x := x4) (v := v54) (lv' := [(4, .int v54), (3, .ref 167), (2, .ref 115), (1, .ref 0), (0, .ref 1000000)]) kc_195_1501 rfl rfl ev54 rfl (xm_lt ml_195 rfl) ?_
  refine xi_goto (pc' := 23) kc_195_1504 rfl ?_
  exact kk v54 hh31 (by omega) K33
set_option maxHeartbeats 8000000 in
theorem lc_7 {J : xe_J} {ov : List (List Int32)} (hJ : ∀ d mj as h, mj ≠ xe_loff → J d mj as h = none) (hov1 : ov[1]? = some [10, 0, 0, 0, 0, 0]) (hov2 : ov[2]? = some [99, 30, 50, 50, 1, 99999]) {xs : List Int32} (hov0 : ov[0]? = some xs) {Q : Option Value → xe_H → Prop} {h : xe_H} {x4 : Int32} (hi0 : 0 ≤ x4.toInt) (hi1 : x4.toInt + 6 ≤ xs.length) (hi2 : x4.toInt ≤ 3066) (T : xt h) (kk : ∀ (i : Int32) (h' : xe_H), i.toInt = x4.toInt + 6 → xk [(29, 0), (31, 0), (33, 0), (35, 0), (37, 0), (39, 0), (41, 0), (43, 0), (45, 0), (47, 0), (49, 0), (51, 0), (125, 0), (0, 9), (115, 1), (66, 8), (115, 18), (71, 0), (132, 0)] h h' → xw J ov 100 195 (23, [(4, .int i), (3, .ref 167), (2, .ref 115), (1, .ref 0), (0, .ref 1000000)], [], h') Q) : xw J ov 100 195 (515, [(4, .int x4), (3, .ref 167), (2, .ref 115), (1, .ref 0), (0, .ref 1000000)], [], h) Q := by
  have K : xk [(29, 0), (31, 0), (33, 0), (35, 0), (37, 0), (39, 0), (41, 0), (43, 0), (45, 0), (47, 0), (49, 0), (51, 0), (125, 0), (0, 9), (115, 1), (66, 8), (115, 18), (71, 0), (132, 0)] h h := xk_re T
  refine xi_aload_n (pc' := 516) (x := 0) kc_195_515 rfl rfl ?_
  refine xi_aload_n (pc' := 517) (x := 1000000) kc_195_516 rfl rfl ?_
  refine xi_iload (pc' := 519) (x := x4) kc_195_517 rfl rfl ?_
  refine xi_iconst (pc' := 520) (v := 1) kc_195_519 rfl rfl ?_
  obtain ⟨v1, ev1⟩ : ∃ q : Int32, x4 + 1 = q := ⟨_, rfl⟩
  have zv1 : v1.toInt = (x4.toInt + 1) := by rw [← ev1]; exact (xz_add (X := x4.toInt) (Y := 1) rfl (by decide) (by omega) (by omega)).trans (by omega)
  refine xi_iadd (pc' := 521) (v := v1) kc_195_520 rfl ev1 ?_
  obtain ⟨a2, ea2⟩ : ∃ q : Int32, xs.getD (Int32.toNatClampNeg v1) 0 = q := ⟨_, rfl⟩
  have ra2 := xc_rng a2
  refine xi_ialoadO (pc' := 522) (v := a2) kc_195_521 rfl (by decide) hov0 (xi_in (by omega) (by omega)) ea2 ?_
  obtain ⟨u3, u4, bu3, bu4, A5⟩ := xq_0 K.1
  refine xi_virtual (mj := 110) (as := [.int a2]) (st1 := []) (lv0 := [(0, .ref 0), (1, .int a2)]) kc_195_522 rfl rfl rfl rfl rfl A5 (Nat.le_of_ble_eq_true rfl) (hJ _ _ _ _ (by decide)) (xm_le ml_110 rfl) rfl ?_
  refine mt_110_0 hJ hov1 hov2 (d := 98) (x1 := a2) K.1 (fun r6 hh7 K8 => ?_)
  have br6 := xc_rng r6
  have K9 := xk_tr K K8 rfl
  obtain ⟨u10, u11, bu10, bu11, A12⟩ := xq_0 K9.1
  have e13 : u4 = u11 := xk_eqi (q := 9) K8 rfl A5 A12 rfl rfl
  subst e13
  show xw J ov 100 195 (525, [(4, .int x4), (3, .ref 167), (2, .ref 115), (1, .ref 0), (0, .ref 1000000)], [.int r6], hh7) _
  refine xi_pop (pc' := 526) kc_195_525 rfl rfl ?_
  refine xi_aload_n (pc' := 527) (x := 115) kc_195_526 rfl rfl ?_
  refine xi_aload_n (pc' := 528) (x := 1000000) kc_195_527 rfl rfl ?_
  refine xi_iload (pc' := 530) (x := x4) kc_195_528 rfl rfl ?_
  refine xi_iconst (pc' := 531) (v := 1) kc_195_530 rfl rfl ?_
  refine xi_iadd (pc' := 532) (v := v1) kc_195_531 rfl ev1 ?_
  refine xi_ialoadO (pc' := 533) (v := a2) kc_195_532 rfl (by decide) hov0 (xi_in (by omega) (by omega)) ea2 ?_
  obtain ⟨u14, u15, u16, u17, u18, u19, u20, u21, u22, u23, u24, u25, u26, bu14, bu15, bu16, bu17, bu18, bu19, bu20, bu21, bu22, bu23, bu24, bu25, bu26, A27⟩ := xq_115 K9.1
  refine xi_virtual (mj := 27) (as := [.int a2]) (st1 := []) (lv0 := [(0, .ref 115), (1, .int a2)]) kc_195_533 rfl rfl rfl rfl rfl A27 (Nat.le_of_ble_eq_true rfl) (hJ _ _ _ _ (by decide)) (xm_le ml_27 rfl) rfl ?_
  refine mt_27_0 hJ hov1 hov2 (d := 98) (x1 := a2) K9.1 (fun r28 hh29 K30 => ?_)
  have br28 := xc_rng r28
  have K31 := xk_tr K9 K30 rfl
  obtain ⟨u32, u33, bu32, bu33, A34⟩ := xq_0 K31.1
  have e35 : u4 = u33 := xk_eqi (q := 9) K30 rfl A12 A34 rfl rfl
  subst e35
  obtain ⟨u36, u37, u38, u39, u40, u41, u42, u43, u44, u45, u46, u47, u48, bu36, bu37, bu38, bu39, bu40, bu41, bu42, bu43, bu44, bu45, bu46, bu47, bu48, A49⟩ := xq_115 K31.1
  have e50 : u15 = u37 := xk_eqi (q := 1) K30 rfl A27 A49 rfl rfl
  subst e50
  have e51 : u17 = u39 := xk_eqi (q := 18) K30 rfl A27 A49 rfl rfl
  subst e51
  show xw J ov 100 195 (536, [(4, .int x4), (3, .ref 167), (2, .ref 115), (1, .ref 0), (0, .ref 1000000)], [.int r28], hh29) _
  refine xi_pop (pc' := 537) kc_195_536 rfl rfl ?_
  refine xi_goto (pc' := 1501) kc_195_537 rfl ?_
  obtain ⟨v52, ev52⟩ : ∃ q : Int32, x4 + 6 = q := ⟨_, rfl⟩
  have zv52 : v52.toInt = (x4.toInt + 6) := by rw [← ev52]; exact (xz_add (X := x4.toInt) (Y := 6) rfl (by decide) (by omega) (by omega)).trans (by omega)
  refine xi_iinc (pc' := 1504) (x := x4) (v := v52) (lv' := [(4, .int v52), (3, .ref 167), (2, .ref 115), (1, .ref 0), (0, .ref 1000000)]) kc_195_1501 rfl rfl ev52 rfl (xm_lt ml_195 rfl) ?_
  refine xi_goto (pc' := 23) kc_195_1504 rfl ?_
  exact kk v52 hh29 (by omega) K31
set_option maxHeartbeats 8000000 in
theorem lc_8 {J : xe_J} {ov : List (List Int32)} (hJ : ∀ d mj as h, mj ≠ xe_loff → J d mj as h = none) (hov1 : ov[1]? = some [10, 0, 0, 0, 0, 0]) (hov2 : ov[2]? = some [99, 30, 50, 50, 1, 99999]) {xs : List Int32} (hov0 : ov[0]? = some xs) {Q : Option Value → xe_H → Prop} {h : xe_H} {x4 : Int32} (hi0 : 0 ≤ x4.toInt) (hi1 : x4.toInt + 6 ≤ xs.length) (hi2 : x4.toInt ≤ 3066) (T : xt h) (kk : ∀ (i : Int32) (h' : xe_H), i.toInt = x4.toInt + 6 → xk [(29, 0), (31, 0), (33, 0), (35, 0), (37, 0), (39, 0), (41, 0), (43, 0), (45, 0), (47, 0), (49, 0), (51, 0), (125, 0), (0, 9), (115, 1), (66, 8), (115, 18), (71, 0), (132, 0)] h h' → xw J ov 100 195 (23, [(4, .int i), (3, .ref 167), (2, .ref 115), (1, .ref 0), (0, .ref 1000000)], [], h') Q) : xw J ov 100 195 (540, [(4, .int x4), (3, .ref 167), (2, .ref 115), (1, .ref 0), (0, .ref 1000000)], [], h) Q := by
  have K : xk [(29, 0), (31, 0), (33, 0), (35, 0), (37, 0), (39, 0), (41, 0), (43, 0), (45, 0), (47, 0), (49, 0), (51, 0), (125, 0), (0, 9), (115, 1), (66, 8), (115, 18), (71, 0), (132, 0)] h h := xk_re T
  refine xi_aload_n (pc' := 541) (x := 0) kc_195_540 rfl rfl ?_
  refine xi_aload_n (pc' := 542) (x := 1000000) kc_195_541 rfl rfl ?_
  refine xi_iload (pc' := 544) (x := x4) kc_195_542 rfl rfl ?_
  refine xi_iconst (pc' := 545) (v := 1) kc_195_544 rfl rfl ?_
  obtain ⟨v1, ev1⟩ : ∃ q : Int32, x4 + 1 = q := ⟨_, rfl⟩
  have zv1 : v1.toInt = (x4.toInt + 1) := by rw [← ev1]; exact (xz_add (X := x4.toInt) (Y := 1) rfl (by decide) (by omega) (by omega)).trans (by omega)
  refine xi_iadd (pc' := 546) (v := v1) kc_195_545 rfl ev1 ?_
  obtain ⟨a2, ea2⟩ : ∃ q : Int32, xs.getD (Int32.toNatClampNeg v1) 0 = q := ⟨_, rfl⟩
  have ra2 := xc_rng a2
  refine xi_ialoadO (pc' := 547) (v := a2) kc_195_546 rfl (by decide) hov0 (xi_in (by omega) (by omega)) ea2 ?_
  obtain ⟨u3, u4, bu3, bu4, A5⟩ := xq_0 K.1
  refine xi_virtual (mj := 111) (as := [.int a2]) (st1 := []) (lv0 := [(0, .ref 0), (1, .int a2)]) kc_195_547 rfl rfl rfl rfl rfl A5 (Nat.le_of_ble_eq_true rfl) (hJ _ _ _ _ (by decide)) (xm_le ml_111 rfl) rfl ?_
  refine mt_111_0 hJ hov1 hov2 (d := 98) (x1 := a2) K.1 (fun r6 hh7 K8 => ?_)
  have br6 := xc_rng r6
  have K9 := xk_tr K K8 rfl
  obtain ⟨u10, u11, bu10, bu11, A12⟩ := xq_0 K9.1
  have e13 : u4 = u11 := xk_eqi (q := 9) K8 rfl A5 A12 rfl rfl
  subst e13
  show xw J ov 100 195 (550, [(4, .int x4), (3, .ref 167), (2, .ref 115), (1, .ref 0), (0, .ref 1000000)], [.int r6], hh7) _
  refine xi_pop (pc' := 551) kc_195_550 rfl rfl ?_
  refine xi_aload_n (pc' := 552) (x := 115) kc_195_551 rfl rfl ?_
  refine xi_aload_n (pc' := 553) (x := 1000000) kc_195_552 rfl rfl ?_
  refine xi_iload (pc' := 555) (x := x4) kc_195_553 rfl rfl ?_
  refine xi_iconst (pc' := 556) (v := 1) kc_195_555 rfl rfl ?_
  refine xi_iadd (pc' := 557) (v := v1) kc_195_556 rfl ev1 ?_
  refine xi_ialoadO (pc' := 558) (v := a2) kc_195_557 rfl (by decide) hov0 (xi_in (by omega) (by omega)) ea2 ?_
  obtain ⟨u14, u15, u16, u17, u18, u19, u20, u21, u22, u23, u24, u25, u26, bu14, bu15, bu16, bu17, bu18, bu19, bu20, bu21, bu22, bu23, bu24, bu25, bu26, A27⟩ := xq_115 K9.1
  refine xi_virtual (mj := 28) (as := [.int a2]) (st1 := []) (lv0 := [(0, .ref 115), (1, .int a2)]) kc_195_558 rfl rfl rfl rfl rfl A27 (Nat.le_of_ble_eq_true rfl) (hJ _ _ _ _ (by decide)) (xm_le ml_28 rfl) rfl ?_
  refine mt_28_0 hJ hov1 hov2 (d := 97) (x1 := a2) K9.1 (fun r28 hh29 K30 => ?_)
  have br28 := xc_rng r28
  have K31 := xk_tr K9 K30 rfl
  obtain ⟨u32, u33, bu32, bu33, A34⟩ := xq_0 K31.1
  have e35 : u4 = u33 := xk_eqi (q := 9) K30 rfl A12 A34 rfl rfl
  subst e35
  obtain ⟨u36, u37, u38, u39, u40, u41, u42, u43, u44, u45, u46, u47, u48, bu36, bu37, bu38, bu39, bu40, bu41, bu42, bu43, bu44, bu45, bu46, bu47, bu48, A49⟩ := xq_115 K31.1
  have e50 : u15 = u37 := xk_eqi (q := 1) K30 rfl A27 A49 rfl rfl
  subst e50
  have e51 : u17 = u39 := xk_eqi (q := 18) K30 rfl A27 A49 rfl rfl
  subst e51
  show xw J ov 100 195 (561, [(4, .int x4), (3, .ref 167), (2, .ref 115), (1, .ref 0), (0, .ref 1000000)], [.int r28], hh29) _
  refine xi_pop (pc' := 562) kc_195_561 rfl rfl ?_
  refine xi_goto (pc' := 1501) kc_195_562 rfl ?_
  obtain ⟨v52, ev52⟩ : ∃ q : Int32, x4 + 6 = q := ⟨_, rfl⟩
  have zv52 : v52.toInt = (x4.toInt + 6) := by rw [← ev52]; exact (xz_add (X := x4.toInt) (Y := 6) rfl (by decide) (by omega) (by omega)).trans (by omega)
  refine xi_iinc (pc' := 1504) (x := x4) (v := v52) (lv' := [(4, .int v52), (3, .ref 167), (2, .ref 115), (1, .ref 0), (0, .ref 1000000)]) kc_195_1501 rfl rfl ev52 rfl (xm_lt ml_195 rfl) ?_
  refine xi_goto (pc' := 23) kc_195_1504 rfl ?_
  exact kk v52 hh29 (by omega) K31
set_option maxHeartbeats 8000000 in
theorem lc_9 {J : xe_J} {ov : List (List Int32)} (hJ : ∀ d mj as h, mj ≠ xe_loff → J d mj as h = none) (hov1 : ov[1]? = some [10, 0, 0, 0, 0, 0]) (hov2 : ov[2]? = some [99, 30, 50, 50, 1, 99999]) {xs : List Int32} (hov0 : ov[0]? = some xs) {Q : Option Value → xe_H → Prop} {h : xe_H} {x4 : Int32} (hi0 : 0 ≤ x4.toInt) (hi1 : x4.toInt + 6 ≤ xs.length) (hi2 : x4.toInt ≤ 3066) (T : xt h) (kk : ∀ (i : Int32) (h' : xe_H), i.toInt = x4.toInt + 6 → xk [(29, 0), (31, 0), (33, 0), (35, 0), (37, 0), (39, 0), (41, 0), (43, 0), (45, 0), (47, 0), (49, 0), (51, 0), (125, 0), (0, 9), (115, 1), (66, 8), (115, 18), (71, 0), (132, 0)] h h' → xw J ov 100 195 (23, [(4, .int i), (3, .ref 167), (2, .ref 115), (1, .ref 0), (0, .ref 1000000)], [], h') Q) : xw J ov 100 195 (565, [(4, .int x4), (3, .ref 167), (2, .ref 115), (1, .ref 0), (0, .ref 1000000)], [], h) Q := by
  have K : xk [(29, 0), (31, 0), (33, 0), (35, 0), (37, 0), (39, 0), (41, 0), (43, 0), (45, 0), (47, 0), (49, 0), (51, 0), (125, 0), (0, 9), (115, 1), (66, 8), (115, 18), (71, 0), (132, 0)] h h := xk_re T
  refine xi_aload_n (pc' := 566) (x := 0) kc_195_565 rfl rfl ?_
  refine xi_aload_n (pc' := 567) (x := 1000000) kc_195_566 rfl rfl ?_
  refine xi_iload (pc' := 569) (x := x4) kc_195_567 rfl rfl ?_
  refine xi_iconst (pc' := 570) (v := 1) kc_195_569 rfl rfl ?_
  obtain ⟨v1, ev1⟩ : ∃ q : Int32, x4 + 1 = q := ⟨_, rfl⟩
  have zv1 : v1.toInt = (x4.toInt + 1) := by rw [← ev1]; exact (xz_add (X := x4.toInt) (Y := 1) rfl (by decide) (by omega) (by omega)).trans (by omega)
  refine xi_iadd (pc' := 571) (v := v1) kc_195_570 rfl ev1 ?_
  obtain ⟨a2, ea2⟩ : ∃ q : Int32, xs.getD (Int32.toNatClampNeg v1) 0 = q := ⟨_, rfl⟩
  have ra2 := xc_rng a2
  refine xi_ialoadO (pc' := 572) (v := a2) kc_195_571 rfl (by decide) hov0 (xi_in (by omega) (by omega)) ea2 ?_
  obtain ⟨u3, u4, bu3, bu4, A5⟩ := xq_0 K.1
  refine xi_virtual (mj := 112) (as := [.int a2]) (st1 := []) (lv0 := [(0, .ref 0), (1, .int a2)]) kc_195_572 rfl rfl rfl rfl rfl A5 (Nat.le_of_ble_eq_true rfl) (hJ _ _ _ _ (by decide)) (xm_le ml_112 rfl) rfl ?_
  refine mt_112_0 hJ hov1 hov2 (d := 98) (x1 := a2) K.1 (fun r6 hh7 K8 => ?_)
  have br6 := xc_rng r6
  have K9 := xk_tr K K8 rfl
  obtain ⟨u10, u11, bu10, bu11, A12⟩ := xq_0 K9.1
  have e13 : u4 = u11 := xk_eqi (q := 9) K8 rfl A5 A12 rfl rfl
  subst e13
  show xw J ov 100 195 (575, [(4, .int x4), (3, .ref 167), (2, .ref 115), (1, .ref 0), (0, .ref 1000000)], [.int r6], hh7) _
  refine xi_pop (pc' := 576) kc_195_575 rfl rfl ?_
  refine xi_aload_n (pc' := 577) (x := 115) kc_195_576 rfl rfl ?_
  refine xi_aload_n (pc' := 578) (x := 1000000) kc_195_577 rfl rfl ?_
  refine xi_iload (pc' := 580) (x := x4) kc_195_578 rfl rfl ?_
  refine xi_iconst (pc' := 581) (v := 1) kc_195_580 rfl rfl ?_
  refine xi_iadd (pc' := 582) (v := v1) kc_195_581 rfl ev1 ?_
  refine xi_ialoadO (pc' := 583) (v := a2) kc_195_582 rfl (by decide) hov0 (xi_in (by omega) (by omega)) ea2 ?_
  obtain ⟨u14, u15, u16, u17, u18, u19, u20, u21, u22, u23, u24, u25, u26, bu14, bu15, bu16, bu17, bu18, bu19, bu20, bu21, bu22, bu23, bu24, bu25, bu26, A27⟩ := xq_115 K9.1
  refine xi_virtual (mj := 29) (as := [.int a2]) (st1 := []) (lv0 := [(0, .ref 115), (1, .int a2)]) kc_195_583 rfl rfl rfl rfl rfl A27 (Nat.le_of_ble_eq_true rfl) (hJ _ _ _ _ (by decide)) (xm_le ml_29 rfl) rfl ?_
  refine mt_29_0 hJ hov1 hov2 (d := 97) (x1 := a2) K9.1 (fun r28 hh29 K30 => ?_)
  have br28 := xc_rng r28
  have K31 := xk_tr K9 K30 rfl
  obtain ⟨u32, u33, bu32, bu33, A34⟩ := xq_0 K31.1
  have e35 : u4 = u33 := xk_eqi (q := 9) K30 rfl A12 A34 rfl rfl
  subst e35
  obtain ⟨u36, u37, u38, u39, u40, u41, u42, u43, u44, u45, u46, u47, u48, bu36, bu37, bu38, bu39, bu40, bu41, bu42, bu43, bu44, bu45, bu46, bu47, bu48, A49⟩ := xq_115 K31.1
  have e50 : u15 = u37 := xk_eqi (q := 1) K30 rfl A27 A49 rfl rfl
  subst e50
  have e51 : u17 = u39 := xk_eqi (q := 18) K30 rfl A27 A49 rfl rfl
  subst e51
  show xw J ov 100 195 (586, [(4, .int x4), (3, .ref 167), (2, .ref 115), (1, .ref 0), (0, .ref 1000000)], [.int r28], hh29) _
  refine xi_pop (pc' := 587) kc_195_586 rfl rfl ?_
  refine xi_goto (pc' := 1501) kc_195_587 rfl ?_
  obtain ⟨v52, ev52⟩ : ∃ q : Int32, x4 + 6 = q := ⟨_, rfl⟩
  have zv52 : v52.toInt = (x4.toInt + 6) := by rw [← ev52]; exact (xz_add (X := x4.toInt) (Y := 6) rfl (by decide) (by omega) (by omega)).trans (by omega)
  refine xi_iinc (pc' := 1504) (x := x4) (v := v52) (lv' := [(4, .int v52), (3, .ref 167), (2, .ref 115), (1, .ref 0), (0, .ref 1000000)]) kc_195_1501 rfl rfl ev52 rfl (xm_lt ml_195 rfl) ?_
  refine xi_goto (pc' := 23) kc_195_1504 rfl ?_
  exact kk v52 hh29 (by omega) K31
set_option maxHeartbeats 8000000 in
theorem lc_10 {J : xe_J} {ov : List (List Int32)} (hJ : ∀ d mj as h, mj ≠ xe_loff → J d mj as h = none) (hov1 : ov[1]? = some [10, 0, 0, 0, 0, 0]) (hov2 : ov[2]? = some [99, 30, 50, 50, 1, 99999]) {xs : List Int32} (hov0 : ov[0]? = some xs) {Q : Option Value → xe_H → Prop} {h : xe_H} {x4 : Int32} (hi0 : 0 ≤ x4.toInt) (hi1 : x4.toInt + 6 ≤ xs.length) (hi2 : x4.toInt ≤ 3066) (T : xt h) (I : xI h) (kk : ∀ (i : Int32) (h' : xe_H), i.toInt = x4.toInt + 6 → xk [] h h' → xI h' → xw J ov 100 195 (23, [(4, .int i), (3, .ref 167), (2, .ref 115), (1, .ref 0), (0, .ref 1000000)], [], h') Q) : xw J ov 100 195 (590, [(4, .int x4), (3, .ref 167), (2, .ref 115), (1, .ref 0), (0, .ref 1000000)], [], h) Q := by
  have K : xk [] h h := xk_re T
  obtain ⟨u1, u2, bu1, bu2, A3⟩ := xq_0 K.1
  obtain ⟨u4, u5, u6, u7, u8, u9, u10, u11, u12, u13, u14, u15, u16, bu4, bu5, bu6, bu7, bu8, bu9, bu10, bu11, bu12, bu13, bu14, bu15, bu16, A17⟩ := xq_115 K.1
  have ee1 : u2 = u5 := xl_eqf I.2.1 A3 A17 rfl rfl
  subst ee1
  obtain ⟨u19, wl18, bu19, A20⟩ := xq_66 K.1
  have ee2 : u19 = u7 := xl_eqf I.2.2.1 A20 A17 rfl rfl
  subst ee2
  obtain ⟨y21, A21, hy21, ry21⟩ := xk_arr K.1 xD_71
  obtain ⟨y22, A22, hy22, ry22⟩ := xk_arr K.1 xD_132
  have ee3 : y21 = y22 := xl_eqa I.2.2.2 A21 A22
  subst ee3
  refine xi_aload_n (pc' := 591) (x := 0) kc_195_590 rfl rfl ?_
  refine xi_aload_n (pc' := 592) (x := 1000000) kc_195_591 rfl rfl ?_
  refine xi_iload (pc' := 594) (x := x4) kc_195_592 rfl rfl ?_
  refine xi_iconst (pc' := 595) (v := 1) kc_195_594 rfl rfl ?_
  obtain ⟨v23, ev23⟩ : ∃ q : Int32, x4 + 1 = q := ⟨_, rfl⟩
  have zv23 : v23.toInt = (x4.toInt + 1) := by rw [← ev23]; exact (xz_add (X := x4.toInt) (Y := 1) rfl (by decide) (by omega) (by omega)).trans (by omega)
  refine xi_iadd (pc' := 596) (v := v23) kc_195_595 rfl ev23 ?_
  obtain ⟨a24, ea24⟩ : ∃ q : Int32, xs.getD (Int32.toNatClampNeg v23) 0 = q := ⟨_, rfl⟩
  have ra24 := xc_rng a24
  refine xi_ialoadO (pc' := 597) (v := a24) kc_195_596 rfl (by decide) hov0 (xi_in (by omega) (by omega)) ea24 ?_
  refine xi_aload_n (pc' := 598) (x := 1000000) kc_195_597 rfl rfl ?_
  refine xi_iload (pc' := 600) (x := x4) kc_195_598 rfl rfl ?_
  refine xi_iconst (pc' := 601) (v := 2) kc_195_600 rfl rfl ?_
  obtain ⟨v25, ev25⟩ : ∃ q : Int32, x4 + 2 = q := ⟨_, rfl⟩
  have zv25 : v25.toInt = (x4.toInt + 2) := by rw [← ev25]; exact (xz_add (X := x4.toInt) (Y := 2) rfl (by decide) (by omega) (by omega)).trans (by omega)
  refine xi_iadd (pc' := 602) (v := v25) kc_195_601 rfl ev25 ?_
  obtain ⟨a26, ea26⟩ : ∃ q : Int32, xs.getD (Int32.toNatClampNeg v25) 0 = q := ⟨_, rfl⟩
  have ra26 := xc_rng a26
  refine xi_ialoadO (pc' := 603) (v := a26) kc_195_602 rfl (by decide) hov0 (xi_in (by omega) (by omega)) ea26 ?_
  refine xi_aload_n (pc' := 604) (x := 1000000) kc_195_603 rfl rfl ?_
  refine xi_iload (pc' := 606) (x := x4) kc_195_604 rfl rfl ?_
  refine xi_iconst (pc' := 607) (v := 3) kc_195_606 rfl rfl ?_
  obtain ⟨v27, ev27⟩ : ∃ q : Int32, x4 + 3 = q := ⟨_, rfl⟩
  have zv27 : v27.toInt = (x4.toInt + 3) := by rw [← ev27]; exact (xz_add (X := x4.toInt) (Y := 3) rfl (by decide) (by omega) (by omega)).trans (by omega)
  refine xi_iadd (pc' := 608) (v := v27) kc_195_607 rfl ev27 ?_
  obtain ⟨a28, ea28⟩ : ∃ q : Int32, xs.getD (Int32.toNatClampNeg v27) 0 = q := ⟨_, rfl⟩
  have ra28 := xc_rng a28
  refine xi_ialoadO (pc' := 609) (v := a28) kc_195_608 rfl (by decide) hov0 (xi_in (by omega) (by omega)) ea28 ?_
  refine xi_aload_n (pc' := 610) (x := 1000000) kc_195_609 rfl rfl ?_
  refine xi_iload (pc' := 612) (x := x4) kc_195_610 rfl rfl ?_
  refine xi_iconst (pc' := 613) (v := 4) kc_195_612 rfl rfl ?_
  obtain ⟨v29, ev29⟩ : ∃ q : Int32, x4 + 4 = q := ⟨_, rfl⟩
  have zv29 : v29.toInt = (x4.toInt + 4) := by rw [← ev29]; exact (xz_add (X := x4.toInt) (Y := 4) rfl (by decide) (by omega) (by omega)).trans (by omega)
  refine xi_iadd (pc' := 614) (v := v29) kc_195_613 rfl ev29 ?_
  obtain ⟨a30, ea30⟩ : ∃ q : Int32, xs.getD (Int32.toNatClampNeg v29) 0 = q := ⟨_, rfl⟩
  have ra30 := xc_rng a30
  refine xi_ialoadO (pc' := 615) (v := a30) kc_195_614 rfl (by decide) hov0 (xi_in (by omega) (by omega)) ea30 ?_
  refine xi_virtual (mj := 113) (as := [.int a24, .int a26, .int a28, .int a30]) (st1 := []) (lv0 := [(0, .ref 0), (1, .int a24), (2, .int a26), (3, .int a28), (4, .int a30)]) kc_195_615 rfl rfl rfl rfl rfl A3 (Nat.le_of_ble_eq_true rfl) (hJ _ _ _ _ (by decide)) (xm_le ml_113 rfl) rfl ?_
  refine xi_aload_n (pc' := 1) (x := 0) kc_113_0 rfl rfl ?_
  refine xi_getfield (pc' := 4) (v := .ref 1) kc_113_1 rfl rfl rfl A3 rfl ?_
  refine xi_iload_n (pc' := 5) (x := a24) kc_113_4 rfl rfl ?_
  obtain ⟨u31, u32, bu31, bu32, A33⟩ := xq_1 K.1
  refine xi_virtual (mj := 108) (as := [.int a24]) (st1 := []) (lv0 := [(0, .ref 1), (1, .int a24)]) kc_113_5 rfl rfl rfl rfl rfl A33 (Nat.le_of_ble_eq_true rfl) (hJ _ _ _ _ (by decide)) (xm_le ml_108 rfl) rfl ?_
  refine xi_iload_n (pc' := 1) (x := a24) kc_108_0 rfl rfl ?_
  refine xi_static (mj := 104) (as := [.int a24]) (st1 := []) (lv0 := [(0, .int a24)]) kc_108_1 rfl rfl (Nat.le_of_ble_eq_true rfl) rfl rfl (Nat.le_of_ble_eq_true rfl) (hJ _ _ _ _ (by decide)) (xm_le ml_104 rfl) rfl ?_
  refine xi_iload_n (pc' := 1) (x := a24) kc_104_0 rfl rfl ?_
  by_cases c34 : a24.toInt < 0
  · refine xi_ift (pc' := 14) kc_104_1 rfl (xc_lt_t (X := a24.toInt) (Y := 0) rfl (by decide) (by omega)) ?_
    refine xi_iconst (pc' := 15) (v := 0) kc_104_14 rfl rfl ?_
    refine xi_ireturn kc_104_15 mr_104 rfl ?_
    show xw J ov 98 108 (4, [(0, .ref 1), (1, .int a24)], [.int 0], h) _
    refine xi_ift (pc' := 23) kc_108_4 rfl rfl ?_
    refine xi_iconst (pc' := 24) (v := 0) kc_108_23 rfl rfl ?_
    refine xi_ireturn kc_108_24 mr_108 rfl ?_
    show xw J ov 99 113 (8, [(0, .ref 0), (1, .int a24), (2, .int a26), (3, .int a28), (4, .int a30)], [.int 0], h) _
    refine xi_iff (pc' := 11) kc_113_8 rfl rfl ?_
    refine xi_aload_n (pc' := 12) (x := 0) kc_113_11 rfl rfl ?_
    refine xi_iconst (pc' := 13) (v := (-1)) kc_113_12 rfl rfl ?_
    refine xi_virtual (mj := 90) (as := [.int (-1)]) (st1 := []) (lv0 := [(0, .ref 0), (1, .int (-1))]) kc_113_13 rfl rfl rfl rfl rfl A3 (Nat.le_of_ble_eq_true rfl) (hJ _ _ _ _ (by decide)) (xm_le ml_90 rfl) rfl ?_
    refine xi_iload_n (pc' := 1) (x := (-1)) kc_90_0 rfl rfl ?_
    refine xi_ineg (pc' := 2) (v := 1) kc_90_1 rfl rfl ?_
    refine xi_istore_n (pc' := 3) (lv' := [(2, .int 1), (0, .ref 0), (1, .int (-1))]) kc_90_2 rfl rfl (xm_lt ml_90 rfl) ?_
    refine xi_iload_n (pc' := 4) (x := 1) kc_90_3 rfl rfl ?_
    refine xi_iff (pc' := 7) kc_90_4 rfl rfl ?_
    refine xi_iload_n (pc' := 8) (x := 1) kc_90_7 rfl rfl ?_
    refine xi_aload_n (pc' := 9) (x := 0) kc_90_8 rfl rfl ?_
    refine xi_getfield (pc' := 12) (v := .ref 94) kc_90_9 rfl rfl rfl A3 rfl ?_
    obtain ⟨y35, A35, hy35, ry35⟩ := xk_arr K.1 xD_94
    refine xi_arraylength (pc' := 13) (n := 7) (v := 7) kc_90_12 rfl (xl_lenI (by decide) (by decide) A35 hy35) rfl ?_
    refine xi_cmf (pc' := 16) kc_90_13 rfl rfl ?_
    refine xi_aload_n (pc' := 17) (x := 0) kc_90_16 rfl rfl ?_
    refine xi_getfield (pc' := 20) (v := .ref 94) kc_90_17 rfl rfl rfl A3 rfl ?_
    refine xi_iload_n (pc' := 21) (x := 1) kc_90_20 rfl rfl ?_
    refine xi_dup2 (pc' := 22) kc_90_21 rfl ⟨rfl, rfl⟩ ?_
    obtain ⟨v36, ev36, bv36, dv36⟩ := xj_get hy35 ry35 (i := 1) (by decide) (by decide)
    refine xi_iaload (pc' := 23) (v := v36) kc_90_22 rfl A35 (by decide) rfl (xi_in (by decide) (by rw [hy35]; decide)) ev36 ?_
    refine xi_iconst (pc' := 24) (v := 1) kc_90_23 rfl rfl ?_
    obtain ⟨v37, ev37⟩ : ∃ q : Int32, (v36 : Int32) + 1 = q := ⟨_, rfl⟩
    have rv37 := xc_rng v37
    refine xi_iadd (pc' := 25) (v := v37) kc_90_24 rfl ev37 ?_
    obtain ⟨y38, s38, hy38, ry38⟩ := xj_set (v := v37) hy35 ry35 1 (by first | omega | decide) (by first | omega | decide)
    refine xi_iastore (pc' := 26) (x' := y38) kc_90_25 rfl A35 rfl (xi_in (by decide) (by rw [hy35]; decide)) s38 (fun hh38 eh38 => ?_)
    have K39 := xk_pa K (xk_wa rfl) xD_94 hy38 ry38 eh38
    refine xi_iload_n (pc' := 27) (x := (-1)) kc_90_26 rfl rfl ?_
    refine xi_ireturn kc_90_27 mr_90 rfl ?_
    show xw J ov 99 113 (16, [(0, .ref 0), (1, .int a24), (2, .int a26), (3, .int a28), (4, .int a30)], [.int (-1)], hh38) _
    refine xi_ireturn kc_113_16 mr_113 rfl ?_
    show xw J ov 100 195 (618, [(4, .int x4), (3, .ref 167), (2, .ref 115), (1, .ref 0), (0, .ref 1000000)], [.int (-1)], hh38) _
    refine xi_aload_n (pc' := 619) (x := 115) kc_195_618 rfl rfl ?_
    refine xi_aload_n (pc' := 620) (x := 1000000) kc_195_619 rfl rfl ?_
    refine xi_iload (pc' := 622) (x := x4) kc_195_620 rfl rfl ?_
    refine xi_iconst (pc' := 623) (v := 1) kc_195_622 rfl rfl ?_
    refine xi_iadd (pc' := 624) (v := v23) kc_195_623 rfl ev23 ?_
    refine xi_ialoadO (pc' := 625) (v := a24) kc_195_624 rfl (by decide) hov0 (xi_in (by omega) (by omega)) ea24 ?_
    refine xi_aload_n (pc' := 626) (x := 1000000) kc_195_625 rfl rfl ?_
    refine xi_iload (pc' := 628) (x := x4) kc_195_626 rfl rfl ?_
    refine xi_iconst (pc' := 629) (v := 2) kc_195_628 rfl rfl ?_
    refine xi_iadd (pc' := 630) (v := v25) kc_195_629 rfl ev25 ?_
    refine xi_ialoadO (pc' := 631) (v := a26) kc_195_630 rfl (by decide) hov0 (xi_in (by omega) (by omega)) ea26 ?_
    refine xi_aload_n (pc' := 632) (x := 1000000) kc_195_631 rfl rfl ?_
    refine xi_iload (pc' := 634) (x := x4) kc_195_632 rfl rfl ?_
    refine xi_iconst (pc' := 635) (v := 3) kc_195_634 rfl rfl ?_
    refine xi_iadd (pc' := 636) (v := v27) kc_195_635 rfl ev27 ?_
    refine xi_ialoadO (pc' := 637) (v := a28) kc_195_636 rfl (by decide) hov0 (xi_in (by omega) (by omega)) ea28 ?_
    refine xi_aload_n (pc' := 638) (x := 1000000) kc_195_637 rfl rfl ?_
    refine xi_iload (pc' := 640) (x := x4) kc_195_638 rfl rfl ?_
    refine xi_iconst (pc' := 641) (v := 4) kc_195_640 rfl rfl ?_
    refine xi_iadd (pc' := 642) (v := v29) kc_195_641 rfl ev29 ?_
    refine xi_ialoadO (pc' := 643) (v := a30) kc_195_642 rfl (by decide) hov0 (xi_in (by omega) (by omega)) ea30 ?_
    have A40 := ((eh38.2.1 115 (by decide)).trans A17)
    refine xi_virtual (mj := 30) (as := [.int a24, .int a26, .int a28, .int a30]) (st1 := [.int (-1)]) (lv0 := [(0, .ref 115), (1, .int a24), (2, .int a26), (3, .int a28), (4, .int a30)]) kc_195_643 rfl rfl rfl rfl rfl A40 (Nat.le_of_ble_eq_true rfl) (hJ _ _ _ _ (by decide)) (xm_le ml_30 rfl) rfl ?_
    refine xi_aload_n (pc' := 1) (x := 115) kc_30_0 rfl rfl ?_
    refine xi_iconst (pc' := 2) (v := 0) kc_30_1 rfl rfl ?_
    refine xi_putfield (pc' := 5) (fs' := [.int 0, .int u2, .ref 116, .ref 117, .ref 118, .ref 119, .ref 120, .ref 121, .ref 122, .ref 123, .ref 124, .ref 125, .ref 126, .ref 127, .ref 128, .ref 129, .int u6, .ref 130, .int u19, .ref 131, .ref 132, .ref 133, .ref 134, .int u8, .ref 135, .ref 136, .ref 137, .ref 138, .ref 139, .ref 140, .ref 141, .ref 142, .int u9, .int u10, .int u11, .ref 143, .ref 144, .ref 145, .ref 146, .ref 147, .ref 148, .int u12, .ref 149, .ref 150, .ref 151, .int u13, .ref 152, .ref 153, .ref 154, .ref 155, .ref 156, .ref 157, .ref 158, .ref 159, .int u14, .ref 160, .int u15, .ref 161, .ref 162, .ref 163, .ref 164, .int u16, .ref 165, .ref 166]) kc_30_2 rfl rfl rfl A40 rfl rfl rfl (Nat.le_of_ble_eq_true rfl) rfl (fun hh42 eh41 => ?_)
    have K43 := xk_pf (k := 0) (v := 0) K39 (xk_wf rfl) xD_115 A40 rfl (by first | omega | decide) (by first | omega | decide) eh41 rfl
    refine xi_aload_n (pc' := 6) (x := 115) kc_30_5 rfl rfl ?_
    refine xi_iload_n (pc' := 7) (x := a24) kc_30_6 rfl rfl ?_
    refine xi_virtual (mj := 31) (as := [.int a24]) (st1 := []) (lv0 := [(0, .ref 115), (1, .int a24)]) kc_30_7 rfl rfl rfl rfl rfl eh41.1 (Nat.le_of_ble_eq_true rfl) (hJ _ _ _ _ (by decide)) (xm_le ml_31 rfl) rfl ?_
    refine xi_iload_n (pc' := 1) (x := a24) kc_31_0 rfl rfl ?_
    refine xi_static (mj := 24) (as := [.int a24]) (st1 := []) (lv0 := [(0, .int a24)]) kc_31_1 rfl rfl (Nat.le_of_ble_eq_true rfl) rfl rfl (Nat.le_of_ble_eq_true rfl) (hJ _ _ _ _ (by decide)) (xm_le ml_24 rfl) rfl ?_
    refine xi_iload_n (pc' := 1) (x := a24) kc_24_0 rfl rfl ?_
    refine xi_iconst (pc' := 2) (v := 0) kc_24_1 rfl rfl ?_
    refine xi_bipush (pc' := 4) (v := 11) kc_24_2 rfl rfl ?_
    refine xi_static (mj := 11) (as := [.int a24, .int 0, .int 11]) (st1 := []) (lv0 := [(0, .int a24), (1, .int 0), (2, .int 11)]) kc_24_4 rfl rfl (Nat.le_of_ble_eq_true rfl) rfl rfl (Nat.le_of_ble_eq_true rfl) (hJ _ _ _ _ (by decide)) (xm_le ml_11 rfl) rfl ?_
    refine xi_iload_n (pc' := 1) (x := a24) kc_11_0 rfl rfl ?_
    refine xi_iload_n (pc' := 2) (x := 0) kc_11_1 rfl rfl ?_
    refine xi_cmt (pc' := 14) kc_11_2 rfl (xc_lt_t (X := a24.toInt) (Y := 0) rfl (by decide) (by omega)) ?_
    refine xi_iconst (pc' := 15) (v := 0) kc_11_14 rfl rfl ?_
    refine xi_ireturn kc_11_15 mr_11 rfl ?_
    show xw J ov 97 24 (7, [(0, .int a24)], [.int 0], hh42) _
    refine xi_ireturn kc_24_7 mr_24 rfl ?_
    show xw J ov 98 31 (4, [(0, .ref 115), (1, .int a24)], [.int 0], hh42) _
    refine xi_ift (pc' := 20) kc_31_4 rfl rfl ?_
    refine xi_iconst (pc' := 21) (v := 0) kc_31_20 rfl rfl ?_
    refine xi_ireturn kc_31_21 mr_31 rfl ?_
    show xw J ov 99 30 (10, [(0, .ref 115), (1, .int a24), (2, .int a26), (3, .int a28), (4, .int a30)], [.int 0], hh42) _
    refine xi_iff (pc' := 13) kc_30_10 rfl rfl ?_
    refine xi_aload_n (pc' := 14) (x := 115) kc_30_13 rfl rfl ?_
    refine xi_iconst (pc' := 15) (v := (-1)) kc_30_14 rfl rfl ?_
    refine xi_virtual (mj := 12) (as := [.int (-1)]) (st1 := []) (lv0 := [(0, .ref 115), (1, .int (-1))]) kc_30_15 rfl rfl rfl rfl rfl eh41.1 (Nat.le_of_ble_eq_true rfl) (hJ _ _ _ _ (by decide)) (xm_le ml_12 rfl) rfl ?_
    refine xi_aload_n (pc' := 1) (x := 115) kc_12_0 rfl rfl ?_
    refine xi_getfield (pc' := 4) (v := .ref 140) kc_12_1 rfl rfl rfl eh41.1 rfl ?_
    refine xi_iload_n (pc' := 5) (x := (-1)) kc_12_4 rfl rfl ?_
    refine xi_ineg (pc' := 6) (v := 1) kc_12_5 rfl rfl ?_
    refine xi_dup2 (pc' := 7) kc_12_6 rfl ⟨rfl, rfl⟩ ?_
    obtain ⟨y44, A44, hy44, ry44⟩ := xk_arr K.1 xD_140
    obtain ⟨v45, ev45, bv45, dv45⟩ := xj_get hy44 ry44 (i := 1) (by decide) (by decide)
    have A46 := ((eh41.2.1 140 (by decide)).trans ((eh38.2.1 140 (by decide)).trans A44))
    refine xi_iaload (pc' := 8) (v := v45) kc_12_7 rfl A46 (by decide) rfl (xi_in (by decide) (by rw [hy44]; decide)) ev45 ?_
    refine xi_iconst (pc' := 9) (v := 1) kc_12_8 rfl rfl ?_
    obtain ⟨v47, ev47⟩ : ∃ q : Int32, (v45 : Int32) + 1 = q := ⟨_, rfl⟩
    have rv47 := xc_rng v47
    refine xi_iadd (pc' := 10) (v := v47) kc_12_9 rfl ev47 ?_
    obtain ⟨y48, s48, hy48, ry48⟩ := xj_set (v := v47) hy44 ry44 1 (by first | omega | decide) (by first | omega | decide)
    refine xi_iastore (pc' := 11) (x' := y48) kc_12_10 rfl A46 rfl (xi_in (by decide) (by rw [hy44]; decide)) s48 (fun hh48 eh48 => ?_)
    have K49 := xk_pa K43 (xk_wa rfl) xD_140 hy48 ry48 eh48
    refine xi_iload_n (pc' := 12) (x := (-1)) kc_12_11 rfl rfl ?_
    refine xi_ireturn kc_12_12 mr_12 rfl ?_
    show xw J ov 99 30 (18, [(0, .ref 115), (1, .int a24), (2, .int a26), (3, .int a28), (4, .int a30)], [.int (-1)], hh48) _
    refine xi_ireturn kc_30_18 mr_30 rfl ?_
    show xw J ov 100 195 (646, [(4, .int x4), (3, .ref 167), (2, .ref 115), (1, .ref 0), (0, .ref 1000000)], [.int (-1), .int (-1)], hh48) _
    refine xi_cmt (pc' := 1501) kc_195_646 rfl rfl ?_
    obtain ⟨v50, ev50⟩ : ∃ q : Int32, x4 + 6 = q := ⟨_, rfl⟩
    have zv50 : v50.toInt = (x4.toInt + 6) := by rw [← ev50]; exact (xz_add (X := x4.toInt) (Y := 6) rfl (by decide) (by omega) (by omega)).trans (by omega)
    refine xi_iinc (pc' := 1504) (x := x4) (v := v50) (lv' := [(4, .int v50), (3, .ref 167), (2, .ref 115), (1, .ref 0), (0, .ref 1000000)]) kc_195_1501 rfl rfl ev50 rfl (xm_lt ml_195 rfl) ?_
    refine xi_goto (pc' := 23) kc_195_1504 rfl ?_
    have A51 := ((eh48.2.1 0 (by decide)).trans ((eh41.2.1 0 (by decide)).trans ((eh38.2.1 0 (by decide)).trans A3)))
    have A52 := ((eh48.2.1 115 (by decide)).trans eh41.1)
    have A53 := ((eh48.2.1 66 (by decide)).trans ((eh41.2.1 66 (by decide)).trans ((eh38.2.1 66 (by decide)).trans A20)))
    have A54 := ((eh48.2.1 71 (by decide)).trans ((eh41.2.1 71 (by decide)).trans ((eh38.2.1 71 (by decide)).trans A21)))
    have A55 := ((eh48.2.1 132 (by decide)).trans ((eh41.2.1 132 (by decide)).trans ((eh38.2.1 132 (by decide)).trans A22)))
    exact kk v50 hh48 (by omega) K49 ⟨(xGR_kept I.1 (fun c hc => ((eh48.2.1 c (Ne.symm (xk_nc hc rfl))).trans ((eh41.2.1 c (Ne.symm (xk_nc hc rfl))).trans (eh38.2.1 c (Ne.symm (xk_nc hc rfl)))))) ((eh48.2.1 125 (by decide)).trans ((eh41.2.1 125 (by decide)).trans (eh38.2.1 125 (by decide))))), ((xl_of A51 rfl).trans (xl_of A52 rfl).symm), ((xl_of A53 rfl).trans (xl_of A52 rfl).symm), ((xl_arr A54).trans (xl_arr A55).symm)⟩
  · refine xi_iff (pc' := 4) kc_104_1 rfl (xc_lt_f (X := a24.toInt) (Y := 0) rfl (by decide) (by omega)) ?_
    refine xi_iload_n (pc' := 5) (x := a24) kc_104_4 rfl rfl ?_
    refine xi_bipush (pc' := 7) (v := 12) kc_104_5 rfl rfl ?_
    by_cases c56 : 12 ≤ a24.toInt
    · refine xi_cmt (pc' := 14) kc_104_7 rfl (xc_ge_t (X := a24.toInt) (Y := 12) rfl (by decide) (by omega)) ?_
      refine xi_iconst (pc' := 15) (v := 0) kc_104_14 rfl rfl ?_
      refine xi_ireturn kc_104_15 mr_104 rfl ?_
      show xw J ov 98 108 (4, [(0, .ref 1), (1, .int a24)], [.int 0], h) _
      refine xi_ift (pc' := 23) kc_108_4 rfl rfl ?_
      refine xi_iconst (pc' := 24) (v := 0) kc_108_23 rfl rfl ?_
      refine xi_ireturn kc_108_24 mr_108 rfl ?_
      show xw J ov 99 113 (8, [(0, .ref 0), (1, .int a24), (2, .int a26), (3, .int a28), (4, .int a30)], [.int 0], h) _
      refine xi_iff (pc' := 11) kc_113_8 rfl rfl ?_
      refine xi_aload_n (pc' := 12) (x := 0) kc_113_11 rfl rfl ?_
      refine xi_iconst (pc' := 13) (v := (-1)) kc_113_12 rfl rfl ?_
      refine xi_virtual (mj := 90) (as := [.int (-1)]) (st1 := []) (lv0 := [(0, .ref 0), (1, .int (-1))]) kc_113_13 rfl rfl rfl rfl rfl A3 (Nat.le_of_ble_eq_true rfl) (hJ _ _ _ _ (by decide)) (xm_le ml_90 rfl) rfl ?_
      refine xi_iload_n (pc' := 1) (x := (-1)) kc_90_0 rfl rfl ?_
      refine xi_ineg (pc' := 2) (v := 1) kc_90_1 rfl rfl ?_
      refine xi_istore_n (pc' := 3) (lv' := [(2, .int 1), (0, .ref 0), (1, .int (-1))]) kc_90_2 rfl rfl (xm_lt ml_90 rfl) ?_
      refine xi_iload_n (pc' := 4) (x := 1) kc_90_3 rfl rfl ?_
      refine xi_iff (pc' := 7) kc_90_4 rfl rfl ?_
      refine xi_iload_n (pc' := 8) (x := 1) kc_90_7 rfl rfl ?_
      refine xi_aload_n (pc' := 9) (x := 0) kc_90_8 rfl rfl ?_
      refine xi_getfield (pc' := 12) (v := .ref 94) kc_90_9 rfl rfl rfl A3 rfl ?_
      obtain ⟨y57, A57, hy57, ry57⟩ := xk_arr K.1 xD_94
      refine xi_arraylength (pc' := 13) (n := 7) (v := 7) kc_90_12 rfl (xl_lenI (by decide) (by decide) A57 hy57) rfl ?_
      refine xi_cmf (pc' := 16) kc_90_13 rfl rfl ?_
      refine xi_aload_n (pc' := 17) (x := 0) kc_90_16 rfl rfl ?_
      refine xi_getfield (pc' := 20) (v := .ref 94) kc_90_17 rfl rfl rfl A3 rfl ?_
      refine xi_iload_n (pc' := 21) (x := 1) kc_90_20 rfl rfl ?_
      refine xi_dup2 (pc' := 22) kc_90_21 rfl ⟨rfl, rfl⟩ ?_
      obtain ⟨v58, ev58, bv58, dv58⟩ := xj_get hy57 ry57 (i := 1) (by decide) (by decide)
      refine xi_iaload (pc' := 23) (v := v58) kc_90_22 rfl A57 (by decide) rfl (xi_in (by decide) (by rw [hy57]; decide)) ev58 ?_
      refine xi_iconst (pc' := 24) (v := 1) kc_90_23 rfl rfl ?_
      obtain ⟨v59, ev59⟩ : ∃ q : Int32, (v58 : Int32) + 1 = q := ⟨_, rfl⟩
      have rv59 := xc_rng v59
      refine xi_iadd (pc' := 25) (v := v59) kc_90_24 rfl ev59 ?_
      obtain ⟨y60, s60, hy60, ry60⟩ := xj_set (v := v59) hy57 ry57 1 (by first | omega | decide) (by first | omega | decide)
      refine xi_iastore (pc' := 26) (x' := y60) kc_90_25 rfl A57 rfl (xi_in (by decide) (by rw [hy57]; decide)) s60 (fun hh60 eh60 => ?_)
      have K61 := xk_pa K (xk_wa rfl) xD_94 hy60 ry60 eh60
      refine xi_iload_n (pc' := 27) (x := (-1)) kc_90_26 rfl rfl ?_
      refine xi_ireturn kc_90_27 mr_90 rfl ?_
      show xw J ov 99 113 (16, [(0, .ref 0), (1, .int a24), (2, .int a26), (3, .int a28), (4, .int a30)], [.int (-1)], hh60) _
      refine xi_ireturn kc_113_16 mr_113 rfl ?_
      show xw J ov 100 195 (618, [(4, .int x4), (3, .ref 167), (2, .ref 115), (1, .ref 0), (0, .ref 1000000)], [.int (-1)], hh60) _
      refine xi_aload_n (pc' := 619) (x := 115) kc_195_618 rfl rfl ?_
      refine xi_aload_n (pc' := 620) (x := 1000000) kc_195_619 rfl rfl ?_
      refine xi_iload (pc' := 622) (x := x4) kc_195_620 rfl rfl ?_
      refine xi_iconst (pc' := 623) (v := 1) kc_195_622 rfl rfl ?_
      refine xi_iadd (pc' := 624) (v := v23) kc_195_623 rfl ev23 ?_
      refine xi_ialoadO (pc' := 625) (v := a24) kc_195_624 rfl (by decide) hov0 (xi_in (by omega) (by omega)) ea24 ?_
      refine xi_aload_n (pc' := 626) (x := 1000000) kc_195_625 rfl rfl ?_
      refine xi_iload (pc' := 628) (x := x4) kc_195_626 rfl rfl ?_
      refine xi_iconst (pc' := 629) (v := 2) kc_195_628 rfl rfl ?_
      refine xi_iadd (pc' := 630) (v := v25) kc_195_629 rfl ev25 ?_
      refine xi_ialoadO (pc' := 631) (v := a26) kc_195_630 rfl (by decide) hov0 (xi_in (by omega) (by omega)) ea26 ?_
      refine xi_aload_n (pc' := 632) (x := 1000000) kc_195_631 rfl rfl ?_
      refine xi_iload (pc' := 634) (x := x4) kc_195_632 rfl rfl ?_
      refine xi_iconst (pc' := 635) (v := 3) kc_195_634 rfl rfl ?_
      refine xi_iadd (pc' := 636) (v := v27) kc_195_635 rfl ev27 ?_
      refine xi_ialoadO (pc' := 637) (v := a28) kc_195_636 rfl (by decide) hov0 (xi_in (by omega) (by omega)) ea28 ?_
      refine xi_aload_n (pc' := 638) (x := 1000000) kc_195_637 rfl rfl ?_
      refine xi_iload (pc' := 640) (x := x4) kc_195_638 rfl rfl ?_
      refine xi_iconst (pc' := 641) (v := 4) kc_195_640 rfl rfl ?_
      refine xi_iadd (pc' := 642) (v := v29) kc_195_641 rfl ev29 ?_
      refine xi_ialoadO (pc' := 643) (v := a30) kc_195_642 rfl (by decide) hov0 (xi_in (by omega) (by omega)) ea30 ?_
      have A62 := ((eh60.2.1 115 (by decide)).trans A17)
      refine xi_virtual (mj := 30) (as := [.int a24, .int a26, .int a28, .int a30]) (st1 := [.int (-1)]) (lv0 := [(0, .ref 115), (1, .int a24), (2, .int a26), (3, .int a28), (4, .int a30)]) kc_195_643 rfl rfl rfl rfl rfl A62 (Nat.le_of_ble_eq_true rfl) (hJ _ _ _ _ (by decide)) (xm_le ml_30 rfl) rfl ?_
      refine xi_aload_n (pc' := 1) (x := 115) kc_30_0 rfl rfl ?_
      refine xi_iconst (pc' := 2) (v := 0) kc_30_1 rfl rfl ?_
      refine xi_putfield (pc' := 5) (fs' := [.int 0, .int u2, .ref 116, .ref 117, .ref 118, .ref 119, .ref 120, .ref 121, .ref 122, .ref 123, .ref 124, .ref 125, .ref 126, .ref 127, .ref 128, .ref 129, .int u6, .ref 130, .int u19, .ref 131, .ref 132, .ref 133, .ref 134, .int u8, .ref 135, .ref 136, .ref 137, .ref 138, .ref 139, .ref 140, .ref 141, .ref 142, .int u9, .int u10, .int u11, .ref 143, .ref 144, .ref 145, .ref 146, .ref 147, .ref 148, .int u12, .ref 149, .ref 150, .ref 151, .int u13, .ref 152, .ref 153, .ref 154, .ref 155, .ref 156, .ref 157, .ref 158, .ref 159, .int u14, .ref 160, .int u15, .ref 161, .ref 162, .ref 163, .ref 164, .int u16, .ref 165, .ref 166]) kc_30_2 rfl rfl rfl A62 rfl rfl rfl (Nat.le_of_ble_eq_true rfl) rfl (fun hh64 eh63 => ?_)
      have K65 := xk_pf (k := 0) (v := 0) K61 (xk_wf rfl) xD_115 A62 rfl (by first | omega | decide) (by first | omega | decide) eh63 rfl
      refine xi_aload_n (pc' := 6) (x := 115) kc_30_5 rfl rfl ?_
      refine xi_iload_n (pc' := 7) (x := a24) kc_30_6 rfl rfl ?_
      refine xi_virtual (mj := 31) (as := [.int a24]) (st1 := []) (lv0 := [(0, .ref 115), (1, .int a24)]) kc_30_7 rfl rfl rfl rfl rfl eh63.1 (Nat.le_of_ble_eq_true rfl) (hJ _ _ _ _ (by decide)) (xm_le ml_31 rfl) rfl ?_
      refine xi_iload_n (pc' := 1) (x := a24) kc_31_0 rfl rfl ?_
      refine xi_static (mj := 24) (as := [.int a24]) (st1 := []) (lv0 := [(0, .int a24)]) kc_31_1 rfl rfl (Nat.le_of_ble_eq_true rfl) rfl rfl (Nat.le_of_ble_eq_true rfl) (hJ _ _ _ _ (by decide)) (xm_le ml_24 rfl) rfl ?_
      refine xi_iload_n (pc' := 1) (x := a24) kc_24_0 rfl rfl ?_
      refine xi_iconst (pc' := 2) (v := 0) kc_24_1 rfl rfl ?_
      refine xi_bipush (pc' := 4) (v := 11) kc_24_2 rfl rfl ?_
      refine xi_static (mj := 11) (as := [.int a24, .int 0, .int 11]) (st1 := []) (lv0 := [(0, .int a24), (1, .int 0), (2, .int 11)]) kc_24_4 rfl rfl (Nat.le_of_ble_eq_true rfl) rfl rfl (Nat.le_of_ble_eq_true rfl) (hJ _ _ _ _ (by decide)) (xm_le ml_11 rfl) rfl ?_
      refine xi_iload_n (pc' := 1) (x := a24) kc_11_0 rfl rfl ?_
      refine xi_iload_n (pc' := 2) (x := 0) kc_11_1 rfl rfl ?_
      refine xi_cmf (pc' := 5) kc_11_2 rfl (xc_lt_f (X := a24.toInt) (Y := 0) rfl (by decide) (by omega)) ?_
      refine xi_iload_n (pc' := 6) (x := a24) kc_11_5 rfl rfl ?_
      refine xi_iload_n (pc' := 7) (x := 11) kc_11_6 rfl rfl ?_
      refine xi_cmt (pc' := 14) kc_11_7 rfl (xc_gt_t (X := a24.toInt) (Y := 11) rfl (by decide) (by omega)) ?_
      refine xi_iconst (pc' := 15) (v := 0) kc_11_14 rfl rfl ?_
      refine xi_ireturn kc_11_15 mr_11 rfl ?_
      show xw J ov 97 24 (7, [(0, .int a24)], [.int 0], hh64) _
      refine xi_ireturn kc_24_7 mr_24 rfl ?_
      show xw J ov 98 31 (4, [(0, .ref 115), (1, .int a24)], [.int 0], hh64) _
      refine xi_ift (pc' := 20) kc_31_4 rfl rfl ?_
      refine xi_iconst (pc' := 21) (v := 0) kc_31_20 rfl rfl ?_
      refine xi_ireturn kc_31_21 mr_31 rfl ?_
      show xw J ov 99 30 (10, [(0, .ref 115), (1, .int a24), (2, .int a26), (3, .int a28), (4, .int a30)], [.int 0], hh64) _
      refine xi_iff (pc' := 13) kc_30_10 rfl rfl ?_
      refine xi_aload_n (pc' := 14) (x := 115) kc_30_13 rfl rfl ?_
      refine xi_iconst (pc' := 15) (v := (-1)) kc_30_14 rfl rfl ?_
      refine xi_virtual (mj := 12) (as := [.int (-1)]) (st1 := []) (lv0 := [(0, .ref 115), (1, .int (-1))]) kc_30_15 rfl rfl rfl rfl rfl eh63.1 (Nat.le_of_ble_eq_true rfl) (hJ _ _ _ _ (by decide)) (xm_le ml_12 rfl) rfl ?_
      refine xi_aload_n (pc' := 1) (x := 115) kc_12_0 rfl rfl ?_
      refine xi_getfield (pc' := 4) (v := .ref 140) kc_12_1 rfl rfl rfl eh63.1 rfl ?_
      refine xi_iload_n (pc' := 5) (x := (-1)) kc_12_4 rfl rfl ?_
      refine xi_ineg (pc' := 6) (v := 1) kc_12_5 rfl rfl ?_
      refine xi_dup2 (pc' := 7) kc_12_6 rfl ⟨rfl, rfl⟩ ?_
      obtain ⟨y66, A66, hy66, ry66⟩ := xk_arr K.1 xD_140
      obtain ⟨v67, ev67, bv67, dv67⟩ := xj_get hy66 ry66 (i := 1) (by decide) (by decide)
      have A68 := ((eh63.2.1 140 (by decide)).trans ((eh60.2.1 140 (by decide)).trans A66))
      refine xi_iaload (pc' := 8) (v := v67) kc_12_7 rfl A68 (by decide) rfl (xi_in (by decide) (by rw [hy66]; decide)) ev67 ?_
      refine xi_iconst (pc' := 9) (v := 1) kc_12_8 rfl rfl ?_
      obtain ⟨v69, ev69⟩ : ∃ q : Int32, (v67 : Int32) + 1 = q := ⟨_, rfl⟩
      have rv69 := xc_rng v69
      refine xi_iadd (pc' := 10) (v := v69) kc_12_9 rfl ev69 ?_
      obtain ⟨y70, s70, hy70, ry70⟩ := xj_set (v := v69) hy66 ry66 1 (by first | omega | decide) (by first | omega | decide)
      refine xi_iastore (pc' := 11) (x' := y70) kc_12_10 rfl A68 rfl (xi_in (by decide) (by rw [hy66]; decide)) s70 (fun hh70 eh70 => ?_)
      have K71 := xk_pa K65 (xk_wa rfl) xD_140 hy70 ry70 eh70
      refine xi_iload_n (pc' := 12) (x := (-1)) kc_12_11 rfl rfl ?_
      refine xi_ireturn kc_12_12 mr_12 rfl ?_
      show xw J ov 99 30 (18, [(0, .ref 115), (1, .int a24), (2, .int a26), (3, .int a28), (4, .int a30)], [.int (-1)], hh70) _
      refine xi_ireturn kc_30_18 mr_30 rfl ?_
      show xw J ov 100 195 (646, [(4, .int x4), (3, .ref 167), (2, .ref 115), (1, .ref 0), (0, .ref 1000000)], [.int (-1), .int (-1)], hh70) _
      refine xi_cmt (pc' := 1501) kc_195_646 rfl rfl ?_
      obtain ⟨v72, ev72⟩ : ∃ q : Int32, x4 + 6 = q := ⟨_, rfl⟩
      have zv72 : v72.toInt = (x4.toInt + 6) := by rw [← ev72]; exact (xz_add (X := x4.toInt) (Y := 6) rfl (by decide) (by omega) (by omega)).trans (by omega)
      refine xi_iinc (pc' := 1504) (x := x4) (v := v72) (lv' := [(4, .int v72), (3, .ref 167), (2, .ref 115), (1, .ref 0), (0, .ref 1000000)]) kc_195_1501 rfl rfl ev72 rfl (xm_lt ml_195 rfl) ?_
      refine xi_goto (pc' := 23) kc_195_1504 rfl ?_
      have A73 := ((eh70.2.1 0 (by decide)).trans ((eh63.2.1 0 (by decide)).trans ((eh60.2.1 0 (by decide)).trans A3)))
      have A74 := ((eh70.2.1 115 (by decide)).trans eh63.1)
      have A75 := ((eh70.2.1 66 (by decide)).trans ((eh63.2.1 66 (by decide)).trans ((eh60.2.1 66 (by decide)).trans A20)))
      have A76 := ((eh70.2.1 71 (by decide)).trans ((eh63.2.1 71 (by decide)).trans ((eh60.2.1 71 (by decide)).trans A21)))
      have A77 := ((eh70.2.1 132 (by decide)).trans ((eh63.2.1 132 (by decide)).trans ((eh60.2.1 132 (by decide)).trans A22)))
      exact kk v72 hh70 (by omega) K71 ⟨(xGR_kept I.1 (fun c hc => ((eh70.2.1 c (Ne.symm (xk_nc hc rfl))).trans ((eh63.2.1 c (Ne.symm (xk_nc hc rfl))).trans (eh60.2.1 c (Ne.symm (xk_nc hc rfl)))))) ((eh70.2.1 125 (by decide)).trans ((eh63.2.1 125 (by decide)).trans (eh60.2.1 125 (by decide))))), ((xl_of A73 rfl).trans (xl_of A74 rfl).symm), ((xl_of A75 rfl).trans (xl_of A74 rfl).symm), ((xl_arr A76).trans (xl_arr A77).symm)⟩
    · refine xi_cmf (pc' := 10) kc_104_7 rfl (xc_ge_f (X := a24.toInt) (Y := 12) rfl (by decide) (by omega)) ?_
      refine xi_iconst (pc' := 11) (v := 1) kc_104_10 rfl rfl ?_
      refine xi_goto (pc' := 15) kc_104_11 rfl ?_
      refine xi_ireturn kc_104_15 mr_104 rfl ?_
      show xw J ov 98 108 (4, [(0, .ref 1), (1, .int a24)], [.int 1], h) _
      refine xi_iff (pc' := 7) kc_108_4 rfl rfl ?_
      refine xi_aload_n (pc' := 8) (x := 1) kc_108_7 rfl rfl ?_
      refine xi_getfield (pc' := 11) (v := .ref 3) kc_108_8 rfl rfl rfl A33 rfl ?_
      refine xi_iload_n (pc' := 12) (x := a24) kc_108_11 rfl rfl ?_
      have A78 := xk_ex K.1 xD_3
      obtain ⟨pt79, ept79, mpt79⟩ := xR_3 (i := a24) (by omega) (by omega)
      refine xj_aaload (pc' := 13) (b := pt79) kc_108_12 rfl A78 rfl (xi_in (n := 12) (by omega) (by omega)) ept79 ?_
      obtain ⟨u80, u81, u82, u83, pt84, bu80, bu81, bu82, bu83, mpt84, A85⟩ := xg_wall K.1 mpt79
      obtain ⟨y86, A86, hy86, ry86⟩ := xk_arr K.1 xD_125
      have HG87 : y86.getD (Int32.toNatClampNeg a24) 0 = u80 := xGR_ld (Lo := [some 29, some 31, some 33, some 35, some 37, some 39, some 41, some 43, some 45, some 47, some 49, some 51]) I.1 rfl ept79 (by omega) (by show _ < ((12 : Nat) : Int); omega) A85 rfl A86
      have bHG87 : (-9) ≤ u80.toInt ∧ u80.toInt ≤ 5 := by rw [← HG87]; exact ry86 _ (xj_nat (n := 12) (by omega) (by omega))
      refine xi_virtual (mj := 105) (as := []) (st1 := []) (lv0 := [(0, .ref pt79)]) kc_108_13 rfl rfl rfl rfl rfl A85 (Nat.le_of_ble_eq_true rfl) (hJ _ _ _ _ (by decide)) (xm_le ml_105 rfl) rfl ?_
      refine xi_aload_n (pc' := 1) (x := pt79) kc_105_0 rfl rfl ?_
      refine xi_getfield (pc' := 4) (v := .int u80) kc_105_1 rfl rfl rfl A85 rfl ?_
      refine xi_static (mj := 89) (as := [.int u80]) (st1 := []) (lv0 := [(0, .int u80)]) kc_105_4 rfl rfl (Nat.le_of_ble_eq_true rfl) rfl rfl (Nat.le_of_ble_eq_true rfl) (hJ _ _ _ _ (by decide)) (xm_le ml_89 rfl) rfl ?_
      refine xi_iload_n (pc' := 1) (x := u80) kc_89_0 rfl rfl ?_
      by_cases c88 : u80.toInt < 0
      · refine xi_ift (pc' := 14) kc_89_1 rfl (xc_lt_t (X := u80.toInt) (Y := 0) rfl (by decide) (by omega)) ?_
        refine xi_iconst (pc' := 15) (v := 0) kc_89_14 rfl rfl ?_
        refine xi_ireturn kc_89_15 mr_89 rfl ?_
        show xw J ov 97 105 (7, [(0, .ref pt79)], [.int 0], h) _
        refine xi_ireturn kc_105_7 mr_105 rfl ?_
        show xw J ov 98 108 (16, [(0, .ref 1), (1, .int a24)], [.int 0], h) _
        refine xi_ift (pc' := 23) kc_108_16 rfl rfl ?_
        refine xi_iconst (pc' := 24) (v := 0) kc_108_23 rfl rfl ?_
        refine xi_ireturn kc_108_24 mr_108 rfl ?_
        show xw J ov 99 113 (8, [(0, .ref 0), (1, .int a24), (2, .int a26), (3, .int a28), (4, .int a30)], [.int 0], h) _
        refine xi_iff (pc' := 11) kc_113_8 rfl rfl ?_
        refine xi_aload_n (pc' := 12) (x := 0) kc_113_11 rfl rfl ?_
        refine xi_iconst (pc' := 13) (v := (-1)) kc_113_12 rfl rfl ?_
        refine xi_virtual (mj := 90) (as := [.int (-1)]) (st1 := []) (lv0 := [(0, .ref 0), (1, .int (-1))]) kc_113_13 rfl rfl rfl rfl rfl A3 (Nat.le_of_ble_eq_true rfl) (hJ _ _ _ _ (by decide)) (xm_le ml_90 rfl) rfl ?_
        refine xi_iload_n (pc' := 1) (x := (-1)) kc_90_0 rfl rfl ?_
        refine xi_ineg (pc' := 2) (v := 1) kc_90_1 rfl rfl ?_
        refine xi_istore_n (pc' := 3) (lv' := [(2, .int 1), (0, .ref 0), (1, .int (-1))]) kc_90_2 rfl rfl (xm_lt ml_90 rfl) ?_
        refine xi_iload_n (pc' := 4) (x := 1) kc_90_3 rfl rfl ?_
        refine xi_iff (pc' := 7) kc_90_4 rfl rfl ?_
        refine xi_iload_n (pc' := 8) (x := 1) kc_90_7 rfl rfl ?_
        refine xi_aload_n (pc' := 9) (x := 0) kc_90_8 rfl rfl ?_
        refine xi_getfield (pc' := 12) (v := .ref 94) kc_90_9 rfl rfl rfl A3 rfl ?_
        obtain ⟨y89, A89, hy89, ry89⟩ := xk_arr K.1 xD_94
        refine xi_arraylength (pc' := 13) (n := 7) (v := 7) kc_90_12 rfl (xl_lenI (by decide) (by decide) A89 hy89) rfl ?_
        refine xi_cmf (pc' := 16) kc_90_13 rfl rfl ?_
        refine xi_aload_n (pc' := 17) (x := 0) kc_90_16 rfl rfl ?_
        refine xi_getfield (pc' := 20) (v := .ref 94) kc_90_17 rfl rfl rfl A3 rfl ?_
        refine xi_iload_n (pc' := 21) (x := 1) kc_90_20 rfl rfl ?_
        refine xi_dup2 (pc' := 22) kc_90_21 rfl ⟨rfl, rfl⟩ ?_
        obtain ⟨v90, ev90, bv90, dv90⟩ := xj_get hy89 ry89 (i := 1) (by decide) (by decide)
        refine xi_iaload (pc' := 23) (v := v90) kc_90_22 rfl A89 (by decide) rfl (xi_in (by decide) (by rw [hy89]; decide)) ev90 ?_
        refine xi_iconst (pc' := 24) (v := 1) kc_90_23 rfl rfl ?_
        obtain ⟨v91, ev91⟩ : ∃ q : Int32, (v90 : Int32) + 1 = q := ⟨_, rfl⟩
        have rv91 := xc_rng v91
        refine xi_iadd (pc' := 25) (v := v91) kc_90_24 rfl ev91 ?_
        obtain ⟨y92, s92, hy92, ry92⟩ := xj_set (v := v91) hy89 ry89 1 (by first | omega | decide) (by first | omega | decide)
        refine xi_iastore (pc' := 26) (x' := y92) kc_90_25 rfl A89 rfl (xi_in (by decide) (by rw [hy89]; decide)) s92 (fun hh92 eh92 => ?_)
        have K93 := xk_pa K (xk_wa rfl) xD_94 hy92 ry92 eh92
        refine xi_iload_n (pc' := 27) (x := (-1)) kc_90_26 rfl rfl ?_
        refine xi_ireturn kc_90_27 mr_90 rfl ?_
        show xw J ov 99 113 (16, [(0, .ref 0), (1, .int a24), (2, .int a26), (3, .int a28), (4, .int a30)], [.int (-1)], hh92) _
        refine xi_ireturn kc_113_16 mr_113 rfl ?_
        show xw J ov 100 195 (618, [(4, .int x4), (3, .ref 167), (2, .ref 115), (1, .ref 0), (0, .ref 1000000)], [.int (-1)], hh92) _
        refine xi_aload_n (pc' := 619) (x := 115) kc_195_618 rfl rfl ?_
        refine xi_aload_n (pc' := 620) (x := 1000000) kc_195_619 rfl rfl ?_
        refine xi_iload (pc' := 622) (x := x4) kc_195_620 rfl rfl ?_
        refine xi_iconst (pc' := 623) (v := 1) kc_195_622 rfl rfl ?_
        refine xi_iadd (pc' := 624) (v := v23) kc_195_623 rfl ev23 ?_
        refine xi_ialoadO (pc' := 625) (v := a24) kc_195_624 rfl (by decide) hov0 (xi_in (by omega) (by omega)) ea24 ?_
        refine xi_aload_n (pc' := 626) (x := 1000000) kc_195_625 rfl rfl ?_
        refine xi_iload (pc' := 628) (x := x4) kc_195_626 rfl rfl ?_
        refine xi_iconst (pc' := 629) (v := 2) kc_195_628 rfl rfl ?_
        refine xi_iadd (pc' := 630) (v := v25) kc_195_629 rfl ev25 ?_
        refine xi_ialoadO (pc' := 631) (v := a26) kc_195_630 rfl (by decide) hov0 (xi_in (by omega) (by omega)) ea26 ?_
        refine xi_aload_n (pc' := 632) (x := 1000000) kc_195_631 rfl rfl ?_
        refine xi_iload (pc' := 634) (x := x4) kc_195_632 rfl rfl ?_
        refine xi_iconst (pc' := 635) (v := 3) kc_195_634 rfl rfl ?_
        refine xi_iadd (pc' := 636) (v := v27) kc_195_635 rfl ev27 ?_
        refine xi_ialoadO (pc' := 637) (v := a28) kc_195_636 rfl (by decide) hov0 (xi_in (by omega) (by omega)) ea28 ?_
        refine xi_aload_n (pc' := 638) (x := 1000000) kc_195_637 rfl rfl ?_
        refine xi_iload (pc' := 640) (x := x4) kc_195_638 rfl rfl ?_
        refine xi_iconst (pc' := 641) (v := 4) kc_195_640 rfl rfl ?_
        refine xi_iadd (pc' := 642) (v := v29) kc_195_641 rfl ev29 ?_
        refine xi_ialoadO (pc' := 643) (v := a30) kc_195_642 rfl (by decide) hov0 (xi_in (by omega) (by omega)) ea30 ?_
        have A94 := ((eh92.2.1 115 (by decide)).trans A17)
        refine xi_virtual (mj := 30) (as := [.int a24, .int a26, .int a28, .int a30]) (st1 := [.int (-1)]) (lv0 := [(0, .ref 115), (1, .int a24), (2, .int a26), (3, .int a28), (4, .int a30)]) kc_195_643 rfl rfl rfl rfl rfl A94 (Nat.le_of_ble_eq_true rfl) (hJ _ _ _ _ (by decide)) (xm_le ml_30 rfl) rfl ?_
        refine xi_aload_n (pc' := 1) (x := 115) kc_30_0 rfl rfl ?_
        refine xi_iconst (pc' := 2) (v := 0) kc_30_1 rfl rfl ?_
        refine xi_putfield (pc' := 5) (fs' := [.int 0, .int u2, .ref 116, .ref 117, .ref 118, .ref 119, .ref 120, .ref 121, .ref 122, .ref 123, .ref 124, .ref 125, .ref 126, .ref 127, .ref 128, .ref 129, .int u6, .ref 130, .int u19, .ref 131, .ref 132, .ref 133, .ref 134, .int u8, .ref 135, .ref 136, .ref 137, .ref 138, .ref 139, .ref 140, .ref 141, .ref 142, .int u9, .int u10, .int u11, .ref 143, .ref 144, .ref 145, .ref 146, .ref 147, .ref 148, .int u12, .ref 149, .ref 150, .ref 151, .int u13, .ref 152, .ref 153, .ref 154, .ref 155, .ref 156, .ref 157, .ref 158, .ref 159, .int u14, .ref 160, .int u15, .ref 161, .ref 162, .ref 163, .ref 164, .int u16, .ref 165, .ref 166]) kc_30_2 rfl rfl rfl A94 rfl rfl rfl (Nat.le_of_ble_eq_true rfl) rfl (fun hh96 eh95 => ?_)
        have K97 := xk_pf (k := 0) (v := 0) K93 (xk_wf rfl) xD_115 A94 rfl (by first | omega | decide) (by first | omega | decide) eh95 rfl
        refine xi_aload_n (pc' := 6) (x := 115) kc_30_5 rfl rfl ?_
        refine xi_iload_n (pc' := 7) (x := a24) kc_30_6 rfl rfl ?_
        refine xi_virtual (mj := 31) (as := [.int a24]) (st1 := []) (lv0 := [(0, .ref 115), (1, .int a24)]) kc_30_7 rfl rfl rfl rfl rfl eh95.1 (Nat.le_of_ble_eq_true rfl) (hJ _ _ _ _ (by decide)) (xm_le ml_31 rfl) rfl ?_
        refine xi_iload_n (pc' := 1) (x := a24) kc_31_0 rfl rfl ?_
        refine xi_static (mj := 24) (as := [.int a24]) (st1 := []) (lv0 := [(0, .int a24)]) kc_31_1 rfl rfl (Nat.le_of_ble_eq_true rfl) rfl rfl (Nat.le_of_ble_eq_true rfl) (hJ _ _ _ _ (by decide)) (xm_le ml_24 rfl) rfl ?_
        refine xi_iload_n (pc' := 1) (x := a24) kc_24_0 rfl rfl ?_
        refine xi_iconst (pc' := 2) (v := 0) kc_24_1 rfl rfl ?_
        refine xi_bipush (pc' := 4) (v := 11) kc_24_2 rfl rfl ?_
        refine xi_static (mj := 11) (as := [.int a24, .int 0, .int 11]) (st1 := []) (lv0 := [(0, .int a24), (1, .int 0), (2, .int 11)]) kc_24_4 rfl rfl (Nat.le_of_ble_eq_true rfl) rfl rfl (Nat.le_of_ble_eq_true rfl) (hJ _ _ _ _ (by decide)) (xm_le ml_11 rfl) rfl ?_
        refine xi_iload_n (pc' := 1) (x := a24) kc_11_0 rfl rfl ?_
        refine xi_iload_n (pc' := 2) (x := 0) kc_11_1 rfl rfl ?_
        refine xi_cmf (pc' := 5) kc_11_2 rfl (xc_lt_f (X := a24.toInt) (Y := 0) rfl (by decide) (by omega)) ?_
        refine xi_iload_n (pc' := 6) (x := a24) kc_11_5 rfl rfl ?_
        refine xi_iload_n (pc' := 7) (x := 11) kc_11_6 rfl rfl ?_
        refine xi_cmf (pc' := 10) kc_11_7 rfl (xc_gt_f (X := a24.toInt) (Y := 11) rfl (by decide) (by omega)) ?_
        refine xi_iconst (pc' := 11) (v := 1) kc_11_10 rfl rfl ?_
        refine xi_goto (pc' := 15) kc_11_11 rfl ?_
        refine xi_ireturn kc_11_15 mr_11 rfl ?_
        show xw J ov 97 24 (7, [(0, .int a24)], [.int 1], hh96) _
        refine xi_ireturn kc_24_7 mr_24 rfl ?_
        show xw J ov 98 31 (4, [(0, .ref 115), (1, .int a24)], [.int 1], hh96) _
        refine xi_iff (pc' := 7) kc_31_4 rfl rfl ?_
        refine xi_aload_n (pc' := 8) (x := 115) kc_31_7 rfl rfl ?_
        refine xi_getfield (pc' := 11) (v := .ref 125) kc_31_8 rfl rfl rfl eh95.1 rfl ?_
        refine xi_iload_n (pc' := 12) (x := a24) kc_31_11 rfl rfl ?_
        have A98 := ((eh95.2.1 125 (by decide)).trans ((eh92.2.1 125 (by decide)).trans A86))
        refine xi_iaload (pc' := 13) (v := u80) kc_31_12 rfl A98 (by decide) rfl (xi_in (by omega) (by rw [hy86]; omega)) HG87 ?_
        refine xi_ift (pc' := 20) kc_31_13 rfl (xc_lt_t (X := u80.toInt) (Y := 0) rfl (by decide) (by omega)) ?_
        refine xi_iconst (pc' := 21) (v := 0) kc_31_20 rfl rfl ?_
        refine xi_ireturn kc_31_21 mr_31 rfl ?_
        show xw J ov 99 30 (10, [(0, .ref 115), (1, .int a24), (2, .int a26), (3, .int a28), (4, .int a30)], [.int 0], hh96) _
        refine xi_iff (pc' := 13) kc_30_10 rfl rfl ?_
        refine xi_aload_n (pc' := 14) (x := 115) kc_30_13 rfl rfl ?_
        refine xi_iconst (pc' := 15) (v := (-1)) kc_30_14 rfl rfl ?_
        refine xi_virtual (mj := 12) (as := [.int (-1)]) (st1 := []) (lv0 := [(0, .ref 115), (1, .int (-1))]) kc_30_15 rfl rfl rfl rfl rfl eh95.1 (Nat.le_of_ble_eq_true rfl) (hJ _ _ _ _ (by decide)) (xm_le ml_12 rfl) rfl ?_
        refine xi_aload_n (pc' := 1) (x := 115) kc_12_0 rfl rfl ?_
        refine xi_getfield (pc' := 4) (v := .ref 140) kc_12_1 rfl rfl rfl eh95.1 rfl ?_
        refine xi_iload_n (pc' := 5) (x := (-1)) kc_12_4 rfl rfl ?_
        refine xi_ineg (pc' := 6) (v := 1) kc_12_5 rfl rfl ?_
        refine xi_dup2 (pc' := 7) kc_12_6 rfl ⟨rfl, rfl⟩ ?_
        obtain ⟨y99, A99, hy99, ry99⟩ := xk_arr K.1 xD_140
        obtain ⟨v100, ev100, bv100, dv100⟩ := xj_get hy99 ry99 (i := 1) (by decide) (by decide)
        have A101 := ((eh95.2.1 140 (by decide)).trans ((eh92.2.1 140 (by decide)).trans A99))
        refine xi_iaload (pc' := 8) (v := v100) kc_12_7 rfl A101 (by decide) rfl (xi_in (by decide) (by rw [hy99]; decide)) ev100 ?_
        refine xi_iconst (pc' := 9) (v := 1) kc_12_8 rfl rfl ?_
        obtain ⟨v102, ev102⟩ : ∃ q : Int32, (v100 : Int32) + 1 = q := ⟨_, rfl⟩
        have rv102 := xc_rng v102
        refine xi_iadd (pc' := 10) (v := v102) kc_12_9 rfl ev102 ?_
        obtain ⟨y103, s103, hy103, ry103⟩ := xj_set (v := v102) hy99 ry99 1 (by first | omega | decide) (by first | omega | decide)
        refine xi_iastore (pc' := 11) (x' := y103) kc_12_10 rfl A101 rfl (xi_in (by decide) (by rw [hy99]; decide)) s103 (fun hh103 eh103 => ?_)
        have K104 := xk_pa K97 (xk_wa rfl) xD_140 hy103 ry103 eh103
        refine xi_iload_n (pc' := 12) (x := (-1)) kc_12_11 rfl rfl ?_
        refine xi_ireturn kc_12_12 mr_12 rfl ?_
        show xw J ov 99 30 (18, [(0, .ref 115), (1, .int a24), (2, .int a26), (3, .int a28), (4, .int a30)], [.int (-1)], hh103) _
        refine xi_ireturn kc_30_18 mr_30 rfl ?_
        show xw J ov 100 195 (646, [(4, .int x4), (3, .ref 167), (2, .ref 115), (1, .ref 0), (0, .ref 1000000)], [.int (-1), .int (-1)], hh103) _
        refine xi_cmt (pc' := 1501) kc_195_646 rfl rfl ?_
        obtain ⟨v105, ev105⟩ : ∃ q : Int32, x4 + 6 = q := ⟨_, rfl⟩
        have zv105 : v105.toInt = (x4.toInt + 6) := by rw [← ev105]; exact (xz_add (X := x4.toInt) (Y := 6) rfl (by decide) (by omega) (by omega)).trans (by omega)
        refine xi_iinc (pc' := 1504) (x := x4) (v := v105) (lv' := [(4, .int v105), (3, .ref 167), (2, .ref 115), (1, .ref 0), (0, .ref 1000000)]) kc_195_1501 rfl rfl ev105 rfl (xm_lt ml_195 rfl) ?_
        refine xi_goto (pc' := 23) kc_195_1504 rfl ?_
        have A106 := ((eh103.2.1 0 (by decide)).trans ((eh95.2.1 0 (by decide)).trans ((eh92.2.1 0 (by decide)).trans A3)))
        have A107 := ((eh103.2.1 115 (by decide)).trans eh95.1)
        have A108 := ((eh103.2.1 66 (by decide)).trans ((eh95.2.1 66 (by decide)).trans ((eh92.2.1 66 (by decide)).trans A20)))
        have A109 := ((eh103.2.1 71 (by decide)).trans ((eh95.2.1 71 (by decide)).trans ((eh92.2.1 71 (by decide)).trans A21)))
        have A110 := ((eh103.2.1 132 (by decide)).trans ((eh95.2.1 132 (by decide)).trans ((eh92.2.1 132 (by decide)).trans A22)))
        exact kk v105 hh103 (by omega) K104 ⟨(xGR_kept I.1 (fun c hc => ((eh103.2.1 c (Ne.symm (xk_nc hc rfl))).trans ((eh95.2.1 c (Ne.symm (xk_nc hc rfl))).trans (eh92.2.1 c (Ne.symm (xk_nc hc rfl)))))) ((eh103.2.1 125 (by decide)).trans ((eh95.2.1 125 (by decide)).trans (eh92.2.1 125 (by decide))))), ((xl_of A106 rfl).trans (xl_of A107 rfl).symm), ((xl_of A108 rfl).trans (xl_of A107 rfl).symm), ((xl_arr A109).trans (xl_arr A110).symm)⟩
      · refine xi_iff (pc' := 4) kc_89_1 rfl (xc_lt_f (X := u80.toInt) (Y := 0) rfl (by decide) (by omega)) ?_
        refine xi_iload_n (pc' := 5) (x := u80) kc_89_4 rfl rfl ?_
        refine xi_bipush (pc' := 7) (v := 6) kc_89_5 rfl rfl ?_
        refine xi_cmf (pc' := 10) kc_89_7 rfl (xc_ge_f (X := u80.toInt) (Y := 6) rfl (by decide) (by omega)) ?_
        refine xi_iconst (pc' := 11) (v := 1) kc_89_10 rfl rfl ?_
        refine xi_goto (pc' := 15) kc_89_11 rfl ?_
        refine xi_ireturn kc_89_15 mr_89 rfl ?_
        show xw J ov 97 105 (7, [(0, .ref pt79)], [.int 1], h) _
        refine xi_ireturn kc_105_7 mr_105 rfl ?_
        show xw J ov 98 108 (16, [(0, .ref 1), (1, .int a24)], [.int 1], h) _
        refine xi_iff (pc' := 19) kc_108_16 rfl rfl ?_
        refine xi_iconst (pc' := 20) (v := 1) kc_108_19 rfl rfl ?_
        refine xi_goto (pc' := 24) kc_108_20 rfl ?_
        refine xi_ireturn kc_108_24 mr_108 rfl ?_
        show xw J ov 99 113 (8, [(0, .ref 0), (1, .int a24), (2, .int a26), (3, .int a28), (4, .int a30)], [.int 1], h) _
        refine xi_ift (pc' := 17) kc_113_8 rfl rfl ?_
        refine xi_iload_n (pc' := 18) (x := a26) kc_113_17 rfl rfl ?_
        refine xi_aload_n (pc' := 19) (x := 0) kc_113_18 rfl rfl ?_
        refine xi_getfield (pc' := 22) (v := .int u2) kc_113_19 rfl rfl rfl A3 rfl ?_
        by_cases c111 : u2.toInt < a26.toInt
        · refine xi_cmt (pc' := 36) kc_113_22 rfl (xc_gt_t (X := a26.toInt) (Y := u2.toInt) rfl rfl (by omega)) ?_
          refine xi_aload_n (pc' := 37) (x := 0) kc_113_36 rfl rfl ?_
          refine xi_bipush (pc' := 39) (v := (-3)) kc_113_37 rfl rfl ?_
          refine xi_virtual (mj := 90) (as := [.int (-3)]) (st1 := []) (lv0 := [(0, .ref 0), (1, .int (-3))]) kc_113_39 rfl rfl rfl rfl rfl A3 (Nat.le_of_ble_eq_true rfl) (hJ _ _ _ _ (by decide)) (xm_le ml_90 rfl) rfl ?_
          refine xi_iload_n (pc' := 1) (x := (-3)) kc_90_0 rfl rfl ?_
          refine xi_ineg (pc' := 2) (v := 3) kc_90_1 rfl rfl ?_
          refine xi_istore_n (pc' := 3) (lv' := [(2, .int 3), (0, .ref 0), (1, .int (-3))]) kc_90_2 rfl rfl (xm_lt ml_90 rfl) ?_
          refine xi_iload_n (pc' := 4) (x := 3) kc_90_3 rfl rfl ?_
          refine xi_iff (pc' := 7) kc_90_4 rfl rfl ?_
          refine xi_iload_n (pc' := 8) (x := 3) kc_90_7 rfl rfl ?_
          refine xi_aload_n (pc' := 9) (x := 0) kc_90_8 rfl rfl ?_
          refine xi_getfield (pc' := 12) (v := .ref 94) kc_90_9 rfl rfl rfl A3 rfl ?_
          obtain ⟨y112, A112, hy112, ry112⟩ := xk_arr K.1 xD_94
          refine xi_arraylength (pc' := 13) (n := 7) (v := 7) kc_90_12 rfl (xl_lenI (by decide) (by decide) A112 hy112) rfl ?_
          refine xi_cmf (pc' := 16) kc_90_13 rfl rfl ?_
          refine xi_aload_n (pc' := 17) (x := 0) kc_90_16 rfl rfl ?_
          refine xi_getfield (pc' := 20) (v := .ref 94) kc_90_17 rfl rfl rfl A3 rfl ?_
          refine xi_iload_n (pc' := 21) (x := 3) kc_90_20 rfl rfl ?_
          refine xi_dup2 (pc' := 22) kc_90_21 rfl ⟨rfl, rfl⟩ ?_
          obtain ⟨v113, ev113, bv113, dv113⟩ := xj_get hy112 ry112 (i := 3) (by decide) (by decide)
          refine xi_iaload (pc' := 23) (v := v113) kc_90_22 rfl A112 (by decide) rfl (xi_in (by decide) (by rw [hy112]; decide)) ev113 ?_
          refine xi_iconst (pc' := 24) (v := 1) kc_90_23 rfl rfl ?_
          obtain ⟨v114, ev114⟩ : ∃ q : Int32, (v113 : Int32) + 1 = q := ⟨_, rfl⟩
          have rv114 := xc_rng v114
          refine xi_iadd (pc' := 25) (v := v114) kc_90_24 rfl ev114 ?_
          obtain ⟨y115, s115, hy115, ry115⟩ := xj_set (v := v114) hy112 ry112 3 (by first | omega | decide) (by first | omega | decide)
          refine xi_iastore (pc' := 26) (x' := y115) kc_90_25 rfl A112 rfl (xi_in (by decide) (by rw [hy112]; decide)) s115 (fun hh115 eh115 => ?_)
          have K116 := xk_pa K (xk_wa rfl) xD_94 hy115 ry115 eh115
          refine xi_iload_n (pc' := 27) (x := (-3)) kc_90_26 rfl rfl ?_
          refine xi_ireturn kc_90_27 mr_90 rfl ?_
          show xw J ov 99 113 (42, [(0, .ref 0), (1, .int a24), (2, .int a26), (3, .int a28), (4, .int a30)], [.int (-3)], hh115) _
          refine xi_ireturn kc_113_42 mr_113 rfl ?_
          show xw J ov 100 195 (618, [(4, .int x4), (3, .ref 167), (2, .ref 115), (1, .ref 0), (0, .ref 1000000)], [.int (-3)], hh115) _
          refine xi_aload_n (pc' := 619) (x := 115) kc_195_618 rfl rfl ?_
          refine xi_aload_n (pc' := 620) (x := 1000000) kc_195_619 rfl rfl ?_
          refine xi_iload (pc' := 622) (x := x4) kc_195_620 rfl rfl ?_
          refine xi_iconst (pc' := 623) (v := 1) kc_195_622 rfl rfl ?_
          refine xi_iadd (pc' := 624) (v := v23) kc_195_623 rfl ev23 ?_
          refine xi_ialoadO (pc' := 625) (v := a24) kc_195_624 rfl (by decide) hov0 (xi_in (by omega) (by omega)) ea24 ?_
          refine xi_aload_n (pc' := 626) (x := 1000000) kc_195_625 rfl rfl ?_
          refine xi_iload (pc' := 628) (x := x4) kc_195_626 rfl rfl ?_
          refine xi_iconst (pc' := 629) (v := 2) kc_195_628 rfl rfl ?_
          refine xi_iadd (pc' := 630) (v := v25) kc_195_629 rfl ev25 ?_
          refine xi_ialoadO (pc' := 631) (v := a26) kc_195_630 rfl (by decide) hov0 (xi_in (by omega) (by omega)) ea26 ?_
          refine xi_aload_n (pc' := 632) (x := 1000000) kc_195_631 rfl rfl ?_
          refine xi_iload (pc' := 634) (x := x4) kc_195_632 rfl rfl ?_
          refine xi_iconst (pc' := 635) (v := 3) kc_195_634 rfl rfl ?_
          refine xi_iadd (pc' := 636) (v := v27) kc_195_635 rfl ev27 ?_
          refine xi_ialoadO (pc' := 637) (v := a28) kc_195_636 rfl (by decide) hov0 (xi_in (by omega) (by omega)) ea28 ?_
          refine xi_aload_n (pc' := 638) (x := 1000000) kc_195_637 rfl rfl ?_
          refine xi_iload (pc' := 640) (x := x4) kc_195_638 rfl rfl ?_
          refine xi_iconst (pc' := 641) (v := 4) kc_195_640 rfl rfl ?_
          refine xi_iadd (pc' := 642) (v := v29) kc_195_641 rfl ev29 ?_
          refine xi_ialoadO (pc' := 643) (v := a30) kc_195_642 rfl (by decide) hov0 (xi_in (by omega) (by omega)) ea30 ?_
          have A117 := ((eh115.2.1 115 (by decide)).trans A17)
          refine xi_virtual (mj := 30) (as := [.int a24, .int a26, .int a28, .int a30]) (st1 := [.int (-3)]) (lv0 := [(0, .ref 115), (1, .int a24), (2, .int a26), (3, .int a28), (4, .int a30)]) kc_195_643 rfl rfl rfl rfl rfl A117 (Nat.le_of_ble_eq_true rfl) (hJ _ _ _ _ (by decide)) (xm_le ml_30 rfl) rfl ?_
          refine xi_aload_n (pc' := 1) (x := 115) kc_30_0 rfl rfl ?_
          refine xi_iconst (pc' := 2) (v := 0) kc_30_1 rfl rfl ?_
          refine xi_putfield (pc' := 5) (fs' := [.int 0, .int u2, .ref 116, .ref 117, .ref 118, .ref 119, .ref 120, .ref 121, .ref 122, .ref 123, .ref 124, .ref 125, .ref 126, .ref 127, .ref 128, .ref 129, .int u6, .ref 130, .int u19, .ref 131, .ref 132, .ref 133, .ref 134, .int u8, .ref 135, .ref 136, .ref 137, .ref 138, .ref 139, .ref 140, .ref 141, .ref 142, .int u9, .int u10, .int u11, .ref 143, .ref 144, .ref 145, .ref 146, .ref 147, .ref 148, .int u12, .ref 149, .ref 150, .ref 151, .int u13, .ref 152, .ref 153, .ref 154, .ref 155, .ref 156, .ref 157, .ref 158, .ref 159, .int u14, .ref 160, .int u15, .ref 161, .ref 162, .ref 163, .ref 164, .int u16, .ref 165, .ref 166]) kc_30_2 rfl rfl rfl A117 rfl rfl rfl (Nat.le_of_ble_eq_true rfl) rfl (fun hh119 eh118 => ?_)
          have K120 := xk_pf (k := 0) (v := 0) K116 (xk_wf rfl) xD_115 A117 rfl (by first | omega | decide) (by first | omega | decide) eh118 rfl
          refine xi_aload_n (pc' := 6) (x := 115) kc_30_5 rfl rfl ?_
          refine xi_iload_n (pc' := 7) (x := a24) kc_30_6 rfl rfl ?_
          refine xi_virtual (mj := 31) (as := [.int a24]) (st1 := []) (lv0 := [(0, .ref 115), (1, .int a24)]) kc_30_7 rfl rfl rfl rfl rfl eh118.1 (Nat.le_of_ble_eq_true rfl) (hJ _ _ _ _ (by decide)) (xm_le ml_31 rfl) rfl ?_
          refine xi_iload_n (pc' := 1) (x := a24) kc_31_0 rfl rfl ?_
          refine xi_static (mj := 24) (as := [.int a24]) (st1 := []) (lv0 := [(0, .int a24)]) kc_31_1 rfl rfl (Nat.le_of_ble_eq_true rfl) rfl rfl (Nat.le_of_ble_eq_true rfl) (hJ _ _ _ _ (by decide)) (xm_le ml_24 rfl) rfl ?_
          refine xi_iload_n (pc' := 1) (x := a24) kc_24_0 rfl rfl ?_
          refine xi_iconst (pc' := 2) (v := 0) kc_24_1 rfl rfl ?_
          refine xi_bipush (pc' := 4) (v := 11) kc_24_2 rfl rfl ?_
          refine xi_static (mj := 11) (as := [.int a24, .int 0, .int 11]) (st1 := []) (lv0 := [(0, .int a24), (1, .int 0), (2, .int 11)]) kc_24_4 rfl rfl (Nat.le_of_ble_eq_true rfl) rfl rfl (Nat.le_of_ble_eq_true rfl) (hJ _ _ _ _ (by decide)) (xm_le ml_11 rfl) rfl ?_
          refine xi_iload_n (pc' := 1) (x := a24) kc_11_0 rfl rfl ?_
          refine xi_iload_n (pc' := 2) (x := 0) kc_11_1 rfl rfl ?_
          refine xi_cmf (pc' := 5) kc_11_2 rfl (xc_lt_f (X := a24.toInt) (Y := 0) rfl (by decide) (by omega)) ?_
          refine xi_iload_n (pc' := 6) (x := a24) kc_11_5 rfl rfl ?_
          refine xi_iload_n (pc' := 7) (x := 11) kc_11_6 rfl rfl ?_
          refine xi_cmf (pc' := 10) kc_11_7 rfl (xc_gt_f (X := a24.toInt) (Y := 11) rfl (by decide) (by omega)) ?_
          refine xi_iconst (pc' := 11) (v := 1) kc_11_10 rfl rfl ?_
          refine xi_goto (pc' := 15) kc_11_11 rfl ?_
          refine xi_ireturn kc_11_15 mr_11 rfl ?_
          show xw J ov 97 24 (7, [(0, .int a24)], [.int 1], hh119) _
          refine xi_ireturn kc_24_7 mr_24 rfl ?_
          show xw J ov 98 31 (4, [(0, .ref 115), (1, .int a24)], [.int 1], hh119) _
          refine xi_iff (pc' := 7) kc_31_4 rfl rfl ?_
          refine xi_aload_n (pc' := 8) (x := 115) kc_31_7 rfl rfl ?_
          refine xi_getfield (pc' := 11) (v := .ref 125) kc_31_8 rfl rfl rfl eh118.1 rfl ?_
          refine xi_iload_n (pc' := 12) (x := a24) kc_31_11 rfl rfl ?_
          have A121 := ((eh118.2.1 125 (by decide)).trans ((eh115.2.1 125 (by decide)).trans A86))
          refine xi_iaload (pc' := 13) (v := u80) kc_31_12 rfl A121 (by decide) rfl (xi_in (by omega) (by rw [hy86]; omega)) HG87 ?_
          refine xi_iff (pc' := 16) kc_31_13 rfl (xc_lt_f (X := u80.toInt) (Y := 0) rfl (by decide) (by omega)) ?_
          refine xi_iconst (pc' := 17) (v := 1) kc_31_16 rfl rfl ?_
          refine xi_goto (pc' := 21) kc_31_17 rfl ?_
          refine xi_ireturn kc_31_21 mr_31 rfl ?_
          show xw J ov 99 30 (10, [(0, .ref 115), (1, .int a24), (2, .int a26), (3, .int a28), (4, .int a30)], [.int 1], hh119) _
          refine xi_ift (pc' := 19) kc_30_10 rfl rfl ?_
          refine xi_iload_n (pc' := 20) (x := a26) kc_30_19 rfl rfl ?_
          refine xi_aload_n (pc' := 21) (x := 115) kc_30_20 rfl rfl ?_
          refine xi_getfield (pc' := 24) (v := .int u2) kc_30_21 rfl rfl rfl eh118.1 rfl ?_
          refine xi_cmt (pc' := 49) kc_30_24 rfl (xc_gt_t (X := a26.toInt) (Y := u2.toInt) rfl rfl (by omega)) ?_
          refine xi_aload_n (pc' := 50) (x := 115) kc_30_49 rfl rfl ?_
          refine xi_bipush (pc' := 52) (v := (-3)) kc_30_50 rfl rfl ?_
          refine xi_virtual (mj := 12) (as := [.int (-3)]) (st1 := []) (lv0 := [(0, .ref 115), (1, .int (-3))]) kc_30_52 rfl rfl rfl rfl rfl eh118.1 (Nat.le_of_ble_eq_true rfl) (hJ _ _ _ _ (by decide)) (xm_le ml_12 rfl) rfl ?_
          refine xi_aload_n (pc' := 1) (x := 115) kc_12_0 rfl rfl ?_
          refine xi_getfield (pc' := 4) (v := .ref 140) kc_12_1 rfl rfl rfl eh118.1 rfl ?_
          refine xi_iload_n (pc' := 5) (x := (-3)) kc_12_4 rfl rfl ?_
          refine xi_ineg (pc' := 6) (v := 3) kc_12_5 rfl rfl ?_
          refine xi_dup2 (pc' := 7) kc_12_6 rfl ⟨rfl, rfl⟩ ?_
          obtain ⟨y122, A122, hy122, ry122⟩ := xk_arr K.1 xD_140
          obtain ⟨v123, ev123, bv123, dv123⟩ := xj_get hy122 ry122 (i := 3) (by decide) (by decide)
          have A124 := ((eh118.2.1 140 (by decide)).trans ((eh115.2.1 140 (by decide)).trans A122))
          refine xi_iaload (pc' := 8) (v := v123) kc_12_7 rfl A124 (by decide) rfl (xi_in (by decide) (by rw [hy122]; decide)) ev123 ?_
          refine xi_iconst (pc' := 9) (v := 1) kc_12_8 rfl rfl ?_
          obtain ⟨v125, ev125⟩ : ∃ q : Int32, (v123 : Int32) + 1 = q := ⟨_, rfl⟩
          have rv125 := xc_rng v125
          refine xi_iadd (pc' := 10) (v := v125) kc_12_9 rfl ev125 ?_
          obtain ⟨y126, s126, hy126, ry126⟩ := xj_set (v := v125) hy122 ry122 3 (by first | omega | decide) (by first | omega | decide)
          refine xi_iastore (pc' := 11) (x' := y126) kc_12_10 rfl A124 rfl (xi_in (by decide) (by rw [hy122]; decide)) s126 (fun hh126 eh126 => ?_)
          have K127 := xk_pa K120 (xk_wa rfl) xD_140 hy126 ry126 eh126
          refine xi_iload_n (pc' := 12) (x := (-3)) kc_12_11 rfl rfl ?_
          refine xi_ireturn kc_12_12 mr_12 rfl ?_
          show xw J ov 99 30 (55, [(0, .ref 115), (1, .int a24), (2, .int a26), (3, .int a28), (4, .int a30)], [.int (-3)], hh126) _
          refine xi_ireturn kc_30_55 mr_30 rfl ?_
          show xw J ov 100 195 (646, [(4, .int x4), (3, .ref 167), (2, .ref 115), (1, .ref 0), (0, .ref 1000000)], [.int (-3), .int (-3)], hh126) _
          refine xi_cmt (pc' := 1501) kc_195_646 rfl rfl ?_
          obtain ⟨v128, ev128⟩ : ∃ q : Int32, x4 + 6 = q := ⟨_, rfl⟩
          have zv128 : v128.toInt = (x4.toInt + 6) := by rw [← ev128]; exact (xz_add (X := x4.toInt) (Y := 6) rfl (by decide) (by omega) (by omega)).trans (by omega)
          refine xi_iinc (pc' := 1504) (x := x4) (v := v128) (lv' := [(4, .int v128), (3, .ref 167), (2, .ref 115), (1, .ref 0), (0, .ref 1000000)]) kc_195_1501 rfl rfl ev128 rfl (xm_lt ml_195 rfl) ?_
          refine xi_goto (pc' := 23) kc_195_1504 rfl ?_
          have A129 := ((eh126.2.1 0 (by decide)).trans ((eh118.2.1 0 (by decide)).trans ((eh115.2.1 0 (by decide)).trans A3)))
          have A130 := ((eh126.2.1 115 (by decide)).trans eh118.1)
          have A131 := ((eh126.2.1 66 (by decide)).trans ((eh118.2.1 66 (by decide)).trans ((eh115.2.1 66 (by decide)).trans A20)))
          have A132 := ((eh126.2.1 71 (by decide)).trans ((eh118.2.1 71 (by decide)).trans ((eh115.2.1 71 (by decide)).trans A21)))
          have A133 := ((eh126.2.1 132 (by decide)).trans ((eh118.2.1 132 (by decide)).trans ((eh115.2.1 132 (by decide)).trans A22)))
          exact kk v128 hh126 (by omega) K127 ⟨(xGR_kept I.1 (fun c hc => ((eh126.2.1 c (Ne.symm (xk_nc hc rfl))).trans ((eh118.2.1 c (Ne.symm (xk_nc hc rfl))).trans (eh115.2.1 c (Ne.symm (xk_nc hc rfl)))))) ((eh126.2.1 125 (by decide)).trans ((eh118.2.1 125 (by decide)).trans (eh115.2.1 125 (by decide))))), ((xl_of A129 rfl).trans (xl_of A130 rfl).symm), ((xl_of A131 rfl).trans (xl_of A130 rfl).symm), ((xl_arr A132).trans (xl_arr A133).symm)⟩
        · refine xi_cmf (pc' := 25) kc_113_22 rfl (xc_gt_f (X := a26.toInt) (Y := u2.toInt) rfl rfl (by omega)) ?_
          refine xi_aload_n (pc' := 26) (x := 0) kc_113_25 rfl rfl ?_
          refine xi_getfield (pc' := 29) (v := .ref 66) kc_113_26 rfl rfl rfl A3 rfl ?_
          refine xi_iload_n (pc' := 30) (x := a26) kc_113_29 rfl rfl ?_
          refine xi_virtual (mj := 114) (as := [.int a26]) (st1 := []) (lv0 := [(0, .ref 66), (1, .int a26)]) kc_113_30 rfl rfl rfl rfl rfl A20 (Nat.le_of_ble_eq_true rfl) (hJ _ _ _ _ (by decide)) (xm_le ml_114 rfl) rfl ?_
          refine xi_aload_n (pc' := 1) (x := 66) kc_114_0 rfl rfl ?_
          refine xi_getfield (pc' := 4) (v := .int u19) kc_114_1 rfl rfl rfl A20 rfl ?_
          by_cases c134 : u19.toInt ≤ 0
          · refine xi_ift (pc' := 35) kc_114_4 rfl (xc_le_t (X := u19.toInt) (Y := 0) rfl (by decide) (by omega)) ?_
            refine xi_iconst (pc' := 36) (v := 0) kc_114_35 rfl rfl ?_
            refine xi_ireturn kc_114_36 mr_114 rfl ?_
            show xw J ov 99 113 (33, [(0, .ref 0), (1, .int a24), (2, .int a26), (3, .int a28), (4, .int a30)], [.int 0], h) _
            refine xi_ift (pc' := 43) kc_113_33 rfl rfl ?_
            refine xi_iload_n (pc' := 44) (x := a26) kc_113_43 rfl rfl ?_
            by_cases c135 : a26.toInt < 0
            · refine xi_ift (pc' := 56) kc_113_44 rfl (xc_lt_t (X := a26.toInt) (Y := 0) rfl (by decide) (by omega)) ?_
              refine xi_aload_n (pc' := 57) (x := 0) kc_113_56 rfl rfl ?_
              refine xi_bipush (pc' := 59) (v := (-4)) kc_113_57 rfl rfl ?_
              refine xi_virtual (mj := 90) (as := [.int (-4)]) (st1 := []) (lv0 := [(0, .ref 0), (1, .int (-4))]) kc_113_59 rfl rfl rfl rfl rfl A3 (Nat.le_of_ble_eq_true rfl) (hJ _ _ _ _ (by decide)) (xm_le ml_90 rfl) rfl ?_
              refine xi_iload_n (pc' := 1) (x := (-4)) kc_90_0 rfl rfl ?_
              refine xi_ineg (pc' := 2) (v := 4) kc_90_1 rfl rfl ?_
              refine xi_istore_n (pc' := 3) (lv' := [(2, .int 4), (0, .ref 0), (1, .int (-4))]) kc_90_2 rfl rfl (xm_lt ml_90 rfl) ?_
              refine xi_iload_n (pc' := 4) (x := 4) kc_90_3 rfl rfl ?_
              refine xi_iff (pc' := 7) kc_90_4 rfl rfl ?_
              refine xi_iload_n (pc' := 8) (x := 4) kc_90_7 rfl rfl ?_
              refine xi_aload_n (pc' := 9) (x := 0) kc_90_8 rfl rfl ?_
              refine xi_getfield (pc' := 12) (v := .ref 94) kc_90_9 rfl rfl rfl A3 rfl ?_
              obtain ⟨y136, A136, hy136, ry136⟩ := xk_arr K.1 xD_94
              refine xi_arraylength (pc' := 13) (n := 7) (v := 7) kc_90_12 rfl (xl_lenI (by decide) (by decide) A136 hy136) rfl ?_
              refine xi_cmf (pc' := 16) kc_90_13 rfl rfl ?_
              refine xi_aload_n (pc' := 17) (x := 0) kc_90_16 rfl rfl ?_
              refine xi_getfield (pc' := 20) (v := .ref 94) kc_90_17 rfl rfl rfl A3 rfl ?_
              refine xi_iload_n (pc' := 21) (x := 4) kc_90_20 rfl rfl ?_
              refine xi_dup2 (pc' := 22) kc_90_21 rfl ⟨rfl, rfl⟩ ?_
              obtain ⟨v137, ev137, bv137, dv137⟩ := xj_get hy136 ry136 (i := 4) (by decide) (by decide)
              refine xi_iaload (pc' := 23) (v := v137) kc_90_22 rfl A136 (by decide) rfl (xi_in (by decide) (by rw [hy136]; decide)) ev137 ?_
              refine xi_iconst (pc' := 24) (v := 1) kc_90_23 rfl rfl ?_
              obtain ⟨v138, ev138⟩ : ∃ q : Int32, (v137 : Int32) + 1 = q := ⟨_, rfl⟩
              have rv138 := xc_rng v138
              refine xi_iadd (pc' := 25) (v := v138) kc_90_24 rfl ev138 ?_
              obtain ⟨y139, s139, hy139, ry139⟩ := xj_set (v := v138) hy136 ry136 4 (by first | omega | decide) (by first | omega | decide)
              refine xi_iastore (pc' := 26) (x' := y139) kc_90_25 rfl A136 rfl (xi_in (by decide) (by rw [hy136]; decide)) s139 (fun hh139 eh139 => ?_)
              have K140 := xk_pa K (xk_wa rfl) xD_94 hy139 ry139 eh139
              refine xi_iload_n (pc' := 27) (x := (-4)) kc_90_26 rfl rfl ?_
              refine xi_ireturn kc_90_27 mr_90 rfl ?_
              show xw J ov 99 113 (62, [(0, .ref 0), (1, .int a24), (2, .int a26), (3, .int a28), (4, .int a30)], [.int (-4)], hh139) _
              refine xi_ireturn kc_113_62 mr_113 rfl ?_
              show xw J ov 100 195 (618, [(4, .int x4), (3, .ref 167), (2, .ref 115), (1, .ref 0), (0, .ref 1000000)], [.int (-4)], hh139) _
              refine xi_aload_n (pc' := 619) (x := 115) kc_195_618 rfl rfl ?_
              refine xi_aload_n (pc' := 620) (x := 1000000) kc_195_619 rfl rfl ?_
              refine xi_iload (pc' := 622) (x := x4) kc_195_620 rfl rfl ?_
              refine xi_iconst (pc' := 623) (v := 1) kc_195_622 rfl rfl ?_
              refine xi_iadd (pc' := 624) (v := v23) kc_195_623 rfl ev23 ?_
              refine xi_ialoadO (pc' := 625) (v := a24) kc_195_624 rfl (by decide) hov0 (xi_in (by omega) (by omega)) ea24 ?_
              refine xi_aload_n (pc' := 626) (x := 1000000) kc_195_625 rfl rfl ?_
              refine xi_iload (pc' := 628) (x := x4) kc_195_626 rfl rfl ?_
              refine xi_iconst (pc' := 629) (v := 2) kc_195_628 rfl rfl ?_
              refine xi_iadd (pc' := 630) (v := v25) kc_195_629 rfl ev25 ?_
              refine xi_ialoadO (pc' := 631) (v := a26) kc_195_630 rfl (by decide) hov0 (xi_in (by omega) (by omega)) ea26 ?_
              refine xi_aload_n (pc' := 632) (x := 1000000) kc_195_631 rfl rfl ?_
              refine xi_iload (pc' := 634) (x := x4) kc_195_632 rfl rfl ?_
              refine xi_iconst (pc' := 635) (v := 3) kc_195_634 rfl rfl ?_
              refine xi_iadd (pc' := 636) (v := v27) kc_195_635 rfl ev27 ?_
              refine xi_ialoadO (pc' := 637) (v := a28) kc_195_636 rfl (by decide) hov0 (xi_in (by omega) (by omega)) ea28 ?_
              refine xi_aload_n (pc' := 638) (x := 1000000) kc_195_637 rfl rfl ?_
              refine xi_iload (pc' := 640) (x := x4) kc_195_638 rfl rfl ?_
              refine xi_iconst (pc' := 641) (v := 4) kc_195_640 rfl rfl ?_
              refine xi_iadd (pc' := 642) (v := v29) kc_195_641 rfl ev29 ?_
              refine xi_ialoadO (pc' := 643) (v := a30) kc_195_642 rfl (by decide) hov0 (xi_in (by omega) (by omega)) ea30 ?_
              have A141 := ((eh139.2.1 115 (by decide)).trans A17)
              refine xi_virtual (mj := 30) (as := [.int a24, .int a26, .int a28, .int a30]) (st1 := [.int (-4)]) (lv0 := [(0, .ref 115), (1, .int a24), (2, .int a26), (3, .int a28), (4, .int a30)]) kc_195_643 rfl rfl rfl rfl rfl A141 (Nat.le_of_ble_eq_true rfl) (hJ _ _ _ _ (by decide)) (xm_le ml_30 rfl) rfl ?_
              refine xi_aload_n (pc' := 1) (x := 115) kc_30_0 rfl rfl ?_
              refine xi_iconst (pc' := 2) (v := 0) kc_30_1 rfl rfl ?_
              refine xi_putfield (pc' := 5) (fs' := [.int 0, .int u2, .ref 116, .ref 117, .ref 118, .ref 119, .ref 120, .ref 121, .ref 122, .ref 123, .ref 124, .ref 125, .ref 126, .ref 127, .ref 128, .ref 129, .int u6, .ref 130, .int u19, .ref 131, .ref 132, .ref 133, .ref 134, .int u8, .ref 135, .ref 136, .ref 137, .ref 138, .ref 139, .ref 140, .ref 141, .ref 142, .int u9, .int u10, .int u11, .ref 143, .ref 144, .ref 145, .ref 146, .ref 147, .ref 148, .int u12, .ref 149, .ref 150, .ref 151, .int u13, .ref 152, .ref 153, .ref 154, .ref 155, .ref 156, .ref 157, .ref 158, .ref 159, .int u14, .ref 160, .int u15, .ref 161, .ref 162, .ref 163, .ref 164, .int u16, .ref 165, .ref 166]) kc_30_2 rfl rfl rfl A141 rfl rfl rfl (Nat.le_of_ble_eq_true rfl) rfl (fun hh143 eh142 => ?_)
              have K144 := xk_pf (k := 0) (v := 0) K140 (xk_wf rfl) xD_115 A141 rfl (by first | omega | decide) (by first | omega | decide) eh142 rfl
              refine xi_aload_n (pc' := 6) (x := 115) kc_30_5 rfl rfl ?_
              refine xi_iload_n (pc' := 7) (x := a24) kc_30_6 rfl rfl ?_
              refine xi_virtual (mj := 31) (as := [.int a24]) (st1 := []) (lv0 := [(0, .ref 115), (1, .int a24)]) kc_30_7 rfl rfl rfl rfl rfl eh142.1 (Nat.le_of_ble_eq_true rfl) (hJ _ _ _ _ (by decide)) (xm_le ml_31 rfl) rfl ?_
              refine xi_iload_n (pc' := 1) (x := a24) kc_31_0 rfl rfl ?_
              refine xi_static (mj := 24) (as := [.int a24]) (st1 := []) (lv0 := [(0, .int a24)]) kc_31_1 rfl rfl (Nat.le_of_ble_eq_true rfl) rfl rfl (Nat.le_of_ble_eq_true rfl) (hJ _ _ _ _ (by decide)) (xm_le ml_24 rfl) rfl ?_
              refine xi_iload_n (pc' := 1) (x := a24) kc_24_0 rfl rfl ?_
              refine xi_iconst (pc' := 2) (v := 0) kc_24_1 rfl rfl ?_
              refine xi_bipush (pc' := 4) (v := 11) kc_24_2 rfl rfl ?_
              refine xi_static (mj := 11) (as := [.int a24, .int 0, .int 11]) (st1 := []) (lv0 := [(0, .int a24), (1, .int 0), (2, .int 11)]) kc_24_4 rfl rfl (Nat.le_of_ble_eq_true rfl) rfl rfl (Nat.le_of_ble_eq_true rfl) (hJ _ _ _ _ (by decide)) (xm_le ml_11 rfl) rfl ?_
              refine xi_iload_n (pc' := 1) (x := a24) kc_11_0 rfl rfl ?_
              refine xi_iload_n (pc' := 2) (x := 0) kc_11_1 rfl rfl ?_
              refine xi_cmf (pc' := 5) kc_11_2 rfl (xc_lt_f (X := a24.toInt) (Y := 0) rfl (by decide) (by omega)) ?_
              refine xi_iload_n (pc' := 6) (x := a24) kc_11_5 rfl rfl ?_
              refine xi_iload_n (pc' := 7) (x := 11) kc_11_6 rfl rfl ?_
              refine xi_cmf (pc' := 10) kc_11_7 rfl (xc_gt_f (X := a24.toInt) (Y := 11) rfl (by decide) (by omega)) ?_
              refine xi_iconst (pc' := 11) (v := 1) kc_11_10 rfl rfl ?_
              refine xi_goto (pc' := 15) kc_11_11 rfl ?_
              refine xi_ireturn kc_11_15 mr_11 rfl ?_
              show xw J ov 97 24 (7, [(0, .int a24)], [.int 1], hh143) _
              refine xi_ireturn kc_24_7 mr_24 rfl ?_
              show xw J ov 98 31 (4, [(0, .ref 115), (1, .int a24)], [.int 1], hh143) _
              refine xi_iff (pc' := 7) kc_31_4 rfl rfl ?_
              refine xi_aload_n (pc' := 8) (x := 115) kc_31_7 rfl rfl ?_
              refine xi_getfield (pc' := 11) (v := .ref 125) kc_31_8 rfl rfl rfl eh142.1 rfl ?_
              refine xi_iload_n (pc' := 12) (x := a24) kc_31_11 rfl rfl ?_
              have A145 := ((eh142.2.1 125 (by decide)).trans ((eh139.2.1 125 (by decide)).trans A86))
              refine xi_iaload (pc' := 13) (v := u80) kc_31_12 rfl A145 (by decide) rfl (xi_in (by omega) (by rw [hy86]; omega)) HG87 ?_
              refine xi_iff (pc' := 16) kc_31_13 rfl (xc_lt_f (X := u80.toInt) (Y := 0) rfl (by decide) (by omega)) ?_
              refine xi_iconst (pc' := 17) (v := 1) kc_31_16 rfl rfl ?_
              refine xi_goto (pc' := 21) kc_31_17 rfl ?_
              refine xi_ireturn kc_31_21 mr_31 rfl ?_
              show xw J ov 99 30 (10, [(0, .ref 115), (1, .int a24), (2, .int a26), (3, .int a28), (4, .int a30)], [.int 1], hh143) _
              refine xi_ift (pc' := 19) kc_30_10 rfl rfl ?_
              refine xi_iload_n (pc' := 20) (x := a26) kc_30_19 rfl rfl ?_
              refine xi_aload_n (pc' := 21) (x := 115) kc_30_20 rfl rfl ?_
              refine xi_getfield (pc' := 24) (v := .int u2) kc_30_21 rfl rfl rfl eh142.1 rfl ?_
              refine xi_cmf (pc' := 27) kc_30_24 rfl (xc_gt_f (X := a26.toInt) (Y := u2.toInt) rfl rfl (by omega)) ?_
              refine xi_aload_n (pc' := 28) (x := 115) kc_30_27 rfl rfl ?_
              refine xi_getfield (pc' := 31) (v := .int u19) kc_30_28 rfl rfl rfl eh142.1 rfl ?_
              refine xi_ift (pc' := 56) kc_30_31 rfl (xc_le_t (X := u19.toInt) (Y := 0) rfl (by decide) (by omega)) ?_
              refine xi_iload_n (pc' := 57) (x := a26) kc_30_56 rfl rfl ?_
              refine xi_ift (pc' := 69) kc_30_57 rfl (xc_lt_t (X := a26.toInt) (Y := 0) rfl (by decide) (by omega)) ?_
              refine xi_aload_n (pc' := 70) (x := 115) kc_30_69 rfl rfl ?_
              refine xi_bipush (pc' := 72) (v := (-4)) kc_30_70 rfl rfl ?_
              refine xi_virtual (mj := 12) (as := [.int (-4)]) (st1 := []) (lv0 := [(0, .ref 115), (1, .int (-4))]) kc_30_72 rfl rfl rfl rfl rfl eh142.1 (Nat.le_of_ble_eq_true rfl) (hJ _ _ _ _ (by decide)) (xm_le ml_12 rfl) rfl ?_
              refine xi_aload_n (pc' := 1) (x := 115) kc_12_0 rfl rfl ?_
              refine xi_getfield (pc' := 4) (v := .ref 140) kc_12_1 rfl rfl rfl eh142.1 rfl ?_
              refine xi_iload_n (pc' := 5) (x := (-4)) kc_12_4 rfl rfl ?_
              refine xi_ineg (pc' := 6) (v := 4) kc_12_5 rfl rfl ?_
              refine xi_dup2 (pc' := 7) kc_12_6 rfl ⟨rfl, rfl⟩ ?_
              obtain ⟨y146, A146, hy146, ry146⟩ := xk_arr K.1 xD_140
              obtain ⟨v147, ev147, bv147, dv147⟩ := xj_get hy146 ry146 (i := 4) (by decide) (by decide)
              have A148 := ((eh142.2.1 140 (by decide)).trans ((eh139.2.1 140 (by decide)).trans A146))
              refine xi_iaload (pc' := 8) (v := v147) kc_12_7 rfl A148 (by decide) rfl (xi_in (by decide) (by rw [hy146]; decide)) ev147 ?_
              refine xi_iconst (pc' := 9) (v := 1) kc_12_8 rfl rfl ?_
              obtain ⟨v149, ev149⟩ : ∃ q : Int32, (v147 : Int32) + 1 = q := ⟨_, rfl⟩
              have rv149 := xc_rng v149
              refine xi_iadd (pc' := 10) (v := v149) kc_12_9 rfl ev149 ?_
              obtain ⟨y150, s150, hy150, ry150⟩ := xj_set (v := v149) hy146 ry146 4 (by first | omega | decide) (by first | omega | decide)
              refine xi_iastore (pc' := 11) (x' := y150) kc_12_10 rfl A148 rfl (xi_in (by decide) (by rw [hy146]; decide)) s150 (fun hh150 eh150 => ?_)
              have K151 := xk_pa K144 (xk_wa rfl) xD_140 hy150 ry150 eh150
              refine xi_iload_n (pc' := 12) (x := (-4)) kc_12_11 rfl rfl ?_
              refine xi_ireturn kc_12_12 mr_12 rfl ?_
              show xw J ov 99 30 (75, [(0, .ref 115), (1, .int a24), (2, .int a26), (3, .int a28), (4, .int a30)], [.int (-4)], hh150) _
              refine xi_ireturn kc_30_75 mr_30 rfl ?_
              show xw J ov 100 195 (646, [(4, .int x4), (3, .ref 167), (2, .ref 115), (1, .ref 0), (0, .ref 1000000)], [.int (-4), .int (-4)], hh150) _
              refine xi_cmt (pc' := 1501) kc_195_646 rfl rfl ?_
              obtain ⟨v152, ev152⟩ : ∃ q : Int32, x4 + 6 = q := ⟨_, rfl⟩
              have zv152 : v152.toInt = (x4.toInt + 6) := by rw [← ev152]; exact (xz_add (X := x4.toInt) (Y := 6) rfl (by decide) (by omega) (by omega)).trans (by omega)
              refine xi_iinc (pc' := 1504) (x := x4) (v := v152) (lv' := [(4, .int v152), (3, .ref 167), (2, .ref 115), (1, .ref 0), (0, .ref 1000000)]) kc_195_1501 rfl rfl ev152 rfl (xm_lt ml_195 rfl) ?_
              refine xi_goto (pc' := 23) kc_195_1504 rfl ?_
              have A153 := ((eh150.2.1 0 (by decide)).trans ((eh142.2.1 0 (by decide)).trans ((eh139.2.1 0 (by decide)).trans A3)))
              have A154 := ((eh150.2.1 115 (by decide)).trans eh142.1)
              have A155 := ((eh150.2.1 66 (by decide)).trans ((eh142.2.1 66 (by decide)).trans ((eh139.2.1 66 (by decide)).trans A20)))
              have A156 := ((eh150.2.1 71 (by decide)).trans ((eh142.2.1 71 (by decide)).trans ((eh139.2.1 71 (by decide)).trans A21)))
              have A157 := ((eh150.2.1 132 (by decide)).trans ((eh142.2.1 132 (by decide)).trans ((eh139.2.1 132 (by decide)).trans A22)))
              exact kk v152 hh150 (by omega) K151 ⟨(xGR_kept I.1 (fun c hc => ((eh150.2.1 c (Ne.symm (xk_nc hc rfl))).trans ((eh142.2.1 c (Ne.symm (xk_nc hc rfl))).trans (eh139.2.1 c (Ne.symm (xk_nc hc rfl)))))) ((eh150.2.1 125 (by decide)).trans ((eh142.2.1 125 (by decide)).trans (eh139.2.1 125 (by decide))))), ((xl_of A153 rfl).trans (xl_of A154 rfl).symm), ((xl_of A155 rfl).trans (xl_of A154 rfl).symm), ((xl_arr A156).trans (xl_arr A157).symm)⟩
            · refine xi_iff (pc' := 47) kc_113_44 rfl (xc_lt_f (X := a26.toInt) (Y := 0) rfl (by decide) (by omega)) ?_
              refine xi_iload_n (pc' := 48) (x := a28) kc_113_47 rfl rfl ?_
              by_cases c158 : a28.toInt < 0
              · refine xi_ift (pc' := 56) kc_113_48 rfl (xc_lt_t (X := a28.toInt) (Y := 0) rfl (by decide) (by omega)) ?_
                refine xi_aload_n (pc' := 57) (x := 0) kc_113_56 rfl rfl ?_
                refine xi_bipush (pc' := 59) (v := (-4)) kc_113_57 rfl rfl ?_
                refine xi_virtual (mj := 90) (as := [.int (-4)]) (st1 := []) (lv0 := [(0, .ref 0), (1, .int (-4))]) kc_113_59 rfl rfl rfl rfl rfl A3 (Nat.le_of_ble_eq_true rfl) (hJ _ _ _ _ (by decide)) (xm_le ml_90 rfl) rfl ?_
                refine xi_iload_n (pc' := 1) (x := (-4)) kc_90_0 rfl rfl ?_
                refine xi_ineg (pc' := 2) (v := 4) kc_90_1 rfl rfl ?_
                refine xi_istore_n (pc' := 3) (lv' := [(2, .int 4), (0, .ref 0), (1, .int (-4))]) kc_90_2 rfl rfl (xm_lt ml_90 rfl) ?_
                refine xi_iload_n (pc' := 4) (x := 4) kc_90_3 rfl rfl ?_
                refine xi_iff (pc' := 7) kc_90_4 rfl rfl ?_
                refine xi_iload_n (pc' := 8) (x := 4) kc_90_7 rfl rfl ?_
                refine xi_aload_n (pc' := 9) (x := 0) kc_90_8 rfl rfl ?_
                refine xi_getfield (pc' := 12) (v := .ref 94) kc_90_9 rfl rfl rfl A3 rfl ?_
                obtain ⟨y159, A159, hy159, ry159⟩ := xk_arr K.1 xD_94
                refine xi_arraylength (pc' := 13) (n := 7) (v := 7) kc_90_12 rfl (xl_lenI (by decide) (by decide) A159 hy159) rfl ?_
                refine xi_cmf (pc' := 16) kc_90_13 rfl rfl ?_
                refine xi_aload_n (pc' := 17) (x := 0) kc_90_16 rfl rfl ?_
                refine xi_getfield (pc' := 20) (v := .ref 94) kc_90_17 rfl rfl rfl A3 rfl ?_
                refine xi_iload_n (pc' := 21) (x := 4) kc_90_20 rfl rfl ?_
                refine xi_dup2 (pc' := 22) kc_90_21 rfl ⟨rfl, rfl⟩ ?_
                obtain ⟨v160, ev160, bv160, dv160⟩ := xj_get hy159 ry159 (i := 4) (by decide) (by decide)
                refine xi_iaload (pc' := 23) (v := v160) kc_90_22 rfl A159 (by decide) rfl (xi_in (by decide) (by rw [hy159]; decide)) ev160 ?_
                refine xi_iconst (pc' := 24) (v := 1) kc_90_23 rfl rfl ?_
                obtain ⟨v161, ev161⟩ : ∃ q : Int32, (v160 : Int32) + 1 = q := ⟨_, rfl⟩
                have rv161 := xc_rng v161
                refine xi_iadd (pc' := 25) (v := v161) kc_90_24 rfl ev161 ?_
                obtain ⟨y162, s162, hy162, ry162⟩ := xj_set (v := v161) hy159 ry159 4 (by first | omega | decide) (by first | omega | decide)
                refine xi_iastore (pc' := 26) (x' := y162) kc_90_25 rfl A159 rfl (xi_in (by decide) (by rw [hy159]; decide)) s162 (fun hh162 eh162 => ?_)
                have K163 := xk_pa K (xk_wa rfl) xD_94 hy162 ry162 eh162
                refine xi_iload_n (pc' := 27) (x := (-4)) kc_90_26 rfl rfl ?_
                refine xi_ireturn kc_90_27 mr_90 rfl ?_
                show xw J ov 99 113 (62, [(0, .ref 0), (1, .int a24), (2, .int a26), (3, .int a28), (4, .int a30)], [.int (-4)], hh162) _
                refine xi_ireturn kc_113_62 mr_113 rfl ?_
                show xw J ov 100 195 (618, [(4, .int x4), (3, .ref 167), (2, .ref 115), (1, .ref 0), (0, .ref 1000000)], [.int (-4)], hh162) _
                refine xi_aload_n (pc' := 619) (x := 115) kc_195_618 rfl rfl ?_
                refine xi_aload_n (pc' := 620) (x := 1000000) kc_195_619 rfl rfl ?_
                refine xi_iload (pc' := 622) (x := x4) kc_195_620 rfl rfl ?_
                refine xi_iconst (pc' := 623) (v := 1) kc_195_622 rfl rfl ?_
                refine xi_iadd (pc' := 624) (v := v23) kc_195_623 rfl ev23 ?_
                refine xi_ialoadO (pc' := 625) (v := a24) kc_195_624 rfl (by decide) hov0 (xi_in (by omega) (by omega)) ea24 ?_
                refine xi_aload_n (pc' := 626) (x := 1000000) kc_195_625 rfl rfl ?_
                refine xi_iload (pc' := 628) (x := x4) kc_195_626 rfl rfl ?_
                refine xi_iconst (pc' := 629) (v := 2) kc_195_628 rfl rfl ?_
                refine xi_iadd (pc' := 630) (v := v25) kc_195_629 rfl ev25 ?_
                refine xi_ialoadO (pc' := 631) (v := a26) kc_195_630 rfl (by decide) hov0 (xi_in (by omega) (by omega)) ea26 ?_
                refine xi_aload_n (pc' := 632) (x := 1000000) kc_195_631 rfl rfl ?_
                refine xi_iload (pc' := 634) (x := x4) kc_195_632 rfl rfl ?_
                refine xi_iconst (pc' := 635) (v := 3) kc_195_634 rfl rfl ?_
                refine xi_iadd (pc' := 636) (v := v27) kc_195_635 rfl ev27 ?_
                refine xi_ialoadO (pc' := 637) (v := a28) kc_195_636 rfl (by decide) hov0 (xi_in (by omega) (by omega)) ea28 ?_
                refine xi_aload_n (pc' := 638) (x := 1000000) kc_195_637 rfl rfl ?_
                refine xi_iload (pc' := 640) (x := x4) kc_195_638 rfl rfl ?_
                refine xi_iconst (pc' := 641) (v := 4) kc_195_640 rfl rfl ?_
                refine xi_iadd (pc' := 642) (v := v29) kc_195_641 rfl ev29 ?_
                refine xi_ialoadO (pc' := 643) (v := a30) kc_195_642 rfl (by decide) hov0 (xi_in (by omega) (by omega)) ea30 ?_
                have A164 := ((eh162.2.1 115 (by decide)).trans A17)
                refine xi_virtual (mj := 30) (as := [.int a24, .int a26, .int a28, .int a30]) (st1 := [.int (-4)]) (lv0 := [(0, .ref 115), (1, .int a24), (2, .int a26), (3, .int a28), (4, .int a30)]) kc_195_643 rfl rfl rfl rfl rfl A164 (Nat.le_of_ble_eq_true rfl) (hJ _ _ _ _ (by decide)) (xm_le ml_30 rfl) rfl ?_
                refine xi_aload_n (pc' := 1) (x := 115) kc_30_0 rfl rfl ?_
                refine xi_iconst (pc' := 2) (v := 0) kc_30_1 rfl rfl ?_
                refine xi_putfield (pc' := 5) (fs' := [.int 0, .int u2, .ref 116, .ref 117, .ref 118, .ref 119, .ref 120, .ref 121, .ref 122, .ref 123, .ref 124, .ref 125, .ref 126, .ref 127, .ref 128, .ref 129, .int u6, .ref 130, .int u19, .ref 131, .ref 132, .ref 133, .ref 134, .int u8, .ref 135, .ref 136, .ref 137, .ref 138, .ref 139, .ref 140, .ref 141, .ref 142, .int u9, .int u10, .int u11, .ref 143, .ref 144, .ref 145, .ref 146, .ref 147, .ref 148, .int u12, .ref 149, .ref 150, .ref 151, .int u13, .ref 152, .ref 153, .ref 154, .ref 155, .ref 156, .ref 157, .ref 158, .ref 159, .int u14, .ref 160, .int u15, .ref 161, .ref 162, .ref 163, .ref 164, .int u16, .ref 165, .ref 166]) kc_30_2 rfl rfl rfl A164 rfl rfl rfl (Nat.le_of_ble_eq_true rfl) rfl (fun hh166 eh165 => ?_)
                have K167 := xk_pf (k := 0) (v := 0) K163 (xk_wf rfl) xD_115 A164 rfl (by first | omega | decide) (by first | omega | decide) eh165 rfl
                refine xi_aload_n (pc' := 6) (x := 115) kc_30_5 rfl rfl ?_
                refine xi_iload_n (pc' := 7) (x := a24) kc_30_6 rfl rfl ?_
                refine xi_virtual (mj := 31) (as := [.int a24]) (st1 := []) (lv0 := [(0, .ref 115), (1, .int a24)]) kc_30_7 rfl rfl rfl rfl rfl eh165.1 (Nat.le_of_ble_eq_true rfl) (hJ _ _ _ _ (by decide)) (xm_le ml_31 rfl) rfl ?_
                refine xi_iload_n (pc' := 1) (x := a24) kc_31_0 rfl rfl ?_
                refine xi_static (mj := 24) (as := [.int a24]) (st1 := []) (lv0 := [(0, .int a24)]) kc_31_1 rfl rfl (Nat.le_of_ble_eq_true rfl) rfl rfl (Nat.le_of_ble_eq_true rfl) (hJ _ _ _ _ (by decide)) (xm_le ml_24 rfl) rfl ?_
                refine xi_iload_n (pc' := 1) (x := a24) kc_24_0 rfl rfl ?_
                refine xi_iconst (pc' := 2) (v := 0) kc_24_1 rfl rfl ?_
                refine xi_bipush (pc' := 4) (v := 11) kc_24_2 rfl rfl ?_
                refine xi_static (mj := 11) (as := [.int a24, .int 0, .int 11]) (st1 := []) (lv0 := [(0, .int a24), (1, .int 0), (2, .int 11)]) kc_24_4 rfl rfl (Nat.le_of_ble_eq_true rfl) rfl rfl (Nat.le_of_ble_eq_true rfl) (hJ _ _ _ _ (by decide)) (xm_le ml_11 rfl) rfl ?_
                refine xi_iload_n (pc' := 1) (x := a24) kc_11_0 rfl rfl ?_
                refine xi_iload_n (pc' := 2) (x := 0) kc_11_1 rfl rfl ?_
                refine xi_cmf (pc' := 5) kc_11_2 rfl (xc_lt_f (X := a24.toInt) (Y := 0) rfl (by decide) (by omega)) ?_
                refine xi_iload_n (pc' := 6) (x := a24) kc_11_5 rfl rfl ?_
                refine xi_iload_n (pc' := 7) (x := 11) kc_11_6 rfl rfl ?_
                refine xi_cmf (pc' := 10) kc_11_7 rfl (xc_gt_f (X := a24.toInt) (Y := 11) rfl (by decide) (by omega)) ?_
                refine xi_iconst (pc' := 11) (v := 1) kc_11_10 rfl rfl ?_
                refine xi_goto (pc' := 15) kc_11_11 rfl ?_
                refine xi_ireturn kc_11_15 mr_11 rfl ?_
                show xw J ov 97 24 (7, [(0, .int a24)], [.int 1], hh166) _
                refine xi_ireturn kc_24_7 mr_24 rfl ?_
                show xw J ov 98 31 (4, [(0, .ref 115), (1, .int a24)], [.int 1], hh166) _
                refine xi_iff (pc' := 7) kc_31_4 rfl rfl ?_
                refine xi_aload_n (pc' := 8) (x := 115) kc_31_7 rfl rfl ?_
                refine xi_getfield (pc' := 11) (v := .ref 125) kc_31_8 rfl rfl rfl eh165.1 rfl ?_
                refine xi_iload_n (pc' := 12) (x := a24) kc_31_11 rfl rfl ?_
                have A168 := ((eh165.2.1 125 (by decide)).trans ((eh162.2.1 125 (by decide)).trans A86))
                refine xi_iaload (pc' := 13) (v := u80) kc_31_12 rfl A168 (by decide) rfl (xi_in (by omega) (by rw [hy86]; omega)) HG87 ?_
                refine xi_iff (pc' := 16) kc_31_13 rfl (xc_lt_f (X := u80.toInt) (Y := 0) rfl (by decide) (by omega)) ?_
                refine xi_iconst (pc' := 17) (v := 1) kc_31_16 rfl rfl ?_
                refine xi_goto (pc' := 21) kc_31_17 rfl ?_
                refine xi_ireturn kc_31_21 mr_31 rfl ?_
                show xw J ov 99 30 (10, [(0, .ref 115), (1, .int a24), (2, .int a26), (3, .int a28), (4, .int a30)], [.int 1], hh166) _
                refine xi_ift (pc' := 19) kc_30_10 rfl rfl ?_
                refine xi_iload_n (pc' := 20) (x := a26) kc_30_19 rfl rfl ?_
                refine xi_aload_n (pc' := 21) (x := 115) kc_30_20 rfl rfl ?_
                refine xi_getfield (pc' := 24) (v := .int u2) kc_30_21 rfl rfl rfl eh165.1 rfl ?_
                refine xi_cmf (pc' := 27) kc_30_24 rfl (xc_gt_f (X := a26.toInt) (Y := u2.toInt) rfl rfl (by omega)) ?_
                refine xi_aload_n (pc' := 28) (x := 115) kc_30_27 rfl rfl ?_
                refine xi_getfield (pc' := 31) (v := .int u19) kc_30_28 rfl rfl rfl eh165.1 rfl ?_
                refine xi_ift (pc' := 56) kc_30_31 rfl (xc_le_t (X := u19.toInt) (Y := 0) rfl (by decide) (by omega)) ?_
                refine xi_iload_n (pc' := 57) (x := a26) kc_30_56 rfl rfl ?_
                refine xi_iff (pc' := 60) kc_30_57 rfl (xc_lt_f (X := a26.toInt) (Y := 0) rfl (by decide) (by omega)) ?_
                refine xi_iload_n (pc' := 61) (x := a28) kc_30_60 rfl rfl ?_
                refine xi_ift (pc' := 69) kc_30_61 rfl (xc_lt_t (X := a28.toInt) (Y := 0) rfl (by decide) (by omega)) ?_
                refine xi_aload_n (pc' := 70) (x := 115) kc_30_69 rfl rfl ?_
                refine xi_bipush (pc' := 72) (v := (-4)) kc_30_70 rfl rfl ?_
                refine xi_virtual (mj := 12) (as := [.int (-4)]) (st1 := []) (lv0 := [(0, .ref 115), (1, .int (-4))]) kc_30_72 rfl rfl rfl rfl rfl eh165.1 (Nat.le_of_ble_eq_true rfl) (hJ _ _ _ _ (by decide)) (xm_le ml_12 rfl) rfl ?_
                refine xi_aload_n (pc' := 1) (x := 115) kc_12_0 rfl rfl ?_
                refine xi_getfield (pc' := 4) (v := .ref 140) kc_12_1 rfl rfl rfl eh165.1 rfl ?_
                refine xi_iload_n (pc' := 5) (x := (-4)) kc_12_4 rfl rfl ?_
                refine xi_ineg (pc' := 6) (v := 4) kc_12_5 rfl rfl ?_
                refine xi_dup2 (pc' := 7) kc_12_6 rfl ⟨rfl, rfl⟩ ?_
                obtain ⟨y169, A169, hy169, ry169⟩ := xk_arr K.1 xD_140
                obtain ⟨v170, ev170, bv170, dv170⟩ := xj_get hy169 ry169 (i := 4) (by decide) (by decide)
                have A171 := ((eh165.2.1 140 (by decide)).trans ((eh162.2.1 140 (by decide)).trans A169))
                refine xi_iaload (pc' := 8) (v := v170) kc_12_7 rfl A171 (by decide) rfl (xi_in (by decide) (by rw [hy169]; decide)) ev170 ?_
                refine xi_iconst (pc' := 9) (v := 1) kc_12_8 rfl rfl ?_
                obtain ⟨v172, ev172⟩ : ∃ q : Int32, (v170 : Int32) + 1 = q := ⟨_, rfl⟩
                have rv172 := xc_rng v172
                refine xi_iadd (pc' := 10) (v := v172) kc_12_9 rfl ev172 ?_
                obtain ⟨y173, s173, hy173, ry173⟩ := xj_set (v := v172) hy169 ry169 4 (by first | omega | decide) (by first | omega | decide)
                refine xi_iastore (pc' := 11) (x' := y173) kc_12_10 rfl A171 rfl (xi_in (by decide) (by rw [hy169]; decide)) s173 (fun hh173 eh173 => ?_)
                have K174 := xk_pa K167 (xk_wa rfl) xD_140 hy173 ry173 eh173
                refine xi_iload_n (pc' := 12) (x := (-4)) kc_12_11 rfl rfl ?_
                refine xi_ireturn kc_12_12 mr_12 rfl ?_
                show xw J ov 99 30 (75, [(0, .ref 115), (1, .int a24), (2, .int a26), (3, .int a28), (4, .int a30)], [.int (-4)], hh173) _
                refine xi_ireturn kc_30_75 mr_30 rfl ?_
                show xw J ov 100 195 (646, [(4, .int x4), (3, .ref 167), (2, .ref 115), (1, .ref 0), (0, .ref 1000000)], [.int (-4), .int (-4)], hh173) _
                refine xi_cmt (pc' := 1501) kc_195_646 rfl rfl ?_
                obtain ⟨v175, ev175⟩ : ∃ q : Int32, x4 + 6 = q := ⟨_, rfl⟩
                have zv175 : v175.toInt = (x4.toInt + 6) := by rw [← ev175]; exact (xz_add (X := x4.toInt) (Y := 6) rfl (by decide) (by omega) (by omega)).trans (by omega)
                refine xi_iinc (pc' := 1504) (x := x4) (v := v175) (lv' := [(4, .int v175), (3, .ref 167), (2, .ref 115), (1, .ref 0), (0, .ref 1000000)]) kc_195_1501 rfl rfl ev175 rfl (xm_lt ml_195 rfl) ?_
                refine xi_goto (pc' := 23) kc_195_1504 rfl ?_
                have A176 := ((eh173.2.1 0 (by decide)).trans ((eh165.2.1 0 (by decide)).trans ((eh162.2.1 0 (by decide)).trans A3)))
                have A177 := ((eh173.2.1 115 (by decide)).trans eh165.1)
                have A178 := ((eh173.2.1 66 (by decide)).trans ((eh165.2.1 66 (by decide)).trans ((eh162.2.1 66 (by decide)).trans A20)))
                have A179 := ((eh173.2.1 71 (by decide)).trans ((eh165.2.1 71 (by decide)).trans ((eh162.2.1 71 (by decide)).trans A21)))
                have A180 := ((eh173.2.1 132 (by decide)).trans ((eh165.2.1 132 (by decide)).trans ((eh162.2.1 132 (by decide)).trans A22)))
                exact kk v175 hh173 (by omega) K174 ⟨(xGR_kept I.1 (fun c hc => ((eh173.2.1 c (Ne.symm (xk_nc hc rfl))).trans ((eh165.2.1 c (Ne.symm (xk_nc hc rfl))).trans (eh162.2.1 c (Ne.symm (xk_nc hc rfl)))))) ((eh173.2.1 125 (by decide)).trans ((eh165.2.1 125 (by decide)).trans (eh162.2.1 125 (by decide))))), ((xl_of A176 rfl).trans (xl_of A177 rfl).symm), ((xl_of A178 rfl).trans (xl_of A177 rfl).symm), ((xl_arr A179).trans (xl_arr A180).symm)⟩
              · refine xi_iff (pc' := 51) kc_113_48 rfl (xc_lt_f (X := a28.toInt) (Y := 0) rfl (by decide) (by omega)) ?_
                refine xi_iload (pc' := 53) (x := a30) kc_113_51 rfl rfl ?_
                by_cases c181 : 0 ≤ a30.toInt
                · refine xi_ift (pc' := 63) kc_113_53 rfl (xc_ge_t (X := a30.toInt) (Y := 0) rfl (by decide) (by omega)) ?_
                  refine xi_iload_n (pc' := 64) (x := a28) kc_113_63 rfl rfl ?_
                  refine xi_ldc (pc' := 66) (v := 99999) kc_113_64 rfl rfl ?_
                  by_cases c182 : 99999 < a28.toInt
                  · refine xi_cmt (pc' := 89) kc_113_66 rfl (xc_gt_t (X := a28.toInt) (Y := 99999) rfl (by decide) (by omega)) ?_
                    refine xi_aload_n (pc' := 90) (x := 0) kc_113_89 rfl rfl ?_
                    refine xi_bipush (pc' := 92) (v := (-6)) kc_113_90 rfl rfl ?_
                    refine xi_virtual (mj := 90) (as := [.int (-6)]) (st1 := []) (lv0 := [(0, .ref 0), (1, .int (-6))]) kc_113_92 rfl rfl rfl rfl rfl A3 (Nat.le_of_ble_eq_true rfl) (hJ _ _ _ _ (by decide)) (xm_le ml_90 rfl) rfl ?_
                    refine xi_iload_n (pc' := 1) (x := (-6)) kc_90_0 rfl rfl ?_
                    refine xi_ineg (pc' := 2) (v := 6) kc_90_1 rfl rfl ?_
                    refine xi_istore_n (pc' := 3) (lv' := [(2, .int 6), (0, .ref 0), (1, .int (-6))]) kc_90_2 rfl rfl (xm_lt ml_90 rfl) ?_
                    refine xi_iload_n (pc' := 4) (x := 6) kc_90_3 rfl rfl ?_
                    refine xi_iff (pc' := 7) kc_90_4 rfl rfl ?_
                    refine xi_iload_n (pc' := 8) (x := 6) kc_90_7 rfl rfl ?_
                    refine xi_aload_n (pc' := 9) (x := 0) kc_90_8 rfl rfl ?_
                    refine xi_getfield (pc' := 12) (v := .ref 94) kc_90_9 rfl rfl rfl A3 rfl ?_
                    obtain ⟨y183, A183, hy183, ry183⟩ := xk_arr K.1 xD_94
                    refine xi_arraylength (pc' := 13) (n := 7) (v := 7) kc_90_12 rfl (xl_lenI (by decide) (by decide) A183 hy183) rfl ?_
                    refine xi_cmf (pc' := 16) kc_90_13 rfl rfl ?_
                    refine xi_aload_n (pc' := 17) (x := 0) kc_90_16 rfl rfl ?_
                    refine xi_getfield (pc' := 20) (v := .ref 94) kc_90_17 rfl rfl rfl A3 rfl ?_
                    refine xi_iload_n (pc' := 21) (x := 6) kc_90_20 rfl rfl ?_
                    refine xi_dup2 (pc' := 22) kc_90_21 rfl ⟨rfl, rfl⟩ ?_
                    obtain ⟨v184, ev184, bv184, dv184⟩ := xj_get hy183 ry183 (i := 6) (by decide) (by decide)
                    refine xi_iaload (pc' := 23) (v := v184) kc_90_22 rfl A183 (by decide) rfl (xi_in (by decide) (by rw [hy183]; decide)) ev184 ?_
                    refine xi_iconst (pc' := 24) (v := 1) kc_90_23 rfl rfl ?_
                    obtain ⟨v185, ev185⟩ : ∃ q : Int32, (v184 : Int32) + 1 = q := ⟨_, rfl⟩
                    have rv185 := xc_rng v185
                    refine xi_iadd (pc' := 25) (v := v185) kc_90_24 rfl ev185 ?_
                    obtain ⟨y186, s186, hy186, ry186⟩ := xj_set (v := v185) hy183 ry183 6 (by first | omega | decide) (by first | omega | decide)
                    refine xi_iastore (pc' := 26) (x' := y186) kc_90_25 rfl A183 rfl (xi_in (by decide) (by rw [hy183]; decide)) s186 (fun hh186 eh186 => ?_)
                    have K187 := xk_pa K (xk_wa rfl) xD_94 hy186 ry186 eh186
                    refine xi_iload_n (pc' := 27) (x := (-6)) kc_90_26 rfl rfl ?_
                    refine xi_ireturn kc_90_27 mr_90 rfl ?_
                    show xw J ov 99 113 (95, [(0, .ref 0), (1, .int a24), (2, .int a26), (3, .int a28), (4, .int a30)], [.int (-6)], hh186) _
                    refine xi_ireturn kc_113_95 mr_113 rfl ?_
                    show xw J ov 100 195 (618, [(4, .int x4), (3, .ref 167), (2, .ref 115), (1, .ref 0), (0, .ref 1000000)], [.int (-6)], hh186) _
                    refine xi_aload_n (pc' := 619) (x := 115) kc_195_618 rfl rfl ?_
                    refine xi_aload_n (pc' := 620) (x := 1000000) kc_195_619 rfl rfl ?_
                    refine xi_iload (pc' := 622) (x := x4) kc_195_620 rfl rfl ?_
                    refine xi_iconst (pc' := 623) (v := 1) kc_195_622 rfl rfl ?_
                    refine xi_iadd (pc' := 624) (v := v23) kc_195_623 rfl ev23 ?_
                    refine xi_ialoadO (pc' := 625) (v := a24) kc_195_624 rfl (by decide) hov0 (xi_in (by omega) (by omega)) ea24 ?_
                    refine xi_aload_n (pc' := 626) (x := 1000000) kc_195_625 rfl rfl ?_
                    refine xi_iload (pc' := 628) (x := x4) kc_195_626 rfl rfl ?_
                    refine xi_iconst (pc' := 629) (v := 2) kc_195_628 rfl rfl ?_
                    refine xi_iadd (pc' := 630) (v := v25) kc_195_629 rfl ev25 ?_
                    refine xi_ialoadO (pc' := 631) (v := a26) kc_195_630 rfl (by decide) hov0 (xi_in (by omega) (by omega)) ea26 ?_
                    refine xi_aload_n (pc' := 632) (x := 1000000) kc_195_631 rfl rfl ?_
                    refine xi_iload (pc' := 634) (x := x4) kc_195_632 rfl rfl ?_
                    refine xi_iconst (pc' := 635) (v := 3) kc_195_634 rfl rfl ?_
                    refine xi_iadd (pc' := 636) (v := v27) kc_195_635 rfl ev27 ?_
                    refine xi_ialoadO (pc' := 637) (v := a28) kc_195_636 rfl (by decide) hov0 (xi_in (by omega) (by omega)) ea28 ?_
                    refine xi_aload_n (pc' := 638) (x := 1000000) kc_195_637 rfl rfl ?_
                    refine xi_iload (pc' := 640) (x := x4) kc_195_638 rfl rfl ?_
                    refine xi_iconst (pc' := 641) (v := 4) kc_195_640 rfl rfl ?_
                    refine xi_iadd (pc' := 642) (v := v29) kc_195_641 rfl ev29 ?_
                    refine xi_ialoadO (pc' := 643) (v := a30) kc_195_642 rfl (by decide) hov0 (xi_in (by omega) (by omega)) ea30 ?_
                    have A188 := ((eh186.2.1 115 (by decide)).trans A17)
                    refine xi_virtual (mj := 30) (as := [.int a24, .int a26, .int a28, .int a30]) (st1 := [.int (-6)]) (lv0 := [(0, .ref 115), (1, .int a24), (2, .int a26), (3, .int a28), (4, .int a30)]) kc_195_643 rfl rfl rfl rfl rfl A188 (Nat.le_of_ble_eq_true rfl) (hJ _ _ _ _ (by decide)) (xm_le ml_30 rfl) rfl ?_
                    refine xi_aload_n (pc' := 1) (x := 115) kc_30_0 rfl rfl ?_
                    refine xi_iconst (pc' := 2) (v := 0) kc_30_1 rfl rfl ?_
                    refine xi_putfield (pc' := 5) (fs' := [.int 0, .int u2, .ref 116, .ref 117, .ref 118, .ref 119, .ref 120, .ref 121, .ref 122, .ref 123, .ref 124, .ref 125, .ref 126, .ref 127, .ref 128, .ref 129, .int u6, .ref 130, .int u19, .ref 131, .ref 132, .ref 133, .ref 134, .int u8, .ref 135, .ref 136, .ref 137, .ref 138, .ref 139, .ref 140, .ref 141, .ref 142, .int u9, .int u10, .int u11, .ref 143, .ref 144, .ref 145, .ref 146, .ref 147, .ref 148, .int u12, .ref 149, .ref 150, .ref 151, .int u13, .ref 152, .ref 153, .ref 154, .ref 155, .ref 156, .ref 157, .ref 158, .ref 159, .int u14, .ref 160, .int u15, .ref 161, .ref 162, .ref 163, .ref 164, .int u16, .ref 165, .ref 166]) kc_30_2 rfl rfl rfl A188 rfl rfl rfl (Nat.le_of_ble_eq_true rfl) rfl (fun hh190 eh189 => ?_)
                    have K191 := xk_pf (k := 0) (v := 0) K187 (xk_wf rfl) xD_115 A188 rfl (by first | omega | decide) (by first | omega | decide) eh189 rfl
                    refine xi_aload_n (pc' := 6) (x := 115) kc_30_5 rfl rfl ?_
                    refine xi_iload_n (pc' := 7) (x := a24) kc_30_6 rfl rfl ?_
                    refine xi_virtual (mj := 31) (as := [.int a24]) (st1 := []) (lv0 := [(0, .ref 115), (1, .int a24)]) kc_30_7 rfl rfl rfl rfl rfl eh189.1 (Nat.le_of_ble_eq_true rfl) (hJ _ _ _ _ (by decide)) (xm_le ml_31 rfl) rfl ?_
                    refine xi_iload_n (pc' := 1) (x := a24) kc_31_0 rfl rfl ?_
                    refine xi_static (mj := 24) (as := [.int a24]) (st1 := []) (lv0 := [(0, .int a24)]) kc_31_1 rfl rfl (Nat.le_of_ble_eq_true rfl) rfl rfl (Nat.le_of_ble_eq_true rfl) (hJ _ _ _ _ (by decide)) (xm_le ml_24 rfl) rfl ?_
                    refine xi_iload_n (pc' := 1) (x := a24) kc_24_0 rfl rfl ?_
                    refine xi_iconst (pc' := 2) (v := 0) kc_24_1 rfl rfl ?_
                    refine xi_bipush (pc' := 4) (v := 11) kc_24_2 rfl rfl ?_
                    refine xi_static (mj := 11) (as := [.int a24, .int 0, .int 11]) (st1 := []) (lv0 := [(0, .int a24), (1, .int 0), (2, .int 11)]) kc_24_4 rfl rfl (Nat.le_of_ble_eq_true rfl) rfl rfl (Nat.le_of_ble_eq_true rfl) (hJ _ _ _ _ (by decide)) (xm_le ml_11 rfl) rfl ?_
                    refine xi_iload_n (pc' := 1) (x := a24) kc_11_0 rfl rfl ?_
                    refine xi_iload_n (pc' := 2) (x := 0) kc_11_1 rfl rfl ?_
                    refine xi_cmf (pc' := 5) kc_11_2 rfl (xc_lt_f (X := a24.toInt) (Y := 0) rfl (by decide) (by omega)) ?_
                    refine xi_iload_n (pc' := 6) (x := a24) kc_11_5 rfl rfl ?_
                    refine xi_iload_n (pc' := 7) (x := 11) kc_11_6 rfl rfl ?_
                    refine xi_cmf (pc' := 10) kc_11_7 rfl (xc_gt_f (X := a24.toInt) (Y := 11) rfl (by decide) (by omega)) ?_
                    refine xi_iconst (pc' := 11) (v := 1) kc_11_10 rfl rfl ?_
                    refine xi_goto (pc' := 15) kc_11_11 rfl ?_
                    refine xi_ireturn kc_11_15 mr_11 rfl ?_
                    show xw J ov 97 24 (7, [(0, .int a24)], [.int 1], hh190) _
                    refine xi_ireturn kc_24_7 mr_24 rfl ?_
                    show xw J ov 98 31 (4, [(0, .ref 115), (1, .int a24)], [.int 1], hh190) _
                    refine xi_iff (pc' := 7) kc_31_4 rfl rfl ?_
                    refine xi_aload_n (pc' := 8) (x := 115) kc_31_7 rfl rfl ?_
                    refine xi_getfield (pc' := 11) (v := .ref 125) kc_31_8 rfl rfl rfl eh189.1 rfl ?_
                    refine xi_iload_n (pc' := 12) (x := a24) kc_31_11 rfl rfl ?_
                    have A192 := ((eh189.2.1 125 (by decide)).trans ((eh186.2.1 125 (by decide)).trans A86))
                    refine xi_iaload (pc' := 13) (v := u80) kc_31_12 rfl A192 (by decide) rfl (xi_in (by omega) (by rw [hy86]; omega)) HG87 ?_
                    refine xi_iff (pc' := 16) kc_31_13 rfl (xc_lt_f (X := u80.toInt) (Y := 0) rfl (by decide) (by omega)) ?_
                    refine xi_iconst (pc' := 17) (v := 1) kc_31_16 rfl rfl ?_
                    refine xi_goto (pc' := 21) kc_31_17 rfl ?_
                    refine xi_ireturn kc_31_21 mr_31 rfl ?_
                    show xw J ov 99 30 (10, [(0, .ref 115), (1, .int a24), (2, .int a26), (3, .int a28), (4, .int a30)], [.int 1], hh190) _
                    refine xi_ift (pc' := 19) kc_30_10 rfl rfl ?_
                    refine xi_iload_n (pc' := 20) (x := a26) kc_30_19 rfl rfl ?_
                    refine xi_aload_n (pc' := 21) (x := 115) kc_30_20 rfl rfl ?_
                    refine xi_getfield (pc' := 24) (v := .int u2) kc_30_21 rfl rfl rfl eh189.1 rfl ?_
                    refine xi_cmf (pc' := 27) kc_30_24 rfl (xc_gt_f (X := a26.toInt) (Y := u2.toInt) rfl rfl (by omega)) ?_
                    refine xi_aload_n (pc' := 28) (x := 115) kc_30_27 rfl rfl ?_
                    refine xi_getfield (pc' := 31) (v := .int u19) kc_30_28 rfl rfl rfl eh189.1 rfl ?_
                    refine xi_ift (pc' := 56) kc_30_31 rfl (xc_le_t (X := u19.toInt) (Y := 0) rfl (by decide) (by omega)) ?_
                    refine xi_iload_n (pc' := 57) (x := a26) kc_30_56 rfl rfl ?_
                    refine xi_iff (pc' := 60) kc_30_57 rfl (xc_lt_f (X := a26.toInt) (Y := 0) rfl (by decide) (by omega)) ?_
                    refine xi_iload_n (pc' := 61) (x := a28) kc_30_60 rfl rfl ?_
                    refine xi_iff (pc' := 64) kc_30_61 rfl (xc_lt_f (X := a28.toInt) (Y := 0) rfl (by decide) (by omega)) ?_
                    refine xi_iload (pc' := 66) (x := a30) kc_30_64 rfl rfl ?_
                    refine xi_ift (pc' := 76) kc_30_66 rfl (xc_ge_t (X := a30.toInt) (Y := 0) rfl (by decide) (by omega)) ?_
                    refine xi_iload_n (pc' := 77) (x := a28) kc_30_76 rfl rfl ?_
                    refine xi_ldc (pc' := 79) (v := 99999) kc_30_77 rfl rfl ?_
                    refine xi_cmt (pc' := 99) kc_30_79 rfl (xc_gt_t (X := a28.toInt) (Y := 99999) rfl (by decide) (by omega)) ?_
                    refine xi_aload_n (pc' := 100) (x := 115) kc_30_99 rfl rfl ?_
                    refine xi_bipush (pc' := 102) (v := (-6)) kc_30_100 rfl rfl ?_
                    refine xi_virtual (mj := 12) (as := [.int (-6)]) (st1 := []) (lv0 := [(0, .ref 115), (1, .int (-6))]) kc_30_102 rfl rfl rfl rfl rfl eh189.1 (Nat.le_of_ble_eq_true rfl) (hJ _ _ _ _ (by decide)) (xm_le ml_12 rfl) rfl ?_
                    refine xi_aload_n (pc' := 1) (x := 115) kc_12_0 rfl rfl ?_
                    refine xi_getfield (pc' := 4) (v := .ref 140) kc_12_1 rfl rfl rfl eh189.1 rfl ?_
                    refine xi_iload_n (pc' := 5) (x := (-6)) kc_12_4 rfl rfl ?_
                    refine xi_ineg (pc' := 6) (v := 6) kc_12_5 rfl rfl ?_
                    refine xi_dup2 (pc' := 7) kc_12_6 rfl ⟨rfl, rfl⟩ ?_
                    obtain ⟨y193, A193, hy193, ry193⟩ := xk_arr K.1 xD_140
                    obtain ⟨v194, ev194, bv194, dv194⟩ := xj_get hy193 ry193 (i := 6) (by decide) (by decide)
                    have A195 := ((eh189.2.1 140 (by decide)).trans ((eh186.2.1 140 (by decide)).trans A193))
                    refine xi_iaload (pc' := 8) (v := v194) kc_12_7 rfl A195 (by decide) rfl (xi_in (by decide) (by rw [hy193]; decide)) ev194 ?_
                    refine xi_iconst (pc' := 9) (v := 1) kc_12_8 rfl rfl ?_
                    obtain ⟨v196, ev196⟩ : ∃ q : Int32, (v194 : Int32) + 1 = q := ⟨_, rfl⟩
                    have rv196 := xc_rng v196
                    refine xi_iadd (pc' := 10) (v := v196) kc_12_9 rfl ev196 ?_
                    obtain ⟨y197, s197, hy197, ry197⟩ := xj_set (v := v196) hy193 ry193 6 (by first | omega | decide) (by first | omega | decide)
                    refine xi_iastore (pc' := 11) (x' := y197) kc_12_10 rfl A195 rfl (xi_in (by decide) (by rw [hy193]; decide)) s197 (fun hh197 eh197 => ?_)
                    have K198 := xk_pa K191 (xk_wa rfl) xD_140 hy197 ry197 eh197
                    refine xi_iload_n (pc' := 12) (x := (-6)) kc_12_11 rfl rfl ?_
                    refine xi_ireturn kc_12_12 mr_12 rfl ?_
                    show xw J ov 99 30 (105, [(0, .ref 115), (1, .int a24), (2, .int a26), (3, .int a28), (4, .int a30)], [.int (-6)], hh197) _
                    refine xi_ireturn kc_30_105 mr_30 rfl ?_
                    show xw J ov 100 195 (646, [(4, .int x4), (3, .ref 167), (2, .ref 115), (1, .ref 0), (0, .ref 1000000)], [.int (-6), .int (-6)], hh197) _
                    refine xi_cmt (pc' := 1501) kc_195_646 rfl rfl ?_
                    obtain ⟨v199, ev199⟩ : ∃ q : Int32, x4 + 6 = q := ⟨_, rfl⟩
                    have zv199 : v199.toInt = (x4.toInt + 6) := by rw [← ev199]; exact (xz_add (X := x4.toInt) (Y := 6) rfl (by decide) (by omega) (by omega)).trans (by omega)
                    refine xi_iinc (pc' := 1504) (x := x4) (v := v199) (lv' := [(4, .int v199), (3, .ref 167), (2, .ref 115), (1, .ref 0), (0, .ref 1000000)]) kc_195_1501 rfl rfl ev199 rfl (xm_lt ml_195 rfl) ?_
                    refine xi_goto (pc' := 23) kc_195_1504 rfl ?_
                    have A200 := ((eh197.2.1 0 (by decide)).trans ((eh189.2.1 0 (by decide)).trans ((eh186.2.1 0 (by decide)).trans A3)))
                    have A201 := ((eh197.2.1 115 (by decide)).trans eh189.1)
                    have A202 := ((eh197.2.1 66 (by decide)).trans ((eh189.2.1 66 (by decide)).trans ((eh186.2.1 66 (by decide)).trans A20)))
                    have A203 := ((eh197.2.1 71 (by decide)).trans ((eh189.2.1 71 (by decide)).trans ((eh186.2.1 71 (by decide)).trans A21)))
                    have A204 := ((eh197.2.1 132 (by decide)).trans ((eh189.2.1 132 (by decide)).trans ((eh186.2.1 132 (by decide)).trans A22)))
                    exact kk v199 hh197 (by omega) K198 ⟨(xGR_kept I.1 (fun c hc => ((eh197.2.1 c (Ne.symm (xk_nc hc rfl))).trans ((eh189.2.1 c (Ne.symm (xk_nc hc rfl))).trans (eh186.2.1 c (Ne.symm (xk_nc hc rfl)))))) ((eh197.2.1 125 (by decide)).trans ((eh189.2.1 125 (by decide)).trans (eh186.2.1 125 (by decide))))), ((xl_of A200 rfl).trans (xl_of A201 rfl).symm), ((xl_of A202 rfl).trans (xl_of A201 rfl).symm), ((xl_arr A203).trans (xl_arr A204).symm)⟩
                  · refine xi_cmf (pc' := 69) kc_113_66 rfl (xc_gt_f (X := a28.toInt) (Y := 99999) rfl (by decide) (by omega)) ?_
                    refine xi_iload (pc' := 71) (x := a30) kc_113_69 rfl rfl ?_
                    refine xi_sipush (pc' := 74) (v := 999) kc_113_71 rfl rfl ?_
                    by_cases c205 : 999 < a30.toInt
                    · refine xi_cmt (pc' := 89) kc_113_74 rfl (xc_gt_t (X := a30.toInt) (Y := 999) rfl (by decide) (by omega)) ?_
                      refine xi_aload_n (pc' := 90) (x := 0) kc_113_89 rfl rfl ?_
                      refine xi_bipush (pc' := 92) (v := (-6)) kc_113_90 rfl rfl ?_
                      refine xi_virtual (mj := 90) (as := [.int (-6)]) (st1 := []) (lv0 := [(0, .ref 0), (1, .int (-6))]) kc_113_92 rfl rfl rfl rfl rfl A3 (Nat.le_of_ble_eq_true rfl) (hJ _ _ _ _ (by decide)) (xm_le ml_90 rfl) rfl ?_
                      refine xi_iload_n (pc' := 1) (x := (-6)) kc_90_0 rfl rfl ?_
                      refine xi_ineg (pc' := 2) (v := 6) kc_90_1 rfl rfl ?_
                      refine xi_istore_n (pc' := 3) (lv' := [(2, .int 6), (0, .ref 0), (1, .int (-6))]) kc_90_2 rfl rfl (xm_lt ml_90 rfl) ?_
                      refine xi_iload_n (pc' := 4) (x := 6) kc_90_3 rfl rfl ?_
                      refine xi_iff (pc' := 7) kc_90_4 rfl rfl ?_
                      refine xi_iload_n (pc' := 8) (x := 6) kc_90_7 rfl rfl ?_
                      refine xi_aload_n (pc' := 9) (x := 0) kc_90_8 rfl rfl ?_
                      refine xi_getfield (pc' := 12) (v := .ref 94) kc_90_9 rfl rfl rfl A3 rfl ?_
                      obtain ⟨y206, A206, hy206, ry206⟩ := xk_arr K.1 xD_94
                      refine xi_arraylength (pc' := 13) (n := 7) (v := 7) kc_90_12 rfl (xl_lenI (by decide) (by decide) A206 hy206) rfl ?_
                      refine xi_cmf (pc' := 16) kc_90_13 rfl rfl ?_
                      refine xi_aload_n (pc' := 17) (x := 0) kc_90_16 rfl rfl ?_
                      refine xi_getfield (pc' := 20) (v := .ref 94) kc_90_17 rfl rfl rfl A3 rfl ?_
                      refine xi_iload_n (pc' := 21) (x := 6) kc_90_20 rfl rfl ?_
                      refine xi_dup2 (pc' := 22) kc_90_21 rfl ⟨rfl, rfl⟩ ?_
                      obtain ⟨v207, ev207, bv207, dv207⟩ := xj_get hy206 ry206 (i := 6) (by decide) (by decide)
                      refine xi_iaload (pc' := 23) (v := v207) kc_90_22 rfl A206 (by decide) rfl (xi_in (by decide) (by rw [hy206]; decide)) ev207 ?_
                      refine xi_iconst (pc' := 24) (v := 1) kc_90_23 rfl rfl ?_
                      obtain ⟨v208, ev208⟩ : ∃ q : Int32, (v207 : Int32) + 1 = q := ⟨_, rfl⟩
                      have rv208 := xc_rng v208
                      refine xi_iadd (pc' := 25) (v := v208) kc_90_24 rfl ev208 ?_
                      obtain ⟨y209, s209, hy209, ry209⟩ := xj_set (v := v208) hy206 ry206 6 (by first | omega | decide) (by first | omega | decide)
                      refine xi_iastore (pc' := 26) (x' := y209) kc_90_25 rfl A206 rfl (xi_in (by decide) (by rw [hy206]; decide)) s209 (fun hh209 eh209 => ?_)
                      have K210 := xk_pa K (xk_wa rfl) xD_94 hy209 ry209 eh209
                      refine xi_iload_n (pc' := 27) (x := (-6)) kc_90_26 rfl rfl ?_
                      refine xi_ireturn kc_90_27 mr_90 rfl ?_
                      show xw J ov 99 113 (95, [(0, .ref 0), (1, .int a24), (2, .int a26), (3, .int a28), (4, .int a30)], [.int (-6)], hh209) _
                      refine xi_ireturn kc_113_95 mr_113 rfl ?_
                      show xw J ov 100 195 (618, [(4, .int x4), (3, .ref 167), (2, .ref 115), (1, .ref 0), (0, .ref 1000000)], [.int (-6)], hh209) _
                      refine xi_aload_n (pc' := 619) (x := 115) kc_195_618 rfl rfl ?_
                      refine xi_aload_n (pc' := 620) (x := 1000000) kc_195_619 rfl rfl ?_
                      refine xi_iload (pc' := 622) (x := x4) kc_195_620 rfl rfl ?_
                      refine xi_iconst (pc' := 623) (v := 1) kc_195_622 rfl rfl ?_
                      refine xi_iadd (pc' := 624) (v := v23) kc_195_623 rfl ev23 ?_
                      refine xi_ialoadO (pc' := 625) (v := a24) kc_195_624 rfl (by decide) hov0 (xi_in (by omega) (by omega)) ea24 ?_
                      refine xi_aload_n (pc' := 626) (x := 1000000) kc_195_625 rfl rfl ?_
                      refine xi_iload (pc' := 628) (x := x4) kc_195_626 rfl rfl ?_
                      refine xi_iconst (pc' := 629) (v := 2) kc_195_628 rfl rfl ?_
                      refine xi_iadd (pc' := 630) (v := v25) kc_195_629 rfl ev25 ?_
                      refine xi_ialoadO (pc' := 631) (v := a26) kc_195_630 rfl (by decide) hov0 (xi_in (by omega) (by omega)) ea26 ?_
                      refine xi_aload_n (pc' := 632) (x := 1000000) kc_195_631 rfl rfl ?_
                      refine xi_iload (pc' := 634) (x := x4) kc_195_632 rfl rfl ?_
                      refine xi_iconst (pc' := 635) (v := 3) kc_195_634 rfl rfl ?_
                      refine xi_iadd (pc' := 636) (v := v27) kc_195_635 rfl ev27 ?_
                      refine xi_ialoadO (pc' := 637) (v := a28) kc_195_636 rfl (by decide) hov0 (xi_in (by omega) (by omega)) ea28 ?_
                      refine xi_aload_n (pc' := 638) (x := 1000000) kc_195_637 rfl rfl ?_
                      refine xi_iload (pc' := 640) (x := x4) kc_195_638 rfl rfl ?_
                      refine xi_iconst (pc' := 641) (v := 4) kc_195_640 rfl rfl ?_
                      refine xi_iadd (pc' := 642) (v := v29) kc_195_641 rfl ev29 ?_
                      refine xi_ialoadO (pc' := 643) (v := a30) kc_195_642 rfl (by decide) hov0 (xi_in (by omega) (by omega)) ea30 ?_
                      have A211 := ((eh209.2.1 115 (by decide)).trans A17)
                      refine xi_virtual (mj := 30) (as := [.int a24, .int a26, .int a28, .int a30]) (st1 := [.int (-6)]) (lv0 := [(0, .ref 115), (1, .int a24), (2, .int a26), (3, .int a28), (4, .int a30)]) kc_195_643 rfl rfl rfl rfl rfl A211 (Nat.le_of_ble_eq_true rfl) (hJ _ _ _ _ (by decide)) (xm_le ml_30 rfl) rfl ?_
                      refine xi_aload_n (pc' := 1) (x := 115) kc_30_0 rfl rfl ?_
                      refine xi_iconst (pc' := 2) (v := 0) kc_30_1 rfl rfl ?_
                      refine xi_putfield (pc' := 5) (fs' := [.int 0, .int u2, .ref 116, .ref 117, .ref 118, .ref 119, .ref 120, .ref 121, .ref 122, .ref 123, .ref 124, .ref 125, .ref 126, .ref 127, .ref 128, .ref 129, .int u6, .ref 130, .int u19, .ref 131, .ref 132, .ref 133, .ref 134, .int u8, .ref 135, .ref 136, .ref 137, .ref 138, .ref 139, .ref 140, .ref 141, .ref 142, .int u9, .int u10, .int u11, .ref 143, .ref 144, .ref 145, .ref 146, .ref 147, .ref 148, .int u12, .ref 149, .ref 150, .ref 151, .int u13, .ref 152, .ref 153, .ref 154, .ref 155, .ref 156, .ref 157, .ref 158, .ref 159, .int u14, .ref 160, .int u15, .ref 161, .ref 162, .ref 163, .ref 164, .int u16, .ref 165, .ref 166]) kc_30_2 rfl rfl rfl A211 rfl rfl rfl (Nat.le_of_ble_eq_true rfl) rfl (fun hh213 eh212 => ?_)
                      have K214 := xk_pf (k := 0) (v := 0) K210 (xk_wf rfl) xD_115 A211 rfl (by first | omega | decide) (by first | omega | decide) eh212 rfl
                      refine xi_aload_n (pc' := 6) (x := 115) kc_30_5 rfl rfl ?_
                      refine xi_iload_n (pc' := 7) (x := a24) kc_30_6 rfl rfl ?_
                      refine xi_virtual (mj := 31) (as := [.int a24]) (st1 := []) (lv0 := [(0, .ref 115), (1, .int a24)]) kc_30_7 rfl rfl rfl rfl rfl eh212.1 (Nat.le_of_ble_eq_true rfl) (hJ _ _ _ _ (by decide)) (xm_le ml_31 rfl) rfl ?_
                      refine xi_iload_n (pc' := 1) (x := a24) kc_31_0 rfl rfl ?_
                      refine xi_static (mj := 24) (as := [.int a24]) (st1 := []) (lv0 := [(0, .int a24)]) kc_31_1 rfl rfl (Nat.le_of_ble_eq_true rfl) rfl rfl (Nat.le_of_ble_eq_true rfl) (hJ _ _ _ _ (by decide)) (xm_le ml_24 rfl) rfl ?_
                      refine xi_iload_n (pc' := 1) (x := a24) kc_24_0 rfl rfl ?_
                      refine xi_iconst (pc' := 2) (v := 0) kc_24_1 rfl rfl ?_
                      refine xi_bipush (pc' := 4) (v := 11) kc_24_2 rfl rfl ?_
                      refine xi_static (mj := 11) (as := [.int a24, .int 0, .int 11]) (st1 := []) (lv0 := [(0, .int a24), (1, .int 0), (2, .int 11)]) kc_24_4 rfl rfl (Nat.le_of_ble_eq_true rfl) rfl rfl (Nat.le_of_ble_eq_true rfl) (hJ _ _ _ _ (by decide)) (xm_le ml_11 rfl) rfl ?_
                      refine xi_iload_n (pc' := 1) (x := a24) kc_11_0 rfl rfl ?_
                      refine xi_iload_n (pc' := 2) (x := 0) kc_11_1 rfl rfl ?_
                      refine xi_cmf (pc' := 5) kc_11_2 rfl (xc_lt_f (X := a24.toInt) (Y := 0) rfl (by decide) (by omega)) ?_
                      refine xi_iload_n (pc' := 6) (x := a24) kc_11_5 rfl rfl ?_
                      refine xi_iload_n (pc' := 7) (x := 11) kc_11_6 rfl rfl ?_
                      refine xi_cmf (pc' := 10) kc_11_7 rfl (xc_gt_f (X := a24.toInt) (Y := 11) rfl (by decide) (by omega)) ?_
                      refine xi_iconst (pc' := 11) (v := 1) kc_11_10 rfl rfl ?_
                      refine xi_goto (pc' := 15) kc_11_11 rfl ?_
                      refine xi_ireturn kc_11_15 mr_11 rfl ?_
                      show xw J ov 97 24 (7, [(0, .int a24)], [.int 1], hh213) _
                      refine xi_ireturn kc_24_7 mr_24 rfl ?_
                      show xw J ov 98 31 (4, [(0, .ref 115), (1, .int a24)], [.int 1], hh213) _
                      refine xi_iff (pc' := 7) kc_31_4 rfl rfl ?_
                      refine xi_aload_n (pc' := 8) (x := 115) kc_31_7 rfl rfl ?_
                      refine xi_getfield (pc' := 11) (v := .ref 125) kc_31_8 rfl rfl rfl eh212.1 rfl ?_
                      refine xi_iload_n (pc' := 12) (x := a24) kc_31_11 rfl rfl ?_
                      have A215 := ((eh212.2.1 125 (by decide)).trans ((eh209.2.1 125 (by decide)).trans A86))
                      refine xi_iaload (pc' := 13) (v := u80) kc_31_12 rfl A215 (by decide) rfl (xi_in (by omega) (by rw [hy86]; omega)) HG87 ?_
                      refine xi_iff (pc' := 16) kc_31_13 rfl (xc_lt_f (X := u80.toInt) (Y := 0) rfl (by decide) (by omega)) ?_
                      refine xi_iconst (pc' := 17) (v := 1) kc_31_16 rfl rfl ?_
                      refine xi_goto (pc' := 21) kc_31_17 rfl ?_
                      refine xi_ireturn kc_31_21 mr_31 rfl ?_
                      show xw J ov 99 30 (10, [(0, .ref 115), (1, .int a24), (2, .int a26), (3, .int a28), (4, .int a30)], [.int 1], hh213) _
                      refine xi_ift (pc' := 19) kc_30_10 rfl rfl ?_
                      refine xi_iload_n (pc' := 20) (x := a26) kc_30_19 rfl rfl ?_
                      refine xi_aload_n (pc' := 21) (x := 115) kc_30_20 rfl rfl ?_
                      refine xi_getfield (pc' := 24) (v := .int u2) kc_30_21 rfl rfl rfl eh212.1 rfl ?_
                      refine xi_cmf (pc' := 27) kc_30_24 rfl (xc_gt_f (X := a26.toInt) (Y := u2.toInt) rfl rfl (by omega)) ?_
                      refine xi_aload_n (pc' := 28) (x := 115) kc_30_27 rfl rfl ?_
                      refine xi_getfield (pc' := 31) (v := .int u19) kc_30_28 rfl rfl rfl eh212.1 rfl ?_
                      refine xi_ift (pc' := 56) kc_30_31 rfl (xc_le_t (X := u19.toInt) (Y := 0) rfl (by decide) (by omega)) ?_
                      refine xi_iload_n (pc' := 57) (x := a26) kc_30_56 rfl rfl ?_
                      refine xi_iff (pc' := 60) kc_30_57 rfl (xc_lt_f (X := a26.toInt) (Y := 0) rfl (by decide) (by omega)) ?_
                      refine xi_iload_n (pc' := 61) (x := a28) kc_30_60 rfl rfl ?_
                      refine xi_iff (pc' := 64) kc_30_61 rfl (xc_lt_f (X := a28.toInt) (Y := 0) rfl (by decide) (by omega)) ?_
                      refine xi_iload (pc' := 66) (x := a30) kc_30_64 rfl rfl ?_
                      refine xi_ift (pc' := 76) kc_30_66 rfl (xc_ge_t (X := a30.toInt) (Y := 0) rfl (by decide) (by omega)) ?_
                      refine xi_iload_n (pc' := 77) (x := a28) kc_30_76 rfl rfl ?_
                      refine xi_ldc (pc' := 79) (v := 99999) kc_30_77 rfl rfl ?_
                      refine xi_cmf (pc' := 82) kc_30_79 rfl (xc_gt_f (X := a28.toInt) (Y := 99999) rfl (by decide) (by omega)) ?_
                      refine xi_iload (pc' := 84) (x := a30) kc_30_82 rfl rfl ?_
                      refine xi_sipush (pc' := 87) (v := 999) kc_30_84 rfl rfl ?_
                      refine xi_cmt (pc' := 99) kc_30_87 rfl (xc_gt_t (X := a30.toInt) (Y := 999) rfl (by decide) (by omega)) ?_
                      refine xi_aload_n (pc' := 100) (x := 115) kc_30_99 rfl rfl ?_
                      refine xi_bipush (pc' := 102) (v := (-6)) kc_30_100 rfl rfl ?_
                      refine xi_virtual (mj := 12) (as := [.int (-6)]) (st1 := []) (lv0 := [(0, .ref 115), (1, .int (-6))]) kc_30_102 rfl rfl rfl rfl rfl eh212.1 (Nat.le_of_ble_eq_true rfl) (hJ _ _ _ _ (by decide)) (xm_le ml_12 rfl) rfl ?_
                      refine xi_aload_n (pc' := 1) (x := 115) kc_12_0 rfl rfl ?_
                      refine xi_getfield (pc' := 4) (v := .ref 140) kc_12_1 rfl rfl rfl eh212.1 rfl ?_
                      refine xi_iload_n (pc' := 5) (x := (-6)) kc_12_4 rfl rfl ?_
                      refine xi_ineg (pc' := 6) (v := 6) kc_12_5 rfl rfl ?_
                      refine xi_dup2 (pc' := 7) kc_12_6 rfl ⟨rfl, rfl⟩ ?_
                      obtain ⟨y216, A216, hy216, ry216⟩ := xk_arr K.1 xD_140
                      obtain ⟨v217, ev217, bv217, dv217⟩ := xj_get hy216 ry216 (i := 6) (by decide) (by decide)
                      have A218 := ((eh212.2.1 140 (by decide)).trans ((eh209.2.1 140 (by decide)).trans A216))
                      refine xi_iaload (pc' := 8) (v := v217) kc_12_7 rfl A218 (by decide) rfl (xi_in (by decide) (by rw [hy216]; decide)) ev217 ?_
                      refine xi_iconst (pc' := 9) (v := 1) kc_12_8 rfl rfl ?_
                      obtain ⟨v219, ev219⟩ : ∃ q : Int32, (v217 : Int32) + 1 = q := ⟨_, rfl⟩
                      have rv219 := xc_rng v219
                      refine xi_iadd (pc' := 10) (v := v219) kc_12_9 rfl ev219 ?_
                      obtain ⟨y220, s220, hy220, ry220⟩ := xj_set (v := v219) hy216 ry216 6 (by first | omega | decide) (by first | omega | decide)
                      refine xi_iastore (pc' := 11) (x' := y220) kc_12_10 rfl A218 rfl (xi_in (by decide) (by rw [hy216]; decide)) s220 (fun hh220 eh220 => ?_)
                      have K221 := xk_pa K214 (xk_wa rfl) xD_140 hy220 ry220 eh220
                      refine xi_iload_n (pc' := 12) (x := (-6)) kc_12_11 rfl rfl ?_
                      refine xi_ireturn kc_12_12 mr_12 rfl ?_
                      show xw J ov 99 30 (105, [(0, .ref 115), (1, .int a24), (2, .int a26), (3, .int a28), (4, .int a30)], [.int (-6)], hh220) _
                      refine xi_ireturn kc_30_105 mr_30 rfl ?_
                      show xw J ov 100 195 (646, [(4, .int x4), (3, .ref 167), (2, .ref 115), (1, .ref 0), (0, .ref 1000000)], [.int (-6), .int (-6)], hh220) _
                      refine xi_cmt (pc' := 1501) kc_195_646 rfl rfl ?_
                      obtain ⟨v222, ev222⟩ : ∃ q : Int32, x4 + 6 = q := ⟨_, rfl⟩
                      have zv222 : v222.toInt = (x4.toInt + 6) := by rw [← ev222]; exact (xz_add (X := x4.toInt) (Y := 6) rfl (by decide) (by omega) (by omega)).trans (by omega)
                      refine xi_iinc (pc' := 1504) (x := x4) (v := v222) (lv' := [(4, .int v222), (3, .ref 167), (2, .ref 115), (1, .ref 0), (0, .ref 1000000)]) kc_195_1501 rfl rfl ev222 rfl (xm_lt ml_195 rfl) ?_
                      refine xi_goto (pc' := 23) kc_195_1504 rfl ?_
                      have A223 := ((eh220.2.1 0 (by decide)).trans ((eh212.2.1 0 (by decide)).trans ((eh209.2.1 0 (by decide)).trans A3)))
                      have A224 := ((eh220.2.1 115 (by decide)).trans eh212.1)
                      have A225 := ((eh220.2.1 66 (by decide)).trans ((eh212.2.1 66 (by decide)).trans ((eh209.2.1 66 (by decide)).trans A20)))
                      have A226 := ((eh220.2.1 71 (by decide)).trans ((eh212.2.1 71 (by decide)).trans ((eh209.2.1 71 (by decide)).trans A21)))
                      have A227 := ((eh220.2.1 132 (by decide)).trans ((eh212.2.1 132 (by decide)).trans ((eh209.2.1 132 (by decide)).trans A22)))
                      exact kk v222 hh220 (by omega) K221 ⟨(xGR_kept I.1 (fun c hc => ((eh220.2.1 c (Ne.symm (xk_nc hc rfl))).trans ((eh212.2.1 c (Ne.symm (xk_nc hc rfl))).trans (eh209.2.1 c (Ne.symm (xk_nc hc rfl)))))) ((eh220.2.1 125 (by decide)).trans ((eh212.2.1 125 (by decide)).trans (eh209.2.1 125 (by decide))))), ((xl_of A223 rfl).trans (xl_of A224 rfl).symm), ((xl_of A225 rfl).trans (xl_of A224 rfl).symm), ((xl_arr A226).trans (xl_arr A227).symm)⟩
                    · refine xi_cmf (pc' := 77) kc_113_74 rfl (xc_gt_f (X := a30.toInt) (Y := 999) rfl (by decide) (by omega)) ?_
                      refine xi_aload_n (pc' := 78) (x := 0) kc_113_77 rfl rfl ?_
                      refine xi_getfield (pc' := 81) (v := .ref 66) kc_113_78 rfl rfl rfl A3 rfl ?_
                      refine xi_getfield (pc' := 84) (v := .int u19) kc_113_81 rfl rfl rfl A20 rfl ?_
                      refine xi_bipush (pc' := 86) (v := 60) kc_113_84 rfl rfl ?_
                      refine xi_cmt (pc' := 96) kc_113_86 rfl (xc_lt_t (X := u19.toInt) (Y := 60) rfl (by decide) (by omega)) ?_
                      refine xi_aload_n (pc' := 97) (x := 0) kc_113_96 rfl rfl ?_
                      refine xi_getfield (pc' := 100) (v := .ref 66) kc_113_97 rfl rfl rfl A3 rfl ?_
                      refine xi_virtual (mj := 91) (as := []) (st1 := []) (lv0 := [(0, .ref 66)]) kc_113_100 rfl rfl rfl rfl rfl A20 (Nat.le_of_ble_eq_true rfl) (hJ _ _ _ _ (by decide)) (xm_le ml_91 rfl) rfl ?_
                      refine xi_aload_n (pc' := 1) (x := 66) kc_91_0 rfl rfl ?_
                      refine xi_lconst (pc' := 2) (v := 0) kc_91_1 rfl rfl ?_
                      refine xi_putfield (pc' := 5) (fs' := [.ref 1, .ref 67, .ref 70, .ref 71, .ref 72, .ref 73, .ref 74, .long 0, .int u19]) kc_91_2 rfl rfl rfl A20 rfl rfl rfl (Nat.le_of_ble_eq_true rfl) rfl (fun hh229 eh228 => ?_)
                      have K230 := xk_pl (k := 7) (v := 0) K (xk_wf rfl) xD_66 A20 rfl eh228 rfl
                      refine xi_return kc_91_5 mr_91 ?_
                      show xw J ov 99 113 (103, [(0, .ref 0), (1, .int a24), (2, .int a26), (3, .int a28), (4, .int a30)], [], hh229) _
                      refine xi_aload_n (pc' := 104) (x := 0) kc_113_103 rfl rfl ?_
                      have A231 := ((eh228.2.1 0 (by decide)).trans A3)
                      refine xi_getfield (pc' := 107) (v := .ref 66) kc_113_104 rfl rfl rfl A231 rfl ?_
                      refine xi_iload_n (pc' := 108) (x := a24) kc_113_107 rfl rfl ?_
                      refine xi_iload_n (pc' := 109) (x := a26) kc_113_108 rfl rfl ?_
                      refine xi_iload_n (pc' := 110) (x := a28) kc_113_109 rfl rfl ?_
                      refine xi_iload (pc' := 112) (x := a30) kc_113_110 rfl rfl ?_
                      obtain ⟨v232, ev232⟩ : ∃ q : Int32, a28 - a30 = q := ⟨_, rfl⟩
                      have zv232 : v232.toInt = (a28.toInt + (-1) * a30.toInt) := by rw [← ev232]; exact (xz_sub (X := a28.toInt) (Y := a30.toInt) rfl rfl (by omega) (by omega)).trans (by omega)
                      refine xi_isub (pc' := 113) (v := v232) kc_113_112 rfl ev232 ?_
                      refine xi_iload_n (pc' := 114) (x := a28) kc_113_113 rfl rfl ?_
                      refine xi_iload (pc' := 116) (x := a30) kc_113_114 rfl rfl ?_
                      obtain ⟨v233, ev233⟩ : ∃ q : Int32, a28 + a30 = q := ⟨_, rfl⟩
                      have zv233 : v233.toInt = (a28.toInt + a30.toInt) := by rw [← ev233]; exact (xz_add (X := a28.toInt) (Y := a30.toInt) rfl rfl (by omega) (by omega)).trans (by omega)
                      refine xi_iadd (pc' := 117) (v := v233) kc_113_116 rfl ev233 ?_
                      refine xi_virtual (mj := 115) (as := [.int a24, .int a26, .int v232, .int v233]) (st1 := []) (lv0 := [(0, .ref 66), (1, .int a24), (2, .int a26), (3, .int v232), (4, .int v233)]) kc_113_117 rfl rfl rfl rfl rfl eh228.1 (Nat.le_of_ble_eq_true rfl) (hJ _ _ _ _ (by decide)) (xm_le ml_115 rfl) rfl ?_
                      refine xi_aload_n (pc' := 1) (x := 66) kc_115_0 rfl rfl ?_
                      refine xi_getfield (pc' := 4) (v := .int u19) kc_115_1 rfl rfl rfl eh228.1 rfl ?_
                      refine xi_bipush (pc' := 6) (v := 60) kc_115_4 rfl rfl ?_
                      refine xi_cmt (pc' := 12) kc_115_6 rfl (xc_lt_t (X := u19.toInt) (Y := 60) rfl (by decide) (by omega)) ?_
                      refine xi_aload_n (pc' := 13) (x := 66) kc_115_12 rfl rfl ?_
                      refine xi_getfield (pc' := 16) (v := .ref 70) kc_115_13 rfl rfl rfl eh228.1 rfl ?_
                      refine xi_aload_n (pc' := 17) (x := 66) kc_115_16 rfl rfl ?_
                      refine xi_getfield (pc' := 20) (v := .int u19) kc_115_17 rfl rfl rfl eh228.1 rfl ?_
                      refine xi_iload_n (pc' := 21) (x := a24) kc_115_20 rfl rfl ?_
                      obtain ⟨y234, A234, hy234, ry234⟩ := xk_arr K.1 xD_70
                      have A235 := ((eh228.2.1 70 (by decide)).trans A234)
                      obtain ⟨y236, s236, hy236, ry236⟩ := xj_set (v := a24) hy234 ry234 u19 (by first | omega | decide) (by first | omega | decide)
                      refine xi_iastore (pc' := 22) (x' := y236) kc_115_21 rfl A235 rfl (xi_in (by omega) (by rw [hy234]; omega)) s236 (fun hh236 eh236 => ?_)
                      have K237 := xk_pa K230 (xk_wa rfl) xD_70 hy236 ry236 eh236
                      refine xi_aload_n (pc' := 23) (x := 66) kc_115_22 rfl rfl ?_
                      have A238 := ((eh236.2.1 66 (by decide)).trans eh228.1)
                      refine xi_getfield (pc' := 26) (v := .ref 71) kc_115_23 rfl rfl rfl A238 rfl ?_
                      refine xi_aload_n (pc' := 27) (x := 66) kc_115_26 rfl rfl ?_
                      refine xi_getfield (pc' := 30) (v := .int u19) kc_115_27 rfl rfl rfl A238 rfl ?_
                      refine xi_iload_n (pc' := 31) (x := a26) kc_115_30 rfl rfl ?_
                      have A239 := ((eh236.2.1 71 (by decide)).trans ((eh228.2.1 71 (by decide)).trans A21))
                      obtain ⟨y240, s240, hy240, ry240⟩ := xj_set (v := a26) hy21 ry21 u19 (by first | omega | decide) (by first | omega | decide)
                      refine xi_iastore (pc' := 32) (x' := y240) kc_115_31 rfl A239 rfl (xi_in (by omega) (by rw [hy21]; omega)) s240 (fun hh240 eh240 => ?_)
                      have K241 := xk_pa K237 (xk_wa rfl) xD_71 hy240 ry240 eh240
                      refine xi_aload_n (pc' := 33) (x := 66) kc_115_32 rfl rfl ?_
                      have A242 := ((eh240.2.1 66 (by decide)).trans A238)
                      refine xi_getfield (pc' := 36) (v := .ref 72) kc_115_33 rfl rfl rfl A242 rfl ?_
                      refine xi_aload_n (pc' := 37) (x := 66) kc_115_36 rfl rfl ?_
                      refine xi_getfield (pc' := 40) (v := .int u19) kc_115_37 rfl rfl rfl A242 rfl ?_
                      refine xi_iload_n (pc' := 41) (x := v232) kc_115_40 rfl rfl ?_
                      obtain ⟨y243, A243, hy243, ry243⟩ := xk_arr K.1 xD_72
                      have A244 := ((eh240.2.1 72 (by decide)).trans ((eh236.2.1 72 (by decide)).trans ((eh228.2.1 72 (by decide)).trans A243)))
                      obtain ⟨y245, s245, hy245, ry245⟩ := xj_set (v := v232) hy243 ry243 u19 (by first | omega | decide) (by first | omega | decide)
                      refine xi_iastore (pc' := 42) (x' := y245) kc_115_41 rfl A244 rfl (xi_in (by omega) (by rw [hy243]; omega)) s245 (fun hh245 eh245 => ?_)
                      have K246 := xk_pa K241 (xk_wa rfl) xD_72 hy245 ry245 eh245
                      refine xi_aload_n (pc' := 43) (x := 66) kc_115_42 rfl rfl ?_
                      have A247 := ((eh245.2.1 66 (by decide)).trans A242)
                      refine xi_getfield (pc' := 46) (v := .ref 73) kc_115_43 rfl rfl rfl A247 rfl ?_
                      refine xi_aload_n (pc' := 47) (x := 66) kc_115_46 rfl rfl ?_
                      refine xi_getfield (pc' := 50) (v := .int u19) kc_115_47 rfl rfl rfl A247 rfl ?_
                      refine xi_iload (pc' := 52) (x := v233) kc_115_50 rfl rfl ?_
                      obtain ⟨y248, A248, hy248, ry248⟩ := xk_arr K.1 xD_73
                      have A249 := ((eh245.2.1 73 (by decide)).trans ((eh240.2.1 73 (by decide)).trans ((eh236.2.1 73 (by decide)).trans ((eh228.2.1 73 (by decide)).trans A248))))
                      obtain ⟨y250, s250, hy250, ry250⟩ := xj_set (v := v233) hy248 ry248 u19 (by first | omega | decide) (by first | omega | decide)
                      refine xi_iastore (pc' := 53) (x' := y250) kc_115_52 rfl A249 rfl (xi_in (by omega) (by rw [hy248]; omega)) s250 (fun hh250 eh250 => ?_)
                      have K251 := xk_pa K246 (xk_wa rfl) xD_73 hy250 ry250 eh250
                      refine xi_aload_n (pc' := 54) (x := 66) kc_115_53 rfl rfl ?_
                      refine xi_dup (pc' := 55) kc_115_54 rfl rfl ?_
                      have A252 := ((eh250.2.1 66 (by decide)).trans A247)
                      refine xi_getfield (pc' := 58) (v := .int u19) kc_115_55 rfl rfl rfl A252 rfl ?_
                      refine xi_iconst (pc' := 59) (v := 1) kc_115_58 rfl rfl ?_
                      obtain ⟨v253, ev253⟩ : ∃ q : Int32, u19 + 1 = q := ⟨_, rfl⟩
                      have zv253 : v253.toInt = (u19.toInt + 1) := by rw [← ev253]; exact (xz_add (X := u19.toInt) (Y := 1) rfl (by decide) (by omega) (by omega)).trans (by omega)
                      refine xi_iadd (pc' := 60) (v := v253) kc_115_59 rfl ev253 ?_
                      refine xi_putfield (pc' := 63) (fs' := [.ref 1, .ref 67, .ref 70, .ref 71, .ref 72, .ref 73, .ref 74, .long 0, .int v253]) kc_115_60 rfl rfl rfl A252 rfl rfl rfl (Nat.le_of_ble_eq_true rfl) rfl (fun hh255 eh254 => ?_)
                      have K256 := xk_pf (k := 8) (v := v253) K251 (xk_wf rfl) xD_66 A252 rfl (by first | omega | decide) (by first | omega | decide) eh254 rfl
                      refine xi_aload_n (pc' := 64) (x := 66) kc_115_63 rfl rfl ?_
                      refine xi_getfield (pc' := 67) (v := .int v253) kc_115_64 rfl rfl rfl eh254.1 rfl ?_
                      refine xi_iconst (pc' := 68) (v := 1) kc_115_67 rfl rfl ?_
                      obtain ⟨v257, ev257⟩ : ∃ q : Int32, v253 - 1 = q := ⟨_, rfl⟩
                      have zv257 : v257.toInt = u19.toInt := by rw [← ev257]; exact (xz_sub (X := (u19.toInt + 1)) (Y := 1) zv253 (by decide) (by omega) (by omega)).trans (by omega)
                      refine xi_isub (pc' := 69) (v := v257) kc_115_68 rfl ev257 ?_
                      refine xi_ireturn kc_115_69 mr_115 rfl ?_
                      show xw J ov 99 113 (120, [(0, .ref 0), (1, .int a24), (2, .int a26), (3, .int a28), (4, .int a30)], [.int v257], hh255) _
                      refine xi_ireturn kc_113_120 mr_113 rfl ?_
                      show xw J ov 100 195 (618, [(4, .int x4), (3, .ref 167), (2, .ref 115), (1, .ref 0), (0, .ref 1000000)], [.int v257], hh255) _
                      refine xi_aload_n (pc' := 619) (x := 115) kc_195_618 rfl rfl ?_
                      refine xi_aload_n (pc' := 620) (x := 1000000) kc_195_619 rfl rfl ?_
                      refine xi_iload (pc' := 622) (x := x4) kc_195_620 rfl rfl ?_
                      refine xi_iconst (pc' := 623) (v := 1) kc_195_622 rfl rfl ?_
                      refine xi_iadd (pc' := 624) (v := v23) kc_195_623 rfl ev23 ?_
                      refine xi_ialoadO (pc' := 625) (v := a24) kc_195_624 rfl (by decide) hov0 (xi_in (by omega) (by omega)) ea24 ?_
                      refine xi_aload_n (pc' := 626) (x := 1000000) kc_195_625 rfl rfl ?_
                      refine xi_iload (pc' := 628) (x := x4) kc_195_626 rfl rfl ?_
                      refine xi_iconst (pc' := 629) (v := 2) kc_195_628 rfl rfl ?_
                      refine xi_iadd (pc' := 630) (v := v25) kc_195_629 rfl ev25 ?_
                      refine xi_ialoadO (pc' := 631) (v := a26) kc_195_630 rfl (by decide) hov0 (xi_in (by omega) (by omega)) ea26 ?_
                      refine xi_aload_n (pc' := 632) (x := 1000000) kc_195_631 rfl rfl ?_
                      refine xi_iload (pc' := 634) (x := x4) kc_195_632 rfl rfl ?_
                      refine xi_iconst (pc' := 635) (v := 3) kc_195_634 rfl rfl ?_
                      refine xi_iadd (pc' := 636) (v := v27) kc_195_635 rfl ev27 ?_
                      refine xi_ialoadO (pc' := 637) (v := a28) kc_195_636 rfl (by decide) hov0 (xi_in (by omega) (by omega)) ea28 ?_
                      refine xi_aload_n (pc' := 638) (x := 1000000) kc_195_637 rfl rfl ?_
                      refine xi_iload (pc' := 640) (x := x4) kc_195_638 rfl rfl ?_
                      refine xi_iconst (pc' := 641) (v := 4) kc_195_640 rfl rfl ?_
                      refine xi_iadd (pc' := 642) (v := v29) kc_195_641 rfl ev29 ?_
                      refine xi_ialoadO (pc' := 643) (v := a30) kc_195_642 rfl (by decide) hov0 (xi_in (by omega) (by omega)) ea30 ?_
                      have A258 := ((eh254.2.1 115 (by decide)).trans ((eh250.2.1 115 (by decide)).trans ((eh245.2.1 115 (by decide)).trans ((eh240.2.1 115 (by decide)).trans ((eh236.2.1 115 (by decide)).trans ((eh228.2.1 115 (by decide)).trans A17))))))
                      refine xi_virtual (mj := 30) (as := [.int a24, .int a26, .int a28, .int a30]) (st1 := [.int v257]) (lv0 := [(0, .ref 115), (1, .int a24), (2, .int a26), (3, .int a28), (4, .int a30)]) kc_195_643 rfl rfl rfl rfl rfl A258 (Nat.le_of_ble_eq_true rfl) (hJ _ _ _ _ (by decide)) (xm_le ml_30 rfl) rfl ?_
                      refine xi_aload_n (pc' := 1) (x := 115) kc_30_0 rfl rfl ?_
                      refine xi_iconst (pc' := 2) (v := 0) kc_30_1 rfl rfl ?_
                      refine xi_putfield (pc' := 5) (fs' := [.int 0, .int u2, .ref 116, .ref 117, .ref 118, .ref 119, .ref 120, .ref 121, .ref 122, .ref 123, .ref 124, .ref 125, .ref 126, .ref 127, .ref 128, .ref 129, .int u6, .ref 130, .int u19, .ref 131, .ref 132, .ref 133, .ref 134, .int u8, .ref 135, .ref 136, .ref 137, .ref 138, .ref 139, .ref 140, .ref 141, .ref 142, .int u9, .int u10, .int u11, .ref 143, .ref 144, .ref 145, .ref 146, .ref 147, .ref 148, .int u12, .ref 149, .ref 150, .ref 151, .int u13, .ref 152, .ref 153, .ref 154, .ref 155, .ref 156, .ref 157, .ref 158, .ref 159, .int u14, .ref 160, .int u15, .ref 161, .ref 162, .ref 163, .ref 164, .int u16, .ref 165, .ref 166]) kc_30_2 rfl rfl rfl A258 rfl rfl rfl (Nat.le_of_ble_eq_true rfl) rfl (fun hh260 eh259 => ?_)
                      have K261 := xk_pf (k := 0) (v := 0) K256 (xk_wf rfl) xD_115 A258 rfl (by first | omega | decide) (by first | omega | decide) eh259 rfl
                      refine xi_aload_n (pc' := 6) (x := 115) kc_30_5 rfl rfl ?_
                      refine xi_iload_n (pc' := 7) (x := a24) kc_30_6 rfl rfl ?_
                      refine xi_virtual (mj := 31) (as := [.int a24]) (st1 := []) (lv0 := [(0, .ref 115), (1, .int a24)]) kc_30_7 rfl rfl rfl rfl rfl eh259.1 (Nat.le_of_ble_eq_true rfl) (hJ _ _ _ _ (by decide)) (xm_le ml_31 rfl) rfl ?_
                      refine xi_iload_n (pc' := 1) (x := a24) kc_31_0 rfl rfl ?_
                      refine xi_static (mj := 24) (as := [.int a24]) (st1 := []) (lv0 := [(0, .int a24)]) kc_31_1 rfl rfl (Nat.le_of_ble_eq_true rfl) rfl rfl (Nat.le_of_ble_eq_true rfl) (hJ _ _ _ _ (by decide)) (xm_le ml_24 rfl) rfl ?_
                      refine xi_iload_n (pc' := 1) (x := a24) kc_24_0 rfl rfl ?_
                      refine xi_iconst (pc' := 2) (v := 0) kc_24_1 rfl rfl ?_
                      refine xi_bipush (pc' := 4) (v := 11) kc_24_2 rfl rfl ?_
                      refine xi_static (mj := 11) (as := [.int a24, .int 0, .int 11]) (st1 := []) (lv0 := [(0, .int a24), (1, .int 0), (2, .int 11)]) kc_24_4 rfl rfl (Nat.le_of_ble_eq_true rfl) rfl rfl (Nat.le_of_ble_eq_true rfl) (hJ _ _ _ _ (by decide)) (xm_le ml_11 rfl) rfl ?_
                      refine xi_iload_n (pc' := 1) (x := a24) kc_11_0 rfl rfl ?_
                      refine xi_iload_n (pc' := 2) (x := 0) kc_11_1 rfl rfl ?_
                      refine xi_cmf (pc' := 5) kc_11_2 rfl (xc_lt_f (X := a24.toInt) (Y := 0) rfl (by decide) (by omega)) ?_
                      refine xi_iload_n (pc' := 6) (x := a24) kc_11_5 rfl rfl ?_
                      refine xi_iload_n (pc' := 7) (x := 11) kc_11_6 rfl rfl ?_
                      refine xi_cmf (pc' := 10) kc_11_7 rfl (xc_gt_f (X := a24.toInt) (Y := 11) rfl (by decide) (by omega)) ?_
                      refine xi_iconst (pc' := 11) (v := 1) kc_11_10 rfl rfl ?_
                      refine xi_goto (pc' := 15) kc_11_11 rfl ?_
                      refine xi_ireturn kc_11_15 mr_11 rfl ?_
                      show xw J ov 97 24 (7, [(0, .int a24)], [.int 1], hh260) _
                      refine xi_ireturn kc_24_7 mr_24 rfl ?_
                      show xw J ov 98 31 (4, [(0, .ref 115), (1, .int a24)], [.int 1], hh260) _
                      refine xi_iff (pc' := 7) kc_31_4 rfl rfl ?_
                      refine xi_aload_n (pc' := 8) (x := 115) kc_31_7 rfl rfl ?_
                      refine xi_getfield (pc' := 11) (v := .ref 125) kc_31_8 rfl rfl rfl eh259.1 rfl ?_
                      refine xi_iload_n (pc' := 12) (x := a24) kc_31_11 rfl rfl ?_
                      have A262 := ((eh259.2.1 125 (by decide)).trans ((eh254.2.1 125 (by decide)).trans ((eh250.2.1 125 (by decide)).trans ((eh245.2.1 125 (by decide)).trans ((eh240.2.1 125 (by decide)).trans ((eh236.2.1 125 (by decide)).trans ((eh228.2.1 125 (by decide)).trans A86)))))))
                      refine xi_iaload (pc' := 13) (v := u80) kc_31_12 rfl A262 (by decide) rfl (xi_in (by omega) (by rw [hy86]; omega)) HG87 ?_
                      refine xi_iff (pc' := 16) kc_31_13 rfl (xc_lt_f (X := u80.toInt) (Y := 0) rfl (by decide) (by omega)) ?_
                      refine xi_iconst (pc' := 17) (v := 1) kc_31_16 rfl rfl ?_
                      refine xi_goto (pc' := 21) kc_31_17 rfl ?_
                      refine xi_ireturn kc_31_21 mr_31 rfl ?_
                      show xw J ov 99 30 (10, [(0, .ref 115), (1, .int a24), (2, .int a26), (3, .int a28), (4, .int a30)], [.int 1], hh260) _
                      refine xi_ift (pc' := 19) kc_30_10 rfl rfl ?_
                      refine xi_iload_n (pc' := 20) (x := a26) kc_30_19 rfl rfl ?_
                      refine xi_aload_n (pc' := 21) (x := 115) kc_30_20 rfl rfl ?_
                      refine xi_getfield (pc' := 24) (v := .int u2) kc_30_21 rfl rfl rfl eh259.1 rfl ?_
                      refine xi_cmf (pc' := 27) kc_30_24 rfl (xc_gt_f (X := a26.toInt) (Y := u2.toInt) rfl rfl (by omega)) ?_
                      refine xi_aload_n (pc' := 28) (x := 115) kc_30_27 rfl rfl ?_
                      refine xi_getfield (pc' := 31) (v := .int u19) kc_30_28 rfl rfl rfl eh259.1 rfl ?_
                      refine xi_ift (pc' := 56) kc_30_31 rfl (xc_le_t (X := u19.toInt) (Y := 0) rfl (by decide) (by omega)) ?_
                      refine xi_iload_n (pc' := 57) (x := a26) kc_30_56 rfl rfl ?_
                      refine xi_iff (pc' := 60) kc_30_57 rfl (xc_lt_f (X := a26.toInt) (Y := 0) rfl (by decide) (by omega)) ?_
                      refine xi_iload_n (pc' := 61) (x := a28) kc_30_60 rfl rfl ?_
                      refine xi_iff (pc' := 64) kc_30_61 rfl (xc_lt_f (X := a28.toInt) (Y := 0) rfl (by decide) (by omega)) ?_
                      refine xi_iload (pc' := 66) (x := a30) kc_30_64 rfl rfl ?_
                      refine xi_ift (pc' := 76) kc_30_66 rfl (xc_ge_t (X := a30.toInt) (Y := 0) rfl (by decide) (by omega)) ?_
                      refine xi_iload_n (pc' := 77) (x := a28) kc_30_76 rfl rfl ?_
                      refine xi_ldc (pc' := 79) (v := 99999) kc_30_77 rfl rfl ?_
                      refine xi_cmf (pc' := 82) kc_30_79 rfl (xc_gt_f (X := a28.toInt) (Y := 99999) rfl (by decide) (by omega)) ?_
                      refine xi_iload (pc' := 84) (x := a30) kc_30_82 rfl rfl ?_
                      refine xi_sipush (pc' := 87) (v := 999) kc_30_84 rfl rfl ?_
                      refine xi_cmf (pc' := 90) kc_30_87 rfl (xc_gt_f (X := a30.toInt) (Y := 999) rfl (by decide) (by omega)) ?_
                      refine xi_aload_n (pc' := 91) (x := 115) kc_30_90 rfl rfl ?_
                      refine xi_getfield (pc' := 94) (v := .int u19) kc_30_91 rfl rfl rfl eh259.1 rfl ?_
                      refine xi_bipush (pc' := 96) (v := 60) kc_30_94 rfl rfl ?_
                      refine xi_cmt (pc' := 106) kc_30_96 rfl (xc_ne_t (X := u19.toInt) (Y := 60) rfl (by decide) (by omega)) ?_
                      refine xi_aload_n (pc' := 107) (x := 115) kc_30_106 rfl rfl ?_
                      refine xi_getfield (pc' := 110) (v := .ref 131) kc_30_107 rfl rfl rfl eh259.1 rfl ?_
                      refine xi_aload_n (pc' := 111) (x := 115) kc_30_110 rfl rfl ?_
                      refine xi_getfield (pc' := 114) (v := .int u19) kc_30_111 rfl rfl rfl eh259.1 rfl ?_
                      refine xi_iload_n (pc' := 115) (x := a24) kc_30_114 rfl rfl ?_
                      obtain ⟨y263, A263, hy263, ry263⟩ := xk_arr K.1 xD_131
                      have A264 := ((eh259.2.1 131 (by decide)).trans ((eh254.2.1 131 (by decide)).trans ((eh250.2.1 131 (by decide)).trans ((eh245.2.1 131 (by decide)).trans ((eh240.2.1 131 (by decide)).trans ((eh236.2.1 131 (by decide)).trans ((eh228.2.1 131 (by decide)).trans A263)))))))
                      obtain ⟨y265, s265, hy265, ry265⟩ := xj_set (v := a24) hy263 ry263 u19 (by first | omega | decide) (by first | omega | decide)
                      refine xi_iastore (pc' := 116) (x' := y265) kc_30_115 rfl A264 rfl (xi_in (by omega) (by rw [hy263]; omega)) s265 (fun hh265 eh265 => ?_)
                      have K266 := xk_pa K261 (xk_wa rfl) xD_131 hy265 ry265 eh265
                      refine xi_aload_n (pc' := 117) (x := 115) kc_30_116 rfl rfl ?_
                      have A267 := ((eh265.2.1 115 (by decide)).trans eh259.1)
                      refine xi_getfield (pc' := 120) (v := .ref 132) kc_30_117 rfl rfl rfl A267 rfl ?_
                      refine xi_aload_n (pc' := 121) (x := 115) kc_30_120 rfl rfl ?_
                      refine xi_getfield (pc' := 124) (v := .int u19) kc_30_121 rfl rfl rfl A267 rfl ?_
                      refine xi_iload_n (pc' := 125) (x := a26) kc_30_124 rfl rfl ?_
                      have A268 := ((eh265.2.1 132 (by decide)).trans ((eh259.2.1 132 (by decide)).trans ((eh254.2.1 132 (by decide)).trans ((eh250.2.1 132 (by decide)).trans ((eh245.2.1 132 (by decide)).trans ((eh240.2.1 132 (by decide)).trans ((eh236.2.1 132 (by decide)).trans ((eh228.2.1 132 (by decide)).trans A22))))))))
                      obtain ⟨y269, s269, hy269, ry269⟩ := xj_set (v := a26) hy22 ry22 u19 (by first | omega | decide) (by first | omega | decide)
                      refine xi_iastore (pc' := 126) (x' := y269) kc_30_125 rfl A268 rfl (xi_in (by omega) (by rw [hy22]; omega)) s269 (fun hh269 eh269 => ?_)
                      have K270 := xk_pa K266 (xk_wa rfl) xD_132 hy269 ry269 eh269
                      refine xi_aload_n (pc' := 127) (x := 115) kc_30_126 rfl rfl ?_
                      have A271 := ((eh269.2.1 115 (by decide)).trans A267)
                      refine xi_getfield (pc' := 130) (v := .ref 133) kc_30_127 rfl rfl rfl A271 rfl ?_
                      refine xi_aload_n (pc' := 131) (x := 115) kc_30_130 rfl rfl ?_
                      refine xi_getfield (pc' := 134) (v := .int u19) kc_30_131 rfl rfl rfl A271 rfl ?_
                      refine xi_iload_n (pc' := 135) (x := a28) kc_30_134 rfl rfl ?_
                      obtain ⟨y272, A272, hy272, ry272⟩ := xk_arr K.1 xD_133
                      have A273 := ((eh269.2.1 133 (by decide)).trans ((eh265.2.1 133 (by decide)).trans ((eh259.2.1 133 (by decide)).trans ((eh254.2.1 133 (by decide)).trans ((eh250.2.1 133 (by decide)).trans ((eh245.2.1 133 (by decide)).trans ((eh240.2.1 133 (by decide)).trans ((eh236.2.1 133 (by decide)).trans ((eh228.2.1 133 (by decide)).trans A272)))))))))
                      obtain ⟨y274, s274, hy274, ry274⟩ := xj_set (v := a28) hy272 ry272 u19 (by first | omega | decide) (by first | omega | decide)
                      refine xi_iastore (pc' := 136) (x' := y274) kc_30_135 rfl A273 rfl (xi_in (by omega) (by rw [hy272]; omega)) s274 (fun hh274 eh274 => ?_)
                      have K275 := xk_pa K270 (xk_wa rfl) xD_133 hy274 ry274 eh274
                      refine xi_aload_n (pc' := 137) (x := 115) kc_30_136 rfl rfl ?_
                      have A276 := ((eh274.2.1 115 (by decide)).trans A271)
                      refine xi_getfield (pc' := 140) (v := .ref 134) kc_30_137 rfl rfl rfl A276 rfl ?_
                      refine xi_aload_n (pc' := 141) (x := 115) kc_30_140 rfl rfl ?_
                      refine xi_getfield (pc' := 144) (v := .int u19) kc_30_141 rfl rfl rfl A276 rfl ?_
                      refine xi_iload (pc' := 146) (x := a30) kc_30_144 rfl rfl ?_
                      obtain ⟨y277, A277, hy277, ry277⟩ := xk_arr K.1 xD_134
                      have A278 := ((eh274.2.1 134 (by decide)).trans ((eh269.2.1 134 (by decide)).trans ((eh265.2.1 134 (by decide)).trans ((eh259.2.1 134 (by decide)).trans ((eh254.2.1 134 (by decide)).trans ((eh250.2.1 134 (by decide)).trans ((eh245.2.1 134 (by decide)).trans ((eh240.2.1 134 (by decide)).trans ((eh236.2.1 134 (by decide)).trans ((eh228.2.1 134 (by decide)).trans A277))))))))))
                      obtain ⟨y279, s279, hy279, ry279⟩ := xj_set (v := a30) hy277 ry277 u19 (by first | omega | decide) (by first | omega | decide)
                      refine xi_iastore (pc' := 147) (x' := y279) kc_30_146 rfl A278 rfl (xi_in (by omega) (by rw [hy277]; omega)) s279 (fun hh279 eh279 => ?_)
                      have K280 := xk_pa K275 (xk_wa rfl) xD_134 hy279 ry279 eh279
                      refine xi_aload_n (pc' := 148) (x := 115) kc_30_147 rfl rfl ?_
                      refine xi_dup (pc' := 149) kc_30_148 rfl rfl ?_
                      have A281 := ((eh279.2.1 115 (by decide)).trans A276)
                      refine xi_getfield (pc' := 152) (v := .int u19) kc_30_149 rfl rfl rfl A281 rfl ?_
                      refine xi_iconst (pc' := 153) (v := 1) kc_30_152 rfl rfl ?_
                      refine xi_iadd (pc' := 154) (v := v253) kc_30_153 rfl ev253 ?_
                      refine xi_putfield (pc' := 157) (fs' := [.int 0, .int u2, .ref 116, .ref 117, .ref 118, .ref 119, .ref 120, .ref 121, .ref 122, .ref 123, .ref 124, .ref 125, .ref 126, .ref 127, .ref 128, .ref 129, .int u6, .ref 130, .int v253, .ref 131, .ref 132, .ref 133, .ref 134, .int u8, .ref 135, .ref 136, .ref 137, .ref 138, .ref 139, .ref 140, .ref 141, .ref 142, .int u9, .int u10, .int u11, .ref 143, .ref 144, .ref 145, .ref 146, .ref 147, .ref 148, .int u12, .ref 149, .ref 150, .ref 151, .int u13, .ref 152, .ref 153, .ref 154, .ref 155, .ref 156, .ref 157, .ref 158, .ref 159, .int u14, .ref 160, .int u15, .ref 161, .ref 162, .ref 163, .ref 164, .int u16, .ref 165, .ref 166]) kc_30_154 rfl rfl rfl A281 rfl rfl rfl (Nat.le_of_ble_eq_true rfl) rfl (fun hh283 eh282 => ?_)
                      have K284 := xk_pf (k := 18) (v := v253) K280 (xk_wf rfl) xD_115 A281 rfl (by first | omega | decide) (by first | omega | decide) eh282 rfl
                      refine xi_aload_n (pc' := 158) (x := 115) kc_30_157 rfl rfl ?_
                      refine xi_iconst (pc' := 159) (v := 0) kc_30_158 rfl rfl ?_
                      refine xi_putfield (pc' := 162) (fs' := [.int 0, .int u2, .ref 116, .ref 117, .ref 118, .ref 119, .ref 120, .ref 121, .ref 122, .ref 123, .ref 124, .ref 125, .ref 126, .ref 127, .ref 128, .ref 129, .int u6, .ref 130, .int v253, .ref 131, .ref 132, .ref 133, .ref 134, .int u8, .ref 135, .ref 136, .ref 137, .ref 138, .ref 139, .ref 140, .ref 141, .ref 142, .int u9, .int u10, .int u11, .ref 143, .ref 144, .ref 145, .ref 146, .ref 147, .ref 148, .int 0, .ref 149, .ref 150, .ref 151, .int u13, .ref 152, .ref 153, .ref 154, .ref 155, .ref 156, .ref 157, .ref 158, .ref 159, .int u14, .ref 160, .int u15, .ref 161, .ref 162, .ref 163, .ref 164, .int u16, .ref 165, .ref 166]) kc_30_159 rfl rfl rfl eh282.1 rfl rfl rfl (Nat.le_of_ble_eq_true rfl) rfl (fun hh286 eh285 => ?_)
                      have K287 := xk_pf (k := 41) (v := 0) K284 (xk_wf rfl) xD_115 eh282.1 rfl (by first | omega | decide) (by first | omega | decide) eh285 rfl
                      refine xi_aload_n (pc' := 163) (x := 115) kc_30_162 rfl rfl ?_
                      refine xi_getfield (pc' := 166) (v := .int v253) kc_30_163 rfl rfl rfl eh285.1 rfl ?_
                      refine xi_iconst (pc' := 167) (v := 1) kc_30_166 rfl rfl ?_
                      refine xi_isub (pc' := 168) (v := v257) kc_30_167 rfl ev257 ?_
                      refine xi_ireturn kc_30_168 mr_30 rfl ?_
                      show xw J ov 100 195 (646, [(4, .int x4), (3, .ref 167), (2, .ref 115), (1, .ref 0), (0, .ref 1000000)], [.int v257, .int v257], hh286) _
                      refine xi_cmt (pc' := 1501) kc_195_646 rfl (xc_eq_t (X := u19.toInt) (Y := u19.toInt) zv257 zv257 (by omega)) ?_
                      obtain ⟨v288, ev288⟩ : ∃ q : Int32, x4 + 6 = q := ⟨_, rfl⟩
                      have zv288 : v288.toInt = (x4.toInt + 6) := by rw [← ev288]; exact (xz_add (X := x4.toInt) (Y := 6) rfl (by decide) (by omega) (by omega)).trans (by omega)
                      refine xi_iinc (pc' := 1504) (x := x4) (v := v288) (lv' := [(4, .int v288), (3, .ref 167), (2, .ref 115), (1, .ref 0), (0, .ref 1000000)]) kc_195_1501 rfl rfl ev288 rfl (xm_lt ml_195 rfl) ?_
                      refine xi_goto (pc' := 23) kc_195_1504 rfl ?_
                      have A289 := ((eh285.2.1 0 (by decide)).trans ((eh282.2.1 0 (by decide)).trans ((eh279.2.1 0 (by decide)).trans ((eh274.2.1 0 (by decide)).trans ((eh269.2.1 0 (by decide)).trans ((eh265.2.1 0 (by decide)).trans ((eh259.2.1 0 (by decide)).trans ((eh254.2.1 0 (by decide)).trans ((eh250.2.1 0 (by decide)).trans ((eh245.2.1 0 (by decide)).trans ((eh240.2.1 0 (by decide)).trans ((eh236.2.1 0 (by decide)).trans A231))))))))))))
                      have A290 := ((eh285.2.1 66 (by decide)).trans ((eh282.2.1 66 (by decide)).trans ((eh279.2.1 66 (by decide)).trans ((eh274.2.1 66 (by decide)).trans ((eh269.2.1 66 (by decide)).trans ((eh265.2.1 66 (by decide)).trans ((eh259.2.1 66 (by decide)).trans eh254.1)))))))
                      have A291 := ((eh285.2.1 71 (by decide)).trans ((eh282.2.1 71 (by decide)).trans ((eh279.2.1 71 (by decide)).trans ((eh274.2.1 71 (by decide)).trans ((eh269.2.1 71 (by decide)).trans ((eh265.2.1 71 (by decide)).trans ((eh259.2.1 71 (by decide)).trans ((eh254.2.1 71 (by decide)).trans ((eh250.2.1 71 (by decide)).trans ((eh245.2.1 71 (by decide)).trans eh240.1))))))))))
                      have A292 := ((eh285.2.1 132 (by decide)).trans ((eh282.2.1 132 (by decide)).trans ((eh279.2.1 132 (by decide)).trans ((eh274.2.1 132 (by decide)).trans eh269.1))))
                      exact kk v288 hh286 (by omega) K287 ⟨(xGR_kept I.1 (fun c hc => ((eh285.2.1 c (Ne.symm (xk_nc hc rfl))).trans ((eh282.2.1 c (Ne.symm (xk_nc hc rfl))).trans ((eh279.2.1 c (Ne.symm (xk_nc hc rfl))).trans ((eh274.2.1 c (Ne.symm (xk_nc hc rfl))).trans ((eh269.2.1 c (Ne.symm (xk_nc hc rfl))).trans ((eh265.2.1 c (Ne.symm (xk_nc hc rfl))).trans ((eh259.2.1 c (Ne.symm (xk_nc hc rfl))).trans ((eh254.2.1 c (Ne.symm (xk_nc hc rfl))).trans ((eh250.2.1 c (Ne.symm (xk_nc hc rfl))).trans ((eh245.2.1 c (Ne.symm (xk_nc hc rfl))).trans ((eh240.2.1 c (Ne.symm (xk_nc hc rfl))).trans ((eh236.2.1 c (Ne.symm (xk_nc hc rfl))).trans (eh228.2.1 c (Ne.symm (xk_nc hc rfl)))))))))))))))) ((eh285.2.1 125 (by decide)).trans ((eh282.2.1 125 (by decide)).trans ((eh279.2.1 125 (by decide)).trans ((eh274.2.1 125 (by decide)).trans ((eh269.2.1 125 (by decide)).trans ((eh265.2.1 125 (by decide)).trans ((eh259.2.1 125 (by decide)).trans ((eh254.2.1 125 (by decide)).trans ((eh250.2.1 125 (by decide)).trans ((eh245.2.1 125 (by decide)).trans ((eh240.2.1 125 (by decide)).trans ((eh236.2.1 125 (by decide)).trans (eh228.2.1 125 (by decide))))))))))))))), ((xl_of A289 rfl).trans (xl_of eh285.1 rfl).symm), ((xl_of A290 rfl).trans (xl_of eh285.1 rfl).symm), ((xl_arr A291).trans ((congrArg (fun q : List Int32 => some (Sum.inr (0, Sum.inl q))) (s240.symm.trans s269)).trans (xl_arr A292).symm))⟩
                · refine xi_iff (pc' := 56) kc_113_53 rfl (xc_ge_f (X := a30.toInt) (Y := 0) rfl (by decide) (by omega)) ?_
                  refine xi_aload_n (pc' := 57) (x := 0) kc_113_56 rfl rfl ?_
                  refine xi_bipush (pc' := 59) (v := (-4)) kc_113_57 rfl rfl ?_
                  refine xi_virtual (mj := 90) (as := [.int (-4)]) (st1 := []) (lv0 := [(0, .ref 0), (1, .int (-4))]) kc_113_59 rfl rfl rfl rfl rfl A3 (Nat.le_of_ble_eq_true rfl) (hJ _ _ _ _ (by decide)) (xm_le ml_90 rfl) rfl ?_
                  refine xi_iload_n (pc' := 1) (x := (-4)) kc_90_0 rfl rfl ?_
                  refine xi_ineg (pc' := 2) (v := 4) kc_90_1 rfl rfl ?_
                  refine xi_istore_n (pc' := 3) (lv' := [(2, .int 4), (0, .ref 0), (1, .int (-4))]) kc_90_2 rfl rfl (xm_lt ml_90 rfl) ?_
                  refine xi_iload_n (pc' := 4) (x := 4) kc_90_3 rfl rfl ?_
                  refine xi_iff (pc' := 7) kc_90_4 rfl rfl ?_
                  refine xi_iload_n (pc' := 8) (x := 4) kc_90_7 rfl rfl ?_
                  refine xi_aload_n (pc' := 9) (x := 0) kc_90_8 rfl rfl ?_
                  refine xi_getfield (pc' := 12) (v := .ref 94) kc_90_9 rfl rfl rfl A3 rfl ?_
                  obtain ⟨y293, A293, hy293, ry293⟩ := xk_arr K.1 xD_94
                  refine xi_arraylength (pc' := 13) (n := 7) (v := 7) kc_90_12 rfl (xl_lenI (by decide) (by decide) A293 hy293) rfl ?_
                  refine xi_cmf (pc' := 16) kc_90_13 rfl rfl ?_
                  refine xi_aload_n (pc' := 17) (x := 0) kc_90_16 rfl rfl ?_
                  refine xi_getfield (pc' := 20) (v := .ref 94) kc_90_17 rfl rfl rfl A3 rfl ?_
                  refine xi_iload_n (pc' := 21) (x := 4) kc_90_20 rfl rfl ?_
                  refine xi_dup2 (pc' := 22) kc_90_21 rfl ⟨rfl, rfl⟩ ?_
                  obtain ⟨v294, ev294, bv294, dv294⟩ := xj_get hy293 ry293 (i := 4) (by decide) (by decide)
                  refine xi_iaload (pc' := 23) (v := v294) kc_90_22 rfl A293 (by decide) rfl (xi_in (by decide) (by rw [hy293]; decide)) ev294 ?_
                  refine xi_iconst (pc' := 24) (v := 1) kc_90_23 rfl rfl ?_
                  obtain ⟨v295, ev295⟩ : ∃ q : Int32, (v294 : Int32) + 1 = q := ⟨_, rfl⟩
                  have rv295 := xc_rng v295
                  refine xi_iadd (pc' := 25) (v := v295) kc_90_24 rfl ev295 ?_
                  obtain ⟨y296, s296, hy296, ry296⟩ := xj_set (v := v295) hy293 ry293 4 (by first | omega | decide) (by first | omega | decide)
                  refine xi_iastore (pc' := 26) (x' := y296) kc_90_25 rfl A293 rfl (xi_in (by decide) (by rw [hy293]; decide)) s296 (fun hh296 eh296 => ?_)
                  have K297 := xk_pa K (xk_wa rfl) xD_94 hy296 ry296 eh296
                  refine xi_iload_n (pc' := 27) (x := (-4)) kc_90_26 rfl rfl ?_
                  refine xi_ireturn kc_90_27 mr_90 rfl ?_
                  show xw J ov 99 113 (62, [(0, .ref 0), (1, .int a24), (2, .int a26), (3, .int a28), (4, .int a30)], [.int (-4)], hh296) _
                  refine xi_ireturn kc_113_62 mr_113 rfl ?_
                  show xw J ov 100 195 (618, [(4, .int x4), (3, .ref 167), (2, .ref 115), (1, .ref 0), (0, .ref 1000000)], [.int (-4)], hh296) _
                  refine xi_aload_n (pc' := 619) (x := 115) kc_195_618 rfl rfl ?_
                  refine xi_aload_n (pc' := 620) (x := 1000000) kc_195_619 rfl rfl ?_
                  refine xi_iload (pc' := 622) (x := x4) kc_195_620 rfl rfl ?_
                  refine xi_iconst (pc' := 623) (v := 1) kc_195_622 rfl rfl ?_
                  refine xi_iadd (pc' := 624) (v := v23) kc_195_623 rfl ev23 ?_
                  refine xi_ialoadO (pc' := 625) (v := a24) kc_195_624 rfl (by decide) hov0 (xi_in (by omega) (by omega)) ea24 ?_
                  refine xi_aload_n (pc' := 626) (x := 1000000) kc_195_625 rfl rfl ?_
                  refine xi_iload (pc' := 628) (x := x4) kc_195_626 rfl rfl ?_
                  refine xi_iconst (pc' := 629) (v := 2) kc_195_628 rfl rfl ?_
                  refine xi_iadd (pc' := 630) (v := v25) kc_195_629 rfl ev25 ?_
                  refine xi_ialoadO (pc' := 631) (v := a26) kc_195_630 rfl (by decide) hov0 (xi_in (by omega) (by omega)) ea26 ?_
                  refine xi_aload_n (pc' := 632) (x := 1000000) kc_195_631 rfl rfl ?_
                  refine xi_iload (pc' := 634) (x := x4) kc_195_632 rfl rfl ?_
                  refine xi_iconst (pc' := 635) (v := 3) kc_195_634 rfl rfl ?_
                  refine xi_iadd (pc' := 636) (v := v27) kc_195_635 rfl ev27 ?_
                  refine xi_ialoadO (pc' := 637) (v := a28) kc_195_636 rfl (by decide) hov0 (xi_in (by omega) (by omega)) ea28 ?_
                  refine xi_aload_n (pc' := 638) (x := 1000000) kc_195_637 rfl rfl ?_
                  refine xi_iload (pc' := 640) (x := x4) kc_195_638 rfl rfl ?_
                  refine xi_iconst (pc' := 641) (v := 4) kc_195_640 rfl rfl ?_
                  refine xi_iadd (pc' := 642) (v := v29) kc_195_641 rfl ev29 ?_
                  refine xi_ialoadO (pc' := 643) (v := a30) kc_195_642 rfl (by decide) hov0 (xi_in (by omega) (by omega)) ea30 ?_
                  have A298 := ((eh296.2.1 115 (by decide)).trans A17)
                  refine xi_virtual (mj := 30) (as := [.int a24, .int a26, .int a28, .int a30]) (st1 := [.int (-4)]) (lv0 := [(0, .ref 115), (1, .int a24), (2, .int a26), (3, .int a28), (4, .int a30)]) kc_195_643 rfl rfl rfl rfl rfl A298 (Nat.le_of_ble_eq_true rfl) (hJ _ _ _ _ (by decide)) (xm_le ml_30 rfl) rfl ?_
                  refine xi_aload_n (pc' := 1) (x := 115) kc_30_0 rfl rfl ?_
                  refine xi_iconst (pc' := 2) (v := 0) kc_30_1 rfl rfl ?_
                  refine xi_putfield (pc' := 5) (fs' := [.int 0, .int u2, .ref 116, .ref 117, .ref 118, .ref 119, .ref 120, .ref 121, .ref 122, .ref 123, .ref 124, .ref 125, .ref 126, .ref 127, .ref 128, .ref 129, .int u6, .ref 130, .int u19, .ref 131, .ref 132, .ref 133, .ref 134, .int u8, .ref 135, .ref 136, .ref 137, .ref 138, .ref 139, .ref 140, .ref 141, .ref 142, .int u9, .int u10, .int u11, .ref 143, .ref 144, .ref 145, .ref 146, .ref 147, .ref 148, .int u12, .ref 149, .ref 150, .ref 151, .int u13, .ref 152, .ref 153, .ref 154, .ref 155, .ref 156, .ref 157, .ref 158, .ref 159, .int u14, .ref 160, .int u15, .ref 161, .ref 162, .ref 163, .ref 164, .int u16, .ref 165, .ref 166]) kc_30_2 rfl rfl rfl A298 rfl rfl rfl (Nat.le_of_ble_eq_true rfl) rfl (fun hh300 eh299 => ?_)
                  have K301 := xk_pf (k := 0) (v := 0) K297 (xk_wf rfl) xD_115 A298 rfl (by first | omega | decide) (by first | omega | decide) eh299 rfl
                  refine xi_aload_n (pc' := 6) (x := 115) kc_30_5 rfl rfl ?_
                  refine xi_iload_n (pc' := 7) (x := a24) kc_30_6 rfl rfl ?_
                  refine xi_virtual (mj := 31) (as := [.int a24]) (st1 := []) (lv0 := [(0, .ref 115), (1, .int a24)]) kc_30_7 rfl rfl rfl rfl rfl eh299.1 (Nat.le_of_ble_eq_true rfl) (hJ _ _ _ _ (by decide)) (xm_le ml_31 rfl) rfl ?_
                  refine xi_iload_n (pc' := 1) (x := a24) kc_31_0 rfl rfl ?_
                  refine xi_static (mj := 24) (as := [.int a24]) (st1 := []) (lv0 := [(0, .int a24)]) kc_31_1 rfl rfl (Nat.le_of_ble_eq_true rfl) rfl rfl (Nat.le_of_ble_eq_true rfl) (hJ _ _ _ _ (by decide)) (xm_le ml_24 rfl) rfl ?_
                  refine xi_iload_n (pc' := 1) (x := a24) kc_24_0 rfl rfl ?_
                  refine xi_iconst (pc' := 2) (v := 0) kc_24_1 rfl rfl ?_
                  refine xi_bipush (pc' := 4) (v := 11) kc_24_2 rfl rfl ?_
                  refine xi_static (mj := 11) (as := [.int a24, .int 0, .int 11]) (st1 := []) (lv0 := [(0, .int a24), (1, .int 0), (2, .int 11)]) kc_24_4 rfl rfl (Nat.le_of_ble_eq_true rfl) rfl rfl (Nat.le_of_ble_eq_true rfl) (hJ _ _ _ _ (by decide)) (xm_le ml_11 rfl) rfl ?_
                  refine xi_iload_n (pc' := 1) (x := a24) kc_11_0 rfl rfl ?_
                  refine xi_iload_n (pc' := 2) (x := 0) kc_11_1 rfl rfl ?_
                  refine xi_cmf (pc' := 5) kc_11_2 rfl (xc_lt_f (X := a24.toInt) (Y := 0) rfl (by decide) (by omega)) ?_
                  refine xi_iload_n (pc' := 6) (x := a24) kc_11_5 rfl rfl ?_
                  refine xi_iload_n (pc' := 7) (x := 11) kc_11_6 rfl rfl ?_
                  refine xi_cmf (pc' := 10) kc_11_7 rfl (xc_gt_f (X := a24.toInt) (Y := 11) rfl (by decide) (by omega)) ?_
                  refine xi_iconst (pc' := 11) (v := 1) kc_11_10 rfl rfl ?_
                  refine xi_goto (pc' := 15) kc_11_11 rfl ?_
                  refine xi_ireturn kc_11_15 mr_11 rfl ?_
                  show xw J ov 97 24 (7, [(0, .int a24)], [.int 1], hh300) _
                  refine xi_ireturn kc_24_7 mr_24 rfl ?_
                  show xw J ov 98 31 (4, [(0, .ref 115), (1, .int a24)], [.int 1], hh300) _
                  refine xi_iff (pc' := 7) kc_31_4 rfl rfl ?_
                  refine xi_aload_n (pc' := 8) (x := 115) kc_31_7 rfl rfl ?_
                  refine xi_getfield (pc' := 11) (v := .ref 125) kc_31_8 rfl rfl rfl eh299.1 rfl ?_
                  refine xi_iload_n (pc' := 12) (x := a24) kc_31_11 rfl rfl ?_
                  have A302 := ((eh299.2.1 125 (by decide)).trans ((eh296.2.1 125 (by decide)).trans A86))
                  refine xi_iaload (pc' := 13) (v := u80) kc_31_12 rfl A302 (by decide) rfl (xi_in (by omega) (by rw [hy86]; omega)) HG87 ?_
                  refine xi_iff (pc' := 16) kc_31_13 rfl (xc_lt_f (X := u80.toInt) (Y := 0) rfl (by decide) (by omega)) ?_
                  refine xi_iconst (pc' := 17) (v := 1) kc_31_16 rfl rfl ?_
                  refine xi_goto (pc' := 21) kc_31_17 rfl ?_
                  refine xi_ireturn kc_31_21 mr_31 rfl ?_
                  show xw J ov 99 30 (10, [(0, .ref 115), (1, .int a24), (2, .int a26), (3, .int a28), (4, .int a30)], [.int 1], hh300) _
                  refine xi_ift (pc' := 19) kc_30_10 rfl rfl ?_
                  refine xi_iload_n (pc' := 20) (x := a26) kc_30_19 rfl rfl ?_
                  refine xi_aload_n (pc' := 21) (x := 115) kc_30_20 rfl rfl ?_
                  refine xi_getfield (pc' := 24) (v := .int u2) kc_30_21 rfl rfl rfl eh299.1 rfl ?_
                  refine xi_cmf (pc' := 27) kc_30_24 rfl (xc_gt_f (X := a26.toInt) (Y := u2.toInt) rfl rfl (by omega)) ?_
                  refine xi_aload_n (pc' := 28) (x := 115) kc_30_27 rfl rfl ?_
                  refine xi_getfield (pc' := 31) (v := .int u19) kc_30_28 rfl rfl rfl eh299.1 rfl ?_
                  refine xi_ift (pc' := 56) kc_30_31 rfl (xc_le_t (X := u19.toInt) (Y := 0) rfl (by decide) (by omega)) ?_
                  refine xi_iload_n (pc' := 57) (x := a26) kc_30_56 rfl rfl ?_
                  refine xi_iff (pc' := 60) kc_30_57 rfl (xc_lt_f (X := a26.toInt) (Y := 0) rfl (by decide) (by omega)) ?_
                  refine xi_iload_n (pc' := 61) (x := a28) kc_30_60 rfl rfl ?_
                  refine xi_iff (pc' := 64) kc_30_61 rfl (xc_lt_f (X := a28.toInt) (Y := 0) rfl (by decide) (by omega)) ?_
                  refine xi_iload (pc' := 66) (x := a30) kc_30_64 rfl rfl ?_
                  refine xi_iff (pc' := 69) kc_30_66 rfl (xc_ge_f (X := a30.toInt) (Y := 0) rfl (by decide) (by omega)) ?_
                  refine xi_aload_n (pc' := 70) (x := 115) kc_30_69 rfl rfl ?_
                  refine xi_bipush (pc' := 72) (v := (-4)) kc_30_70 rfl rfl ?_
                  refine xi_virtual (mj := 12) (as := [.int (-4)]) (st1 := []) (lv0 := [(0, .ref 115), (1, .int (-4))]) kc_30_72 rfl rfl rfl rfl rfl eh299.1 (Nat.le_of_ble_eq_true rfl) (hJ _ _ _ _ (by decide)) (xm_le ml_12 rfl) rfl ?_
                  refine xi_aload_n (pc' := 1) (x := 115) kc_12_0 rfl rfl ?_
                  refine xi_getfield (pc' := 4) (v := .ref 140) kc_12_1 rfl rfl rfl eh299.1 rfl ?_
                  refine xi_iload_n (pc' := 5) (x := (-4)) kc_12_4 rfl rfl ?_
                  refine xi_ineg (pc' := 6) (v := 4) kc_12_5 rfl rfl ?_
                  refine xi_dup2 (pc' := 7) kc_12_6 rfl ⟨rfl, rfl⟩ ?_
                  obtain ⟨y303, A303, hy303, ry303⟩ := xk_arr K.1 xD_140
                  obtain ⟨v304, ev304, bv304, dv304⟩ := xj_get hy303 ry303 (i := 4) (by decide) (by decide)
                  have A305 := ((eh299.2.1 140 (by decide)).trans ((eh296.2.1 140 (by decide)).trans A303))
                  refine xi_iaload (pc' := 8) (v := v304) kc_12_7 rfl A305 (by decide) rfl (xi_in (by decide) (by rw [hy303]; decide)) ev304 ?_
                  refine xi_iconst (pc' := 9) (v := 1) kc_12_8 rfl rfl ?_
                  obtain ⟨v306, ev306⟩ : ∃ q : Int32, (v304 : Int32) + 1 = q := ⟨_, rfl⟩
                  have rv306 := xc_rng v306
                  refine xi_iadd (pc' := 10) (v := v306) kc_12_9 rfl ev306 ?_
                  obtain ⟨y307, s307, hy307, ry307⟩ := xj_set (v := v306) hy303 ry303 4 (by first | omega | decide) (by first | omega | decide)
                  refine xi_iastore (pc' := 11) (x' := y307) kc_12_10 rfl A305 rfl (xi_in (by decide) (by rw [hy303]; decide)) s307 (fun hh307 eh307 => ?_)
                  have K308 := xk_pa K301 (xk_wa rfl) xD_140 hy307 ry307 eh307
                  refine xi_iload_n (pc' := 12) (x := (-4)) kc_12_11 rfl rfl ?_
                  refine xi_ireturn kc_12_12 mr_12 rfl ?_
                  show xw J ov 99 30 (75, [(0, .ref 115), (1, .int a24), (2, .int a26), (3, .int a28), (4, .int a30)], [.int (-4)], hh307) _
                  refine xi_ireturn kc_30_75 mr_30 rfl ?_
                  show xw J ov 100 195 (646, [(4, .int x4), (3, .ref 167), (2, .ref 115), (1, .ref 0), (0, .ref 1000000)], [.int (-4), .int (-4)], hh307) _
                  refine xi_cmt (pc' := 1501) kc_195_646 rfl rfl ?_
                  obtain ⟨v309, ev309⟩ : ∃ q : Int32, x4 + 6 = q := ⟨_, rfl⟩
                  have zv309 : v309.toInt = (x4.toInt + 6) := by rw [← ev309]; exact (xz_add (X := x4.toInt) (Y := 6) rfl (by decide) (by omega) (by omega)).trans (by omega)
                  refine xi_iinc (pc' := 1504) (x := x4) (v := v309) (lv' := [(4, .int v309), (3, .ref 167), (2, .ref 115), (1, .ref 0), (0, .ref 1000000)]) kc_195_1501 rfl rfl ev309 rfl (xm_lt ml_195 rfl) ?_
                  refine xi_goto (pc' := 23) kc_195_1504 rfl ?_
                  have A310 := ((eh307.2.1 0 (by decide)).trans ((eh299.2.1 0 (by decide)).trans ((eh296.2.1 0 (by decide)).trans A3)))
                  have A311 := ((eh307.2.1 115 (by decide)).trans eh299.1)
                  have A312 := ((eh307.2.1 66 (by decide)).trans ((eh299.2.1 66 (by decide)).trans ((eh296.2.1 66 (by decide)).trans A20)))
                  have A313 := ((eh307.2.1 71 (by decide)).trans ((eh299.2.1 71 (by decide)).trans ((eh296.2.1 71 (by decide)).trans A21)))
                  have A314 := ((eh307.2.1 132 (by decide)).trans ((eh299.2.1 132 (by decide)).trans ((eh296.2.1 132 (by decide)).trans A22)))
                  exact kk v309 hh307 (by omega) K308 ⟨(xGR_kept I.1 (fun c hc => ((eh307.2.1 c (Ne.symm (xk_nc hc rfl))).trans ((eh299.2.1 c (Ne.symm (xk_nc hc rfl))).trans (eh296.2.1 c (Ne.symm (xk_nc hc rfl)))))) ((eh307.2.1 125 (by decide)).trans ((eh299.2.1 125 (by decide)).trans (eh296.2.1 125 (by decide))))), ((xl_of A310 rfl).trans (xl_of A311 rfl).symm), ((xl_of A312 rfl).trans (xl_of A311 rfl).symm), ((xl_arr A313).trans (xl_arr A314).symm)⟩
          · refine xi_iff (pc' := 7) kc_114_4 rfl (xc_le_f (X := u19.toInt) (Y := 0) rfl (by decide) (by omega)) ?_
            refine xi_aload_n (pc' := 8) (x := 66) kc_114_7 rfl rfl ?_
            refine xi_getfield (pc' := 11) (v := .int u19) kc_114_8 rfl rfl rfl A20 rfl ?_
            refine xi_bipush (pc' := 13) (v := 60) kc_114_11 rfl rfl ?_
            refine xi_cmf (pc' := 16) kc_114_13 rfl (xc_gt_f (X := u19.toInt) (Y := 60) rfl (by decide) (by omega)) ?_
            refine xi_iload_n (pc' := 17) (x := a26) kc_114_16 rfl rfl ?_
            refine xi_aload_n (pc' := 18) (x := 66) kc_114_17 rfl rfl ?_
            refine xi_getfield (pc' := 21) (v := .ref 71) kc_114_18 rfl rfl rfl A20 rfl ?_
            refine xi_aload_n (pc' := 22) (x := 66) kc_114_21 rfl rfl ?_
            refine xi_getfield (pc' := 25) (v := .int u19) kc_114_22 rfl rfl rfl A20 rfl ?_
            refine xi_iconst (pc' := 26) (v := 1) kc_114_25 rfl rfl ?_
            obtain ⟨v315, ev315⟩ : ∃ q : Int32, u19 - 1 = q := ⟨_, rfl⟩
            have zv315 : v315.toInt = (u19.toInt + (-1)) := by rw [← ev315]; exact (xz_sub (X := u19.toInt) (Y := 1) rfl (by decide) (by omega) (by omega)).trans (by omega)
            refine xi_isub (pc' := 27) (v := v315) kc_114_26 rfl ev315 ?_
            obtain ⟨v316, ev316, bv316, dv316⟩ := xj_get hy21 ry21 (i := v315) (by rw [zv315]; omega) (by rw [zv315]; omega)
            refine xi_iaload (pc' := 28) (v := v316) kc_114_27 rfl A21 (by decide) rfl (xi_in (by rw [zv315]; omega) (by rw [hy21]; rw [zv315]; omega)) ev316 ?_
            by_cases c317 : v316.toInt ≤ a26.toInt
            · refine xi_cmt (pc' := 35) kc_114_28 rfl (xc_ge_t (X := a26.toInt) (Y := v316.toInt) rfl rfl (by omega)) ?_
              refine xi_iconst (pc' := 36) (v := 0) kc_114_35 rfl rfl ?_
              refine xi_ireturn kc_114_36 mr_114 rfl ?_
              show xw J ov 99 113 (33, [(0, .ref 0), (1, .int a24), (2, .int a26), (3, .int a28), (4, .int a30)], [.int 0], h) _
              refine xi_ift (pc' := 43) kc_113_33 rfl rfl ?_
              refine xi_iload_n (pc' := 44) (x := a26) kc_113_43 rfl rfl ?_
              refine xi_iff (pc' := 47) kc_113_44 rfl (xc_lt_f (X := a26.toInt) (Y := 0) rfl (by decide) (by omega)) ?_
              refine xi_iload_n (pc' := 48) (x := a28) kc_113_47 rfl rfl ?_
              by_cases c318 : a28.toInt < 0
              · refine xi_ift (pc' := 56) kc_113_48 rfl (xc_lt_t (X := a28.toInt) (Y := 0) rfl (by decide) (by omega)) ?_
                refine xi_aload_n (pc' := 57) (x := 0) kc_113_56 rfl rfl ?_
                refine xi_bipush (pc' := 59) (v := (-4)) kc_113_57 rfl rfl ?_
                refine xi_virtual (mj := 90) (as := [.int (-4)]) (st1 := []) (lv0 := [(0, .ref 0), (1, .int (-4))]) kc_113_59 rfl rfl rfl rfl rfl A3 (Nat.le_of_ble_eq_true rfl) (hJ _ _ _ _ (by decide)) (xm_le ml_90 rfl) rfl ?_
                refine xi_iload_n (pc' := 1) (x := (-4)) kc_90_0 rfl rfl ?_
                refine xi_ineg (pc' := 2) (v := 4) kc_90_1 rfl rfl ?_
                refine xi_istore_n (pc' := 3) (lv' := [(2, .int 4), (0, .ref 0), (1, .int (-4))]) kc_90_2 rfl rfl (xm_lt ml_90 rfl) ?_
                refine xi_iload_n (pc' := 4) (x := 4) kc_90_3 rfl rfl ?_
                refine xi_iff (pc' := 7) kc_90_4 rfl rfl ?_
                refine xi_iload_n (pc' := 8) (x := 4) kc_90_7 rfl rfl ?_
                refine xi_aload_n (pc' := 9) (x := 0) kc_90_8 rfl rfl ?_
                refine xi_getfield (pc' := 12) (v := .ref 94) kc_90_9 rfl rfl rfl A3 rfl ?_
                obtain ⟨y319, A319, hy319, ry319⟩ := xk_arr K.1 xD_94
                refine xi_arraylength (pc' := 13) (n := 7) (v := 7) kc_90_12 rfl (xl_lenI (by decide) (by decide) A319 hy319) rfl ?_
                refine xi_cmf (pc' := 16) kc_90_13 rfl rfl ?_
                refine xi_aload_n (pc' := 17) (x := 0) kc_90_16 rfl rfl ?_
                refine xi_getfield (pc' := 20) (v := .ref 94) kc_90_17 rfl rfl rfl A3 rfl ?_
                refine xi_iload_n (pc' := 21) (x := 4) kc_90_20 rfl rfl ?_
                refine xi_dup2 (pc' := 22) kc_90_21 rfl ⟨rfl, rfl⟩ ?_
                obtain ⟨v320, ev320, bv320, dv320⟩ := xj_get hy319 ry319 (i := 4) (by decide) (by decide)
                refine xi_iaload (pc' := 23) (v := v320) kc_90_22 rfl A319 (by decide) rfl (xi_in (by decide) (by rw [hy319]; decide)) ev320 ?_
                refine xi_iconst (pc' := 24) (v := 1) kc_90_23 rfl rfl ?_
                obtain ⟨v321, ev321⟩ : ∃ q : Int32, (v320 : Int32) + 1 = q := ⟨_, rfl⟩
                have rv321 := xc_rng v321
                refine xi_iadd (pc' := 25) (v := v321) kc_90_24 rfl ev321 ?_
                obtain ⟨y322, s322, hy322, ry322⟩ := xj_set (v := v321) hy319 ry319 4 (by first | omega | decide) (by first | omega | decide)
                refine xi_iastore (pc' := 26) (x' := y322) kc_90_25 rfl A319 rfl (xi_in (by decide) (by rw [hy319]; decide)) s322 (fun hh322 eh322 => ?_)
                have K323 := xk_pa K (xk_wa rfl) xD_94 hy322 ry322 eh322
                refine xi_iload_n (pc' := 27) (x := (-4)) kc_90_26 rfl rfl ?_
                refine xi_ireturn kc_90_27 mr_90 rfl ?_
                show xw J ov 99 113 (62, [(0, .ref 0), (1, .int a24), (2, .int a26), (3, .int a28), (4, .int a30)], [.int (-4)], hh322) _
                refine xi_ireturn kc_113_62 mr_113 rfl ?_
                show xw J ov 100 195 (618, [(4, .int x4), (3, .ref 167), (2, .ref 115), (1, .ref 0), (0, .ref 1000000)], [.int (-4)], hh322) _
                refine xi_aload_n (pc' := 619) (x := 115) kc_195_618 rfl rfl ?_
                refine xi_aload_n (pc' := 620) (x := 1000000) kc_195_619 rfl rfl ?_
                refine xi_iload (pc' := 622) (x := x4) kc_195_620 rfl rfl ?_
                refine xi_iconst (pc' := 623) (v := 1) kc_195_622 rfl rfl ?_
                refine xi_iadd (pc' := 624) (v := v23) kc_195_623 rfl ev23 ?_
                refine xi_ialoadO (pc' := 625) (v := a24) kc_195_624 rfl (by decide) hov0 (xi_in (by omega) (by omega)) ea24 ?_
                refine xi_aload_n (pc' := 626) (x := 1000000) kc_195_625 rfl rfl ?_
                refine xi_iload (pc' := 628) (x := x4) kc_195_626 rfl rfl ?_
                refine xi_iconst (pc' := 629) (v := 2) kc_195_628 rfl rfl ?_
                refine xi_iadd (pc' := 630) (v := v25) kc_195_629 rfl ev25 ?_
                refine xi_ialoadO (pc' := 631) (v := a26) kc_195_630 rfl (by decide) hov0 (xi_in (by omega) (by omega)) ea26 ?_
                refine xi_aload_n (pc' := 632) (x := 1000000) kc_195_631 rfl rfl ?_
                refine xi_iload (pc' := 634) (x := x4) kc_195_632 rfl rfl ?_
                refine xi_iconst (pc' := 635) (v := 3) kc_195_634 rfl rfl ?_
                refine xi_iadd (pc' := 636) (v := v27) kc_195_635 rfl ev27 ?_
                refine xi_ialoadO (pc' := 637) (v := a28) kc_195_636 rfl (by decide) hov0 (xi_in (by omega) (by omega)) ea28 ?_
                refine xi_aload_n (pc' := 638) (x := 1000000) kc_195_637 rfl rfl ?_
                refine xi_iload (pc' := 640) (x := x4) kc_195_638 rfl rfl ?_
                refine xi_iconst (pc' := 641) (v := 4) kc_195_640 rfl rfl ?_
                refine xi_iadd (pc' := 642) (v := v29) kc_195_641 rfl ev29 ?_
                refine xi_ialoadO (pc' := 643) (v := a30) kc_195_642 rfl (by decide) hov0 (xi_in (by omega) (by omega)) ea30 ?_
                have A324 := ((eh322.2.1 115 (by decide)).trans A17)
                refine xi_virtual (mj := 30) (as := [.int a24, .int a26, .int a28, .int a30]) (st1 := [.int (-4)]) (lv0 := [(0, .ref 115), (1, .int a24), (2, .int a26), (3, .int a28), (4, .int a30)]) kc_195_643 rfl rfl rfl rfl rfl A324 (Nat.le_of_ble_eq_true rfl) (hJ _ _ _ _ (by decide)) (xm_le ml_30 rfl) rfl ?_
                refine xi_aload_n (pc' := 1) (x := 115) kc_30_0 rfl rfl ?_
                refine xi_iconst (pc' := 2) (v := 0) kc_30_1 rfl rfl ?_
                refine xi_putfield (pc' := 5) (fs' := [.int 0, .int u2, .ref 116, .ref 117, .ref 118, .ref 119, .ref 120, .ref 121, .ref 122, .ref 123, .ref 124, .ref 125, .ref 126, .ref 127, .ref 128, .ref 129, .int u6, .ref 130, .int u19, .ref 131, .ref 132, .ref 133, .ref 134, .int u8, .ref 135, .ref 136, .ref 137, .ref 138, .ref 139, .ref 140, .ref 141, .ref 142, .int u9, .int u10, .int u11, .ref 143, .ref 144, .ref 145, .ref 146, .ref 147, .ref 148, .int u12, .ref 149, .ref 150, .ref 151, .int u13, .ref 152, .ref 153, .ref 154, .ref 155, .ref 156, .ref 157, .ref 158, .ref 159, .int u14, .ref 160, .int u15, .ref 161, .ref 162, .ref 163, .ref 164, .int u16, .ref 165, .ref 166]) kc_30_2 rfl rfl rfl A324 rfl rfl rfl (Nat.le_of_ble_eq_true rfl) rfl (fun hh326 eh325 => ?_)
                have K327 := xk_pf (k := 0) (v := 0) K323 (xk_wf rfl) xD_115 A324 rfl (by first | omega | decide) (by first | omega | decide) eh325 rfl
                refine xi_aload_n (pc' := 6) (x := 115) kc_30_5 rfl rfl ?_
                refine xi_iload_n (pc' := 7) (x := a24) kc_30_6 rfl rfl ?_
                refine xi_virtual (mj := 31) (as := [.int a24]) (st1 := []) (lv0 := [(0, .ref 115), (1, .int a24)]) kc_30_7 rfl rfl rfl rfl rfl eh325.1 (Nat.le_of_ble_eq_true rfl) (hJ _ _ _ _ (by decide)) (xm_le ml_31 rfl) rfl ?_
                refine xi_iload_n (pc' := 1) (x := a24) kc_31_0 rfl rfl ?_
                refine xi_static (mj := 24) (as := [.int a24]) (st1 := []) (lv0 := [(0, .int a24)]) kc_31_1 rfl rfl (Nat.le_of_ble_eq_true rfl) rfl rfl (Nat.le_of_ble_eq_true rfl) (hJ _ _ _ _ (by decide)) (xm_le ml_24 rfl) rfl ?_
                refine xi_iload_n (pc' := 1) (x := a24) kc_24_0 rfl rfl ?_
                refine xi_iconst (pc' := 2) (v := 0) kc_24_1 rfl rfl ?_
                refine xi_bipush (pc' := 4) (v := 11) kc_24_2 rfl rfl ?_
                refine xi_static (mj := 11) (as := [.int a24, .int 0, .int 11]) (st1 := []) (lv0 := [(0, .int a24), (1, .int 0), (2, .int 11)]) kc_24_4 rfl rfl (Nat.le_of_ble_eq_true rfl) rfl rfl (Nat.le_of_ble_eq_true rfl) (hJ _ _ _ _ (by decide)) (xm_le ml_11 rfl) rfl ?_
                refine xi_iload_n (pc' := 1) (x := a24) kc_11_0 rfl rfl ?_
                refine xi_iload_n (pc' := 2) (x := 0) kc_11_1 rfl rfl ?_
                refine xi_cmf (pc' := 5) kc_11_2 rfl (xc_lt_f (X := a24.toInt) (Y := 0) rfl (by decide) (by omega)) ?_
                refine xi_iload_n (pc' := 6) (x := a24) kc_11_5 rfl rfl ?_
                refine xi_iload_n (pc' := 7) (x := 11) kc_11_6 rfl rfl ?_
                refine xi_cmf (pc' := 10) kc_11_7 rfl (xc_gt_f (X := a24.toInt) (Y := 11) rfl (by decide) (by omega)) ?_
                refine xi_iconst (pc' := 11) (v := 1) kc_11_10 rfl rfl ?_
                refine xi_goto (pc' := 15) kc_11_11 rfl ?_
                refine xi_ireturn kc_11_15 mr_11 rfl ?_
                show xw J ov 97 24 (7, [(0, .int a24)], [.int 1], hh326) _
                refine xi_ireturn kc_24_7 mr_24 rfl ?_
                show xw J ov 98 31 (4, [(0, .ref 115), (1, .int a24)], [.int 1], hh326) _
                refine xi_iff (pc' := 7) kc_31_4 rfl rfl ?_
                refine xi_aload_n (pc' := 8) (x := 115) kc_31_7 rfl rfl ?_
                refine xi_getfield (pc' := 11) (v := .ref 125) kc_31_8 rfl rfl rfl eh325.1 rfl ?_
                refine xi_iload_n (pc' := 12) (x := a24) kc_31_11 rfl rfl ?_
                have A328 := ((eh325.2.1 125 (by decide)).trans ((eh322.2.1 125 (by decide)).trans A86))
                refine xi_iaload (pc' := 13) (v := u80) kc_31_12 rfl A328 (by decide) rfl (xi_in (by omega) (by rw [hy86]; omega)) HG87 ?_
                refine xi_iff (pc' := 16) kc_31_13 rfl (xc_lt_f (X := u80.toInt) (Y := 0) rfl (by decide) (by omega)) ?_
                refine xi_iconst (pc' := 17) (v := 1) kc_31_16 rfl rfl ?_
                refine xi_goto (pc' := 21) kc_31_17 rfl ?_
                refine xi_ireturn kc_31_21 mr_31 rfl ?_
                show xw J ov 99 30 (10, [(0, .ref 115), (1, .int a24), (2, .int a26), (3, .int a28), (4, .int a30)], [.int 1], hh326) _
                refine xi_ift (pc' := 19) kc_30_10 rfl rfl ?_
                refine xi_iload_n (pc' := 20) (x := a26) kc_30_19 rfl rfl ?_
                refine xi_aload_n (pc' := 21) (x := 115) kc_30_20 rfl rfl ?_
                refine xi_getfield (pc' := 24) (v := .int u2) kc_30_21 rfl rfl rfl eh325.1 rfl ?_
                refine xi_cmf (pc' := 27) kc_30_24 rfl (xc_gt_f (X := a26.toInt) (Y := u2.toInt) rfl rfl (by omega)) ?_
                refine xi_aload_n (pc' := 28) (x := 115) kc_30_27 rfl rfl ?_
                refine xi_getfield (pc' := 31) (v := .int u19) kc_30_28 rfl rfl rfl eh325.1 rfl ?_
                refine xi_iff (pc' := 34) kc_30_31 rfl (xc_le_f (X := u19.toInt) (Y := 0) rfl (by decide) (by omega)) ?_
                refine xi_iload_n (pc' := 35) (x := a26) kc_30_34 rfl rfl ?_
                refine xi_aload_n (pc' := 36) (x := 115) kc_30_35 rfl rfl ?_
                refine xi_getfield (pc' := 39) (v := .ref 132) kc_30_36 rfl rfl rfl eh325.1 rfl ?_
                refine xi_aload_n (pc' := 40) (x := 115) kc_30_39 rfl rfl ?_
                refine xi_getfield (pc' := 43) (v := .int u19) kc_30_40 rfl rfl rfl eh325.1 rfl ?_
                refine xi_iconst (pc' := 44) (v := 1) kc_30_43 rfl rfl ?_
                refine xi_isub (pc' := 45) (v := v315) kc_30_44 rfl ev315 ?_
                have A329 := ((eh325.2.1 132 (by decide)).trans ((eh322.2.1 132 (by decide)).trans A22))
                refine xi_iaload (pc' := 46) (v := v316) kc_30_45 rfl A329 (by decide) rfl (xi_in (by rw [zv315]; omega) (by rw [hy22]; rw [zv315]; omega)) ev316 ?_
                refine xi_cmt (pc' := 56) kc_30_46 rfl (xc_ge_t (X := a26.toInt) (Y := v316.toInt) rfl rfl (by omega)) ?_
                refine xi_iload_n (pc' := 57) (x := a26) kc_30_56 rfl rfl ?_
                refine xi_iff (pc' := 60) kc_30_57 rfl (xc_lt_f (X := a26.toInt) (Y := 0) rfl (by decide) (by omega)) ?_
                refine xi_iload_n (pc' := 61) (x := a28) kc_30_60 rfl rfl ?_
                refine xi_ift (pc' := 69) kc_30_61 rfl (xc_lt_t (X := a28.toInt) (Y := 0) rfl (by decide) (by omega)) ?_
                refine xi_aload_n (pc' := 70) (x := 115) kc_30_69 rfl rfl ?_
                refine xi_bipush (pc' := 72) (v := (-4)) kc_30_70 rfl rfl ?_
                refine xi_virtual (mj := 12) (as := [.int (-4)]) (st1 := []) (lv0 := [(0, .ref 115), (1, .int (-4))]) kc_30_72 rfl rfl rfl rfl rfl eh325.1 (Nat.le_of_ble_eq_true rfl) (hJ _ _ _ _ (by decide)) (xm_le ml_12 rfl) rfl ?_
                refine xi_aload_n (pc' := 1) (x := 115) kc_12_0 rfl rfl ?_
                refine xi_getfield (pc' := 4) (v := .ref 140) kc_12_1 rfl rfl rfl eh325.1 rfl ?_
                refine xi_iload_n (pc' := 5) (x := (-4)) kc_12_4 rfl rfl ?_
                refine xi_ineg (pc' := 6) (v := 4) kc_12_5 rfl rfl ?_
                refine xi_dup2 (pc' := 7) kc_12_6 rfl ⟨rfl, rfl⟩ ?_
                obtain ⟨y330, A330, hy330, ry330⟩ := xk_arr K.1 xD_140
                obtain ⟨v331, ev331, bv331, dv331⟩ := xj_get hy330 ry330 (i := 4) (by decide) (by decide)
                have A332 := ((eh325.2.1 140 (by decide)).trans ((eh322.2.1 140 (by decide)).trans A330))
                refine xi_iaload (pc' := 8) (v := v331) kc_12_7 rfl A332 (by decide) rfl (xi_in (by decide) (by rw [hy330]; decide)) ev331 ?_
                refine xi_iconst (pc' := 9) (v := 1) kc_12_8 rfl rfl ?_
                obtain ⟨v333, ev333⟩ : ∃ q : Int32, (v331 : Int32) + 1 = q := ⟨_, rfl⟩
                have rv333 := xc_rng v333
                refine xi_iadd (pc' := 10) (v := v333) kc_12_9 rfl ev333 ?_
                obtain ⟨y334, s334, hy334, ry334⟩ := xj_set (v := v333) hy330 ry330 4 (by first | omega | decide) (by first | omega | decide)
                refine xi_iastore (pc' := 11) (x' := y334) kc_12_10 rfl A332 rfl (xi_in (by decide) (by rw [hy330]; decide)) s334 (fun hh334 eh334 => ?_)
                have K335 := xk_pa K327 (xk_wa rfl) xD_140 hy334 ry334 eh334
                refine xi_iload_n (pc' := 12) (x := (-4)) kc_12_11 rfl rfl ?_
                refine xi_ireturn kc_12_12 mr_12 rfl ?_
                show xw J ov 99 30 (75, [(0, .ref 115), (1, .int a24), (2, .int a26), (3, .int a28), (4, .int a30)], [.int (-4)], hh334) _
                refine xi_ireturn kc_30_75 mr_30 rfl ?_
                show xw J ov 100 195 (646, [(4, .int x4), (3, .ref 167), (2, .ref 115), (1, .ref 0), (0, .ref 1000000)], [.int (-4), .int (-4)], hh334) _
                refine xi_cmt (pc' := 1501) kc_195_646 rfl rfl ?_
                obtain ⟨v336, ev336⟩ : ∃ q : Int32, x4 + 6 = q := ⟨_, rfl⟩
                have zv336 : v336.toInt = (x4.toInt + 6) := by rw [← ev336]; exact (xz_add (X := x4.toInt) (Y := 6) rfl (by decide) (by omega) (by omega)).trans (by omega)
                refine xi_iinc (pc' := 1504) (x := x4) (v := v336) (lv' := [(4, .int v336), (3, .ref 167), (2, .ref 115), (1, .ref 0), (0, .ref 1000000)]) kc_195_1501 rfl rfl ev336 rfl (xm_lt ml_195 rfl) ?_
                refine xi_goto (pc' := 23) kc_195_1504 rfl ?_
                have A337 := ((eh334.2.1 0 (by decide)).trans ((eh325.2.1 0 (by decide)).trans ((eh322.2.1 0 (by decide)).trans A3)))
                have A338 := ((eh334.2.1 115 (by decide)).trans eh325.1)
                have A339 := ((eh334.2.1 66 (by decide)).trans ((eh325.2.1 66 (by decide)).trans ((eh322.2.1 66 (by decide)).trans A20)))
                have A340 := ((eh334.2.1 71 (by decide)).trans ((eh325.2.1 71 (by decide)).trans ((eh322.2.1 71 (by decide)).trans A21)))
                have A341 := ((eh334.2.1 132 (by decide)).trans A329)
                exact kk v336 hh334 (by omega) K335 ⟨(xGR_kept I.1 (fun c hc => ((eh334.2.1 c (Ne.symm (xk_nc hc rfl))).trans ((eh325.2.1 c (Ne.symm (xk_nc hc rfl))).trans (eh322.2.1 c (Ne.symm (xk_nc hc rfl)))))) ((eh334.2.1 125 (by decide)).trans ((eh325.2.1 125 (by decide)).trans (eh322.2.1 125 (by decide))))), ((xl_of A337 rfl).trans (xl_of A338 rfl).symm), ((xl_of A339 rfl).trans (xl_of A338 rfl).symm), ((xl_arr A340).trans (xl_arr A341).symm)⟩
              · refine xi_iff (pc' := 51) kc_113_48 rfl (xc_lt_f (X := a28.toInt) (Y := 0) rfl (by decide) (by omega)) ?_
                refine xi_iload (pc' := 53) (x := a30) kc_113_51 rfl rfl ?_
                by_cases c342 : 0 ≤ a30.toInt
                · refine xi_ift (pc' := 63) kc_113_53 rfl (xc_ge_t (X := a30.toInt) (Y := 0) rfl (by decide) (by omega)) ?_
                  refine xi_iload_n (pc' := 64) (x := a28) kc_113_63 rfl rfl ?_
                  refine xi_ldc (pc' := 66) (v := 99999) kc_113_64 rfl rfl ?_
                  by_cases c343 : 99999 < a28.toInt
                  · refine xi_cmt (pc' := 89) kc_113_66 rfl (xc_gt_t (X := a28.toInt) (Y := 99999) rfl (by decide) (by omega)) ?_
                    refine xi_aload_n (pc' := 90) (x := 0) kc_113_89 rfl rfl ?_
                    refine xi_bipush (pc' := 92) (v := (-6)) kc_113_90 rfl rfl ?_
                    refine xi_virtual (mj := 90) (as := [.int (-6)]) (st1 := []) (lv0 := [(0, .ref 0), (1, .int (-6))]) kc_113_92 rfl rfl rfl rfl rfl A3 (Nat.le_of_ble_eq_true rfl) (hJ _ _ _ _ (by decide)) (xm_le ml_90 rfl) rfl ?_
                    refine xi_iload_n (pc' := 1) (x := (-6)) kc_90_0 rfl rfl ?_
                    refine xi_ineg (pc' := 2) (v := 6) kc_90_1 rfl rfl ?_
                    refine xi_istore_n (pc' := 3) (lv' := [(2, .int 6), (0, .ref 0), (1, .int (-6))]) kc_90_2 rfl rfl (xm_lt ml_90 rfl) ?_
                    refine xi_iload_n (pc' := 4) (x := 6) kc_90_3 rfl rfl ?_
                    refine xi_iff (pc' := 7) kc_90_4 rfl rfl ?_
                    refine xi_iload_n (pc' := 8) (x := 6) kc_90_7 rfl rfl ?_
                    refine xi_aload_n (pc' := 9) (x := 0) kc_90_8 rfl rfl ?_
                    refine xi_getfield (pc' := 12) (v := .ref 94) kc_90_9 rfl rfl rfl A3 rfl ?_
                    obtain ⟨y344, A344, hy344, ry344⟩ := xk_arr K.1 xD_94
                    refine xi_arraylength (pc' := 13) (n := 7) (v := 7) kc_90_12 rfl (xl_lenI (by decide) (by decide) A344 hy344) rfl ?_
                    refine xi_cmf (pc' := 16) kc_90_13 rfl rfl ?_
                    refine xi_aload_n (pc' := 17) (x := 0) kc_90_16 rfl rfl ?_
                    refine xi_getfield (pc' := 20) (v := .ref 94) kc_90_17 rfl rfl rfl A3 rfl ?_
                    refine xi_iload_n (pc' := 21) (x := 6) kc_90_20 rfl rfl ?_
                    refine xi_dup2 (pc' := 22) kc_90_21 rfl ⟨rfl, rfl⟩ ?_
                    obtain ⟨v345, ev345, bv345, dv345⟩ := xj_get hy344 ry344 (i := 6) (by decide) (by decide)
                    refine xi_iaload (pc' := 23) (v := v345) kc_90_22 rfl A344 (by decide) rfl (xi_in (by decide) (by rw [hy344]; decide)) ev345 ?_
                    refine xi_iconst (pc' := 24) (v := 1) kc_90_23 rfl rfl ?_
                    obtain ⟨v346, ev346⟩ : ∃ q : Int32, (v345 : Int32) + 1 = q := ⟨_, rfl⟩
                    have rv346 := xc_rng v346
                    refine xi_iadd (pc' := 25) (v := v346) kc_90_24 rfl ev346 ?_
                    obtain ⟨y347, s347, hy347, ry347⟩ := xj_set (v := v346) hy344 ry344 6 (by first | omega | decide) (by first | omega | decide)
                    refine xi_iastore (pc' := 26) (x' := y347) kc_90_25 rfl A344 rfl (xi_in (by decide) (by rw [hy344]; decide)) s347 (fun hh347 eh347 => ?_)
                    have K348 := xk_pa K (xk_wa rfl) xD_94 hy347 ry347 eh347
                    refine xi_iload_n (pc' := 27) (x := (-6)) kc_90_26 rfl rfl ?_
                    refine xi_ireturn kc_90_27 mr_90 rfl ?_
                    show xw J ov 99 113 (95, [(0, .ref 0), (1, .int a24), (2, .int a26), (3, .int a28), (4, .int a30)], [.int (-6)], hh347) _
                    refine xi_ireturn kc_113_95 mr_113 rfl ?_
                    show xw J ov 100 195 (618, [(4, .int x4), (3, .ref 167), (2, .ref 115), (1, .ref 0), (0, .ref 1000000)], [.int (-6)], hh347) _
                    refine xi_aload_n (pc' := 619) (x := 115) kc_195_618 rfl rfl ?_
                    refine xi_aload_n (pc' := 620) (x := 1000000) kc_195_619 rfl rfl ?_
                    refine xi_iload (pc' := 622) (x := x4) kc_195_620 rfl rfl ?_
                    refine xi_iconst (pc' := 623) (v := 1) kc_195_622 rfl rfl ?_
                    refine xi_iadd (pc' := 624) (v := v23) kc_195_623 rfl ev23 ?_
                    refine xi_ialoadO (pc' := 625) (v := a24) kc_195_624 rfl (by decide) hov0 (xi_in (by omega) (by omega)) ea24 ?_
                    refine xi_aload_n (pc' := 626) (x := 1000000) kc_195_625 rfl rfl ?_
                    refine xi_iload (pc' := 628) (x := x4) kc_195_626 rfl rfl ?_
                    refine xi_iconst (pc' := 629) (v := 2) kc_195_628 rfl rfl ?_
                    refine xi_iadd (pc' := 630) (v := v25) kc_195_629 rfl ev25 ?_
                    refine xi_ialoadO (pc' := 631) (v := a26) kc_195_630 rfl (by decide) hov0 (xi_in (by omega) (by omega)) ea26 ?_
                    refine xi_aload_n (pc' := 632) (x := 1000000) kc_195_631 rfl rfl ?_
                    refine xi_iload (pc' := 634) (x := x4) kc_195_632 rfl rfl ?_
                    refine xi_iconst (pc' := 635) (v := 3) kc_195_634 rfl rfl ?_
                    refine xi_iadd (pc' := 636) (v := v27) kc_195_635 rfl ev27 ?_
                    refine xi_ialoadO (pc' := 637) (v := a28) kc_195_636 rfl (by decide) hov0 (xi_in (by omega) (by omega)) ea28 ?_
                    refine xi_aload_n (pc' := 638) (x := 1000000) kc_195_637 rfl rfl ?_
                    refine xi_iload (pc' := 640) (x := x4) kc_195_638 rfl rfl ?_
                    refine xi_iconst (pc' := 641) (v := 4) kc_195_640 rfl rfl ?_
                    refine xi_iadd (pc' := 642) (v := v29) kc_195_641 rfl ev29 ?_
                    refine xi_ialoadO (pc' := 643) (v := a30) kc_195_642 rfl (by decide) hov0 (xi_in (by omega) (by omega)) ea30 ?_
                    have A349 := ((eh347.2.1 115 (by decide)).trans A17)
                    refine xi_virtual (mj := 30) (as := [.int a24, .int a26, .int a28, .int a30]) (st1 := [.int (-6)]) (lv0 := [(0, .ref 115), (1, .int a24), (2, .int a26), (3, .int a28), (4, .int a30)]) kc_195_643 rfl rfl rfl rfl rfl A349 (Nat.le_of_ble_eq_true rfl) (hJ _ _ _ _ (by decide)) (xm_le ml_30 rfl) rfl ?_
                    refine xi_aload_n (pc' := 1) (x := 115) kc_30_0 rfl rfl ?_
                    refine xi_iconst (pc' := 2) (v := 0) kc_30_1 rfl rfl ?_
                    refine xi_putfield (pc' := 5) (fs' := [.int 0, .int u2, .ref 116, .ref 117, .ref 118, .ref 119, .ref 120, .ref 121, .ref 122, .ref 123, .ref 124, .ref 125, .ref 126, .ref 127, .ref 128, .ref 129, .int u6, .ref 130, .int u19, .ref 131, .ref 132, .ref 133, .ref 134, .int u8, .ref 135, .ref 136, .ref 137, .ref 138, .ref 139, .ref 140, .ref 141, .ref 142, .int u9, .int u10, .int u11, .ref 143, .ref 144, .ref 145, .ref 146, .ref 147, .ref 148, .int u12, .ref 149, .ref 150, .ref 151, .int u13, .ref 152, .ref 153, .ref 154, .ref 155, .ref 156, .ref 157, .ref 158, .ref 159, .int u14, .ref 160, .int u15, .ref 161, .ref 162, .ref 163, .ref 164, .int u16, .ref 165, .ref 166]) kc_30_2 rfl rfl rfl A349 rfl rfl rfl (Nat.le_of_ble_eq_true rfl) rfl (fun hh351 eh350 => ?_)
                    have K352 := xk_pf (k := 0) (v := 0) K348 (xk_wf rfl) xD_115 A349 rfl (by first | omega | decide) (by first | omega | decide) eh350 rfl
                    refine xi_aload_n (pc' := 6) (x := 115) kc_30_5 rfl rfl ?_
                    refine xi_iload_n (pc' := 7) (x := a24) kc_30_6 rfl rfl ?_
                    refine xi_virtual (mj := 31) (as := [.int a24]) (st1 := []) (lv0 := [(0, .ref 115), (1, .int a24)]) kc_30_7 rfl rfl rfl rfl rfl eh350.1 (Nat.le_of_ble_eq_true rfl) (hJ _ _ _ _ (by decide)) (xm_le ml_31 rfl) rfl ?_
                    refine xi_iload_n (pc' := 1) (x := a24) kc_31_0 rfl rfl ?_
                    refine xi_static (mj := 24) (as := [.int a24]) (st1 := []) (lv0 := [(0, .int a24)]) kc_31_1 rfl rfl (Nat.le_of_ble_eq_true rfl) rfl rfl (Nat.le_of_ble_eq_true rfl) (hJ _ _ _ _ (by decide)) (xm_le ml_24 rfl) rfl ?_
                    refine xi_iload_n (pc' := 1) (x := a24) kc_24_0 rfl rfl ?_
                    refine xi_iconst (pc' := 2) (v := 0) kc_24_1 rfl rfl ?_
                    refine xi_bipush (pc' := 4) (v := 11) kc_24_2 rfl rfl ?_
                    refine xi_static (mj := 11) (as := [.int a24, .int 0, .int 11]) (st1 := []) (lv0 := [(0, .int a24), (1, .int 0), (2, .int 11)]) kc_24_4 rfl rfl (Nat.le_of_ble_eq_true rfl) rfl rfl (Nat.le_of_ble_eq_true rfl) (hJ _ _ _ _ (by decide)) (xm_le ml_11 rfl) rfl ?_
                    refine xi_iload_n (pc' := 1) (x := a24) kc_11_0 rfl rfl ?_
                    refine xi_iload_n (pc' := 2) (x := 0) kc_11_1 rfl rfl ?_
                    refine xi_cmf (pc' := 5) kc_11_2 rfl (xc_lt_f (X := a24.toInt) (Y := 0) rfl (by decide) (by omega)) ?_
                    refine xi_iload_n (pc' := 6) (x := a24) kc_11_5 rfl rfl ?_
                    refine xi_iload_n (pc' := 7) (x := 11) kc_11_6 rfl rfl ?_
                    refine xi_cmf (pc' := 10) kc_11_7 rfl (xc_gt_f (X := a24.toInt) (Y := 11) rfl (by decide) (by omega)) ?_
                    refine xi_iconst (pc' := 11) (v := 1) kc_11_10 rfl rfl ?_
                    refine xi_goto (pc' := 15) kc_11_11 rfl ?_
                    refine xi_ireturn kc_11_15 mr_11 rfl ?_
                    show xw J ov 97 24 (7, [(0, .int a24)], [.int 1], hh351) _
                    refine xi_ireturn kc_24_7 mr_24 rfl ?_
                    show xw J ov 98 31 (4, [(0, .ref 115), (1, .int a24)], [.int 1], hh351) _
                    refine xi_iff (pc' := 7) kc_31_4 rfl rfl ?_
                    refine xi_aload_n (pc' := 8) (x := 115) kc_31_7 rfl rfl ?_
                    refine xi_getfield (pc' := 11) (v := .ref 125) kc_31_8 rfl rfl rfl eh350.1 rfl ?_
                    refine xi_iload_n (pc' := 12) (x := a24) kc_31_11 rfl rfl ?_
                    have A353 := ((eh350.2.1 125 (by decide)).trans ((eh347.2.1 125 (by decide)).trans A86))
                    refine xi_iaload (pc' := 13) (v := u80) kc_31_12 rfl A353 (by decide) rfl (xi_in (by omega) (by rw [hy86]; omega)) HG87 ?_
                    refine xi_iff (pc' := 16) kc_31_13 rfl (xc_lt_f (X := u80.toInt) (Y := 0) rfl (by decide) (by omega)) ?_
                    refine xi_iconst (pc' := 17) (v := 1) kc_31_16 rfl rfl ?_
                    refine xi_goto (pc' := 21) kc_31_17 rfl ?_
                    refine xi_ireturn kc_31_21 mr_31 rfl ?_
                    show xw J ov 99 30 (10, [(0, .ref 115), (1, .int a24), (2, .int a26), (3, .int a28), (4, .int a30)], [.int 1], hh351) _
                    refine xi_ift (pc' := 19) kc_30_10 rfl rfl ?_
                    refine xi_iload_n (pc' := 20) (x := a26) kc_30_19 rfl rfl ?_
                    refine xi_aload_n (pc' := 21) (x := 115) kc_30_20 rfl rfl ?_
                    refine xi_getfield (pc' := 24) (v := .int u2) kc_30_21 rfl rfl rfl eh350.1 rfl ?_
                    refine xi_cmf (pc' := 27) kc_30_24 rfl (xc_gt_f (X := a26.toInt) (Y := u2.toInt) rfl rfl (by omega)) ?_
                    refine xi_aload_n (pc' := 28) (x := 115) kc_30_27 rfl rfl ?_
                    refine xi_getfield (pc' := 31) (v := .int u19) kc_30_28 rfl rfl rfl eh350.1 rfl ?_
                    refine xi_iff (pc' := 34) kc_30_31 rfl (xc_le_f (X := u19.toInt) (Y := 0) rfl (by decide) (by omega)) ?_
                    refine xi_iload_n (pc' := 35) (x := a26) kc_30_34 rfl rfl ?_
                    refine xi_aload_n (pc' := 36) (x := 115) kc_30_35 rfl rfl ?_
                    refine xi_getfield (pc' := 39) (v := .ref 132) kc_30_36 rfl rfl rfl eh350.1 rfl ?_
                    refine xi_aload_n (pc' := 40) (x := 115) kc_30_39 rfl rfl ?_
                    refine xi_getfield (pc' := 43) (v := .int u19) kc_30_40 rfl rfl rfl eh350.1 rfl ?_
                    refine xi_iconst (pc' := 44) (v := 1) kc_30_43 rfl rfl ?_
                    refine xi_isub (pc' := 45) (v := v315) kc_30_44 rfl ev315 ?_
                    have A354 := ((eh350.2.1 132 (by decide)).trans ((eh347.2.1 132 (by decide)).trans A22))
                    refine xi_iaload (pc' := 46) (v := v316) kc_30_45 rfl A354 (by decide) rfl (xi_in (by rw [zv315]; omega) (by rw [hy22]; rw [zv315]; omega)) ev316 ?_
                    refine xi_cmt (pc' := 56) kc_30_46 rfl (xc_ge_t (X := a26.toInt) (Y := v316.toInt) rfl rfl (by omega)) ?_
                    refine xi_iload_n (pc' := 57) (x := a26) kc_30_56 rfl rfl ?_
                    refine xi_iff (pc' := 60) kc_30_57 rfl (xc_lt_f (X := a26.toInt) (Y := 0) rfl (by decide) (by omega)) ?_
                    refine xi_iload_n (pc' := 61) (x := a28) kc_30_60 rfl rfl ?_
                    refine xi_iff (pc' := 64) kc_30_61 rfl (xc_lt_f (X := a28.toInt) (Y := 0) rfl (by decide) (by omega)) ?_
                    refine xi_iload (pc' := 66) (x := a30) kc_30_64 rfl rfl ?_
                    refine xi_ift (pc' := 76) kc_30_66 rfl (xc_ge_t (X := a30.toInt) (Y := 0) rfl (by decide) (by omega)) ?_
                    refine xi_iload_n (pc' := 77) (x := a28) kc_30_76 rfl rfl ?_
                    refine xi_ldc (pc' := 79) (v := 99999) kc_30_77 rfl rfl ?_
                    refine xi_cmt (pc' := 99) kc_30_79 rfl (xc_gt_t (X := a28.toInt) (Y := 99999) rfl (by decide) (by omega)) ?_
                    refine xi_aload_n (pc' := 100) (x := 115) kc_30_99 rfl rfl ?_
                    refine xi_bipush (pc' := 102) (v := (-6)) kc_30_100 rfl rfl ?_
                    refine xi_virtual (mj := 12) (as := [.int (-6)]) (st1 := []) (lv0 := [(0, .ref 115), (1, .int (-6))]) kc_30_102 rfl rfl rfl rfl rfl eh350.1 (Nat.le_of_ble_eq_true rfl) (hJ _ _ _ _ (by decide)) (xm_le ml_12 rfl) rfl ?_
                    refine xi_aload_n (pc' := 1) (x := 115) kc_12_0 rfl rfl ?_
                    refine xi_getfield (pc' := 4) (v := .ref 140) kc_12_1 rfl rfl rfl eh350.1 rfl ?_
                    refine xi_iload_n (pc' := 5) (x := (-6)) kc_12_4 rfl rfl ?_
                    refine xi_ineg (pc' := 6) (v := 6) kc_12_5 rfl rfl ?_
                    refine xi_dup2 (pc' := 7) kc_12_6 rfl ⟨rfl, rfl⟩ ?_
                    obtain ⟨y355, A355, hy355, ry355⟩ := xk_arr K.1 xD_140
                    obtain ⟨v356, ev356, bv356, dv356⟩ := xj_get hy355 ry355 (i := 6) (by decide) (by decide)
                    have A357 := ((eh350.2.1 140 (by decide)).trans ((eh347.2.1 140 (by decide)).trans A355))
                    refine xi_iaload (pc' := 8) (v := v356) kc_12_7 rfl A357 (by decide) rfl (xi_in (by decide) (by rw [hy355]; decide)) ev356 ?_
                    refine xi_iconst (pc' := 9) (v := 1) kc_12_8 rfl rfl ?_
                    obtain ⟨v358, ev358⟩ : ∃ q : Int32, (v356 : Int32) + 1 = q := ⟨_, rfl⟩
                    have rv358 := xc_rng v358
                    refine xi_iadd (pc' := 10) (v := v358) kc_12_9 rfl ev358 ?_
                    obtain ⟨y359, s359, hy359, ry359⟩ := xj_set (v := v358) hy355 ry355 6 (by first | omega | decide) (by first | omega | decide)
                    refine xi_iastore (pc' := 11) (x' := y359) kc_12_10 rfl A357 rfl (xi_in (by decide) (by rw [hy355]; decide)) s359 (fun hh359 eh359 => ?_)
                    have K360 := xk_pa K352 (xk_wa rfl) xD_140 hy359 ry359 eh359
                    refine xi_iload_n (pc' := 12) (x := (-6)) kc_12_11 rfl rfl ?_
                    refine xi_ireturn kc_12_12 mr_12 rfl ?_
                    show xw J ov 99 30 (105, [(0, .ref 115), (1, .int a24), (2, .int a26), (3, .int a28), (4, .int a30)], [.int (-6)], hh359) _
                    refine xi_ireturn kc_30_105 mr_30 rfl ?_
                    show xw J ov 100 195 (646, [(4, .int x4), (3, .ref 167), (2, .ref 115), (1, .ref 0), (0, .ref 1000000)], [.int (-6), .int (-6)], hh359) _
                    refine xi_cmt (pc' := 1501) kc_195_646 rfl rfl ?_
                    obtain ⟨v361, ev361⟩ : ∃ q : Int32, x4 + 6 = q := ⟨_, rfl⟩
                    have zv361 : v361.toInt = (x4.toInt + 6) := by rw [← ev361]; exact (xz_add (X := x4.toInt) (Y := 6) rfl (by decide) (by omega) (by omega)).trans (by omega)
                    refine xi_iinc (pc' := 1504) (x := x4) (v := v361) (lv' := [(4, .int v361), (3, .ref 167), (2, .ref 115), (1, .ref 0), (0, .ref 1000000)]) kc_195_1501 rfl rfl ev361 rfl (xm_lt ml_195 rfl) ?_
                    refine xi_goto (pc' := 23) kc_195_1504 rfl ?_
                    have A362 := ((eh359.2.1 0 (by decide)).trans ((eh350.2.1 0 (by decide)).trans ((eh347.2.1 0 (by decide)).trans A3)))
                    have A363 := ((eh359.2.1 115 (by decide)).trans eh350.1)
                    have A364 := ((eh359.2.1 66 (by decide)).trans ((eh350.2.1 66 (by decide)).trans ((eh347.2.1 66 (by decide)).trans A20)))
                    have A365 := ((eh359.2.1 71 (by decide)).trans ((eh350.2.1 71 (by decide)).trans ((eh347.2.1 71 (by decide)).trans A21)))
                    have A366 := ((eh359.2.1 132 (by decide)).trans A354)
                    exact kk v361 hh359 (by omega) K360 ⟨(xGR_kept I.1 (fun c hc => ((eh359.2.1 c (Ne.symm (xk_nc hc rfl))).trans ((eh350.2.1 c (Ne.symm (xk_nc hc rfl))).trans (eh347.2.1 c (Ne.symm (xk_nc hc rfl)))))) ((eh359.2.1 125 (by decide)).trans ((eh350.2.1 125 (by decide)).trans (eh347.2.1 125 (by decide))))), ((xl_of A362 rfl).trans (xl_of A363 rfl).symm), ((xl_of A364 rfl).trans (xl_of A363 rfl).symm), ((xl_arr A365).trans (xl_arr A366).symm)⟩
                  · refine xi_cmf (pc' := 69) kc_113_66 rfl (xc_gt_f (X := a28.toInt) (Y := 99999) rfl (by decide) (by omega)) ?_
                    refine xi_iload (pc' := 71) (x := a30) kc_113_69 rfl rfl ?_
                    refine xi_sipush (pc' := 74) (v := 999) kc_113_71 rfl rfl ?_
                    by_cases c367 : 999 < a30.toInt
                    · refine xi_cmt (pc' := 89) kc_113_74 rfl (xc_gt_t (X := a30.toInt) (Y := 999) rfl (by decide) (by omega)) ?_
                      refine xi_aload_n (pc' := 90) (x := 0) kc_113_89 rfl rfl ?_
                      refine xi_bipush (pc' := 92) (v := (-6)) kc_113_90 rfl rfl ?_
                      refine xi_virtual (mj := 90) (as := [.int (-6)]) (st1 := []) (lv0 := [(0, .ref 0), (1, .int (-6))]) kc_113_92 rfl rfl rfl rfl rfl A3 (Nat.le_of_ble_eq_true rfl) (hJ _ _ _ _ (by decide)) (xm_le ml_90 rfl) rfl ?_
                      refine xi_iload_n (pc' := 1) (x := (-6)) kc_90_0 rfl rfl ?_
                      refine xi_ineg (pc' := 2) (v := 6) kc_90_1 rfl rfl ?_
                      refine xi_istore_n (pc' := 3) (lv' := [(2, .int 6), (0, .ref 0), (1, .int (-6))]) kc_90_2 rfl rfl (xm_lt ml_90 rfl) ?_
                      refine xi_iload_n (pc' := 4) (x := 6) kc_90_3 rfl rfl ?_
                      refine xi_iff (pc' := 7) kc_90_4 rfl rfl ?_
                      refine xi_iload_n (pc' := 8) (x := 6) kc_90_7 rfl rfl ?_
                      refine xi_aload_n (pc' := 9) (x := 0) kc_90_8 rfl rfl ?_
                      refine xi_getfield (pc' := 12) (v := .ref 94) kc_90_9 rfl rfl rfl A3 rfl ?_
                      obtain ⟨y368, A368, hy368, ry368⟩ := xk_arr K.1 xD_94
                      refine xi_arraylength (pc' := 13) (n := 7) (v := 7) kc_90_12 rfl (xl_lenI (by decide) (by decide) A368 hy368) rfl ?_
                      refine xi_cmf (pc' := 16) kc_90_13 rfl rfl ?_
                      refine xi_aload_n (pc' := 17) (x := 0) kc_90_16 rfl rfl ?_
                      refine xi_getfield (pc' := 20) (v := .ref 94) kc_90_17 rfl rfl rfl A3 rfl ?_
                      refine xi_iload_n (pc' := 21) (x := 6) kc_90_20 rfl rfl ?_
                      refine xi_dup2 (pc' := 22) kc_90_21 rfl ⟨rfl, rfl⟩ ?_
                      obtain ⟨v369, ev369, bv369, dv369⟩ := xj_get hy368 ry368 (i := 6) (by decide) (by decide)
                      refine xi_iaload (pc' := 23) (v := v369) kc_90_22 rfl A368 (by decide) rfl (xi_in (by decide) (by rw [hy368]; decide)) ev369 ?_
                      refine xi_iconst (pc' := 24) (v := 1) kc_90_23 rfl rfl ?_
                      obtain ⟨v370, ev370⟩ : ∃ q : Int32, (v369 : Int32) + 1 = q := ⟨_, rfl⟩
                      have rv370 := xc_rng v370
                      refine xi_iadd (pc' := 25) (v := v370) kc_90_24 rfl ev370 ?_
                      obtain ⟨y371, s371, hy371, ry371⟩ := xj_set (v := v370) hy368 ry368 6 (by first | omega | decide) (by first | omega | decide)
                      refine xi_iastore (pc' := 26) (x' := y371) kc_90_25 rfl A368 rfl (xi_in (by decide) (by rw [hy368]; decide)) s371 (fun hh371 eh371 => ?_)
                      have K372 := xk_pa K (xk_wa rfl) xD_94 hy371 ry371 eh371
                      refine xi_iload_n (pc' := 27) (x := (-6)) kc_90_26 rfl rfl ?_
                      refine xi_ireturn kc_90_27 mr_90 rfl ?_
                      show xw J ov 99 113 (95, [(0, .ref 0), (1, .int a24), (2, .int a26), (3, .int a28), (4, .int a30)], [.int (-6)], hh371) _
                      refine xi_ireturn kc_113_95 mr_113 rfl ?_
                      show xw J ov 100 195 (618, [(4, .int x4), (3, .ref 167), (2, .ref 115), (1, .ref 0), (0, .ref 1000000)], [.int (-6)], hh371) _
                      refine xi_aload_n (pc' := 619) (x := 115) kc_195_618 rfl rfl ?_
                      refine xi_aload_n (pc' := 620) (x := 1000000) kc_195_619 rfl rfl ?_
                      refine xi_iload (pc' := 622) (x := x4) kc_195_620 rfl rfl ?_
                      refine xi_iconst (pc' := 623) (v := 1) kc_195_622 rfl rfl ?_
                      refine xi_iadd (pc' := 624) (v := v23) kc_195_623 rfl ev23 ?_
                      refine xi_ialoadO (pc' := 625) (v := a24) kc_195_624 rfl (by decide) hov0 (xi_in (by omega) (by omega)) ea24 ?_
                      refine xi_aload_n (pc' := 626) (x := 1000000) kc_195_625 rfl rfl ?_
                      refine xi_iload (pc' := 628) (x := x4) kc_195_626 rfl rfl ?_
                      refine xi_iconst (pc' := 629) (v := 2) kc_195_628 rfl rfl ?_
                      refine xi_iadd (pc' := 630) (v := v25) kc_195_629 rfl ev25 ?_
                      refine xi_ialoadO (pc' := 631) (v := a26) kc_195_630 rfl (by decide) hov0 (xi_in (by omega) (by omega)) ea26 ?_
                      refine xi_aload_n (pc' := 632) (x := 1000000) kc_195_631 rfl rfl ?_
                      refine xi_iload (pc' := 634) (x := x4) kc_195_632 rfl rfl ?_
                      refine xi_iconst (pc' := 635) (v := 3) kc_195_634 rfl rfl ?_
                      refine xi_iadd (pc' := 636) (v := v27) kc_195_635 rfl ev27 ?_
                      refine xi_ialoadO (pc' := 637) (v := a28) kc_195_636 rfl (by decide) hov0 (xi_in (by omega) (by omega)) ea28 ?_
                      refine xi_aload_n (pc' := 638) (x := 1000000) kc_195_637 rfl rfl ?_
                      refine xi_iload (pc' := 640) (x := x4) kc_195_638 rfl rfl ?_
                      refine xi_iconst (pc' := 641) (v := 4) kc_195_640 rfl rfl ?_
                      refine xi_iadd (pc' := 642) (v := v29) kc_195_641 rfl ev29 ?_
                      refine xi_ialoadO (pc' := 643) (v := a30) kc_195_642 rfl (by decide) hov0 (xi_in (by omega) (by omega)) ea30 ?_
                      have A373 := ((eh371.2.1 115 (by decide)).trans A17)
                      refine xi_virtual (mj := 30) (as := [.int a24, .int a26, .int a28, .int a30]) (st1 := [.int (-6)]) (lv0 := [(0, .ref 115), (1, .int a24), (2, .int a26), (3, .int a28), (4, .int a30)]) kc_195_643 rfl rfl rfl rfl rfl A373 (Nat.le_of_ble_eq_true rfl) (hJ _ _ _ _ (by decide)) (xm_le ml_30 rfl) rfl ?_
                      refine xi_aload_n (pc' := 1) (x := 115) kc_30_0 rfl rfl ?_
                      refine xi_iconst (pc' := 2) (v := 0) kc_30_1 rfl rfl ?_
                      refine xi_putfield (pc' := 5) (fs' := [.int 0, .int u2, .ref 116, .ref 117, .ref 118, .ref 119, .ref 120, .ref 121, .ref 122, .ref 123, .ref 124, .ref 125, .ref 126, .ref 127, .ref 128, .ref 129, .int u6, .ref 130, .int u19, .ref 131, .ref 132, .ref 133, .ref 134, .int u8, .ref 135, .ref 136, .ref 137, .ref 138, .ref 139, .ref 140, .ref 141, .ref 142, .int u9, .int u10, .int u11, .ref 143, .ref 144, .ref 145, .ref 146, .ref 147, .ref 148, .int u12, .ref 149, .ref 150, .ref 151, .int u13, .ref 152, .ref 153, .ref 154, .ref 155, .ref 156, .ref 157, .ref 158, .ref 159, .int u14, .ref 160, .int u15, .ref 161, .ref 162, .ref 163, .ref 164, .int u16, .ref 165, .ref 166]) kc_30_2 rfl rfl rfl A373 rfl rfl rfl (Nat.le_of_ble_eq_true rfl) rfl (fun hh375 eh374 => ?_)
                      have K376 := xk_pf (k := 0) (v := 0) K372 (xk_wf rfl) xD_115 A373 rfl (by first | omega | decide) (by first | omega | decide) eh374 rfl
                      refine xi_aload_n (pc' := 6) (x := 115) kc_30_5 rfl rfl ?_
                      refine xi_iload_n (pc' := 7) (x := a24) kc_30_6 rfl rfl ?_
                      refine xi_virtual (mj := 31) (as := [.int a24]) (st1 := []) (lv0 := [(0, .ref 115), (1, .int a24)]) kc_30_7 rfl rfl rfl rfl rfl eh374.1 (Nat.le_of_ble_eq_true rfl) (hJ _ _ _ _ (by decide)) (xm_le ml_31 rfl) rfl ?_
                      refine xi_iload_n (pc' := 1) (x := a24) kc_31_0 rfl rfl ?_
                      refine xi_static (mj := 24) (as := [.int a24]) (st1 := []) (lv0 := [(0, .int a24)]) kc_31_1 rfl rfl (Nat.le_of_ble_eq_true rfl) rfl rfl (Nat.le_of_ble_eq_true rfl) (hJ _ _ _ _ (by decide)) (xm_le ml_24 rfl) rfl ?_
                      refine xi_iload_n (pc' := 1) (x := a24) kc_24_0 rfl rfl ?_
                      refine xi_iconst (pc' := 2) (v := 0) kc_24_1 rfl rfl ?_
                      refine xi_bipush (pc' := 4) (v := 11) kc_24_2 rfl rfl ?_
                      refine xi_static (mj := 11) (as := [.int a24, .int 0, .int 11]) (st1 := []) (lv0 := [(0, .int a24), (1, .int 0), (2, .int 11)]) kc_24_4 rfl rfl (Nat.le_of_ble_eq_true rfl) rfl rfl (Nat.le_of_ble_eq_true rfl) (hJ _ _ _ _ (by decide)) (xm_le ml_11 rfl) rfl ?_
                      refine xi_iload_n (pc' := 1) (x := a24) kc_11_0 rfl rfl ?_
                      refine xi_iload_n (pc' := 2) (x := 0) kc_11_1 rfl rfl ?_
                      refine xi_cmf (pc' := 5) kc_11_2 rfl (xc_lt_f (X := a24.toInt) (Y := 0) rfl (by decide) (by omega)) ?_
                      refine xi_iload_n (pc' := 6) (x := a24) kc_11_5 rfl rfl ?_
                      refine xi_iload_n (pc' := 7) (x := 11) kc_11_6 rfl rfl ?_
                      refine xi_cmf (pc' := 10) kc_11_7 rfl (xc_gt_f (X := a24.toInt) (Y := 11) rfl (by decide) (by omega)) ?_
                      refine xi_iconst (pc' := 11) (v := 1) kc_11_10 rfl rfl ?_
                      refine xi_goto (pc' := 15) kc_11_11 rfl ?_
                      refine xi_ireturn kc_11_15 mr_11 rfl ?_
                      show xw J ov 97 24 (7, [(0, .int a24)], [.int 1], hh375) _
                      refine xi_ireturn kc_24_7 mr_24 rfl ?_
                      show xw J ov 98 31 (4, [(0, .ref 115), (1, .int a24)], [.int 1], hh375) _
                      refine xi_iff (pc' := 7) kc_31_4 rfl rfl ?_
                      refine xi_aload_n (pc' := 8) (x := 115) kc_31_7 rfl rfl ?_
                      refine xi_getfield (pc' := 11) (v := .ref 125) kc_31_8 rfl rfl rfl eh374.1 rfl ?_
                      refine xi_iload_n (pc' := 12) (x := a24) kc_31_11 rfl rfl ?_
                      have A377 := ((eh374.2.1 125 (by decide)).trans ((eh371.2.1 125 (by decide)).trans A86))
                      refine xi_iaload (pc' := 13) (v := u80) kc_31_12 rfl A377 (by decide) rfl (xi_in (by omega) (by rw [hy86]; omega)) HG87 ?_
                      refine xi_iff (pc' := 16) kc_31_13 rfl (xc_lt_f (X := u80.toInt) (Y := 0) rfl (by decide) (by omega)) ?_
                      refine xi_iconst (pc' := 17) (v := 1) kc_31_16 rfl rfl ?_
                      refine xi_goto (pc' := 21) kc_31_17 rfl ?_
                      refine xi_ireturn kc_31_21 mr_31 rfl ?_
                      show xw J ov 99 30 (10, [(0, .ref 115), (1, .int a24), (2, .int a26), (3, .int a28), (4, .int a30)], [.int 1], hh375) _
                      refine xi_ift (pc' := 19) kc_30_10 rfl rfl ?_
                      refine xi_iload_n (pc' := 20) (x := a26) kc_30_19 rfl rfl ?_
                      refine xi_aload_n (pc' := 21) (x := 115) kc_30_20 rfl rfl ?_
                      refine xi_getfield (pc' := 24) (v := .int u2) kc_30_21 rfl rfl rfl eh374.1 rfl ?_
                      refine xi_cmf (pc' := 27) kc_30_24 rfl (xc_gt_f (X := a26.toInt) (Y := u2.toInt) rfl rfl (by omega)) ?_
                      refine xi_aload_n (pc' := 28) (x := 115) kc_30_27 rfl rfl ?_
                      refine xi_getfield (pc' := 31) (v := .int u19) kc_30_28 rfl rfl rfl eh374.1 rfl ?_
                      refine xi_iff (pc' := 34) kc_30_31 rfl (xc_le_f (X := u19.toInt) (Y := 0) rfl (by decide) (by omega)) ?_
                      refine xi_iload_n (pc' := 35) (x := a26) kc_30_34 rfl rfl ?_
                      refine xi_aload_n (pc' := 36) (x := 115) kc_30_35 rfl rfl ?_
                      refine xi_getfield (pc' := 39) (v := .ref 132) kc_30_36 rfl rfl rfl eh374.1 rfl ?_
                      refine xi_aload_n (pc' := 40) (x := 115) kc_30_39 rfl rfl ?_
                      refine xi_getfield (pc' := 43) (v := .int u19) kc_30_40 rfl rfl rfl eh374.1 rfl ?_
                      refine xi_iconst (pc' := 44) (v := 1) kc_30_43 rfl rfl ?_
                      refine xi_isub (pc' := 45) (v := v315) kc_30_44 rfl ev315 ?_
                      have A378 := ((eh374.2.1 132 (by decide)).trans ((eh371.2.1 132 (by decide)).trans A22))
                      refine xi_iaload (pc' := 46) (v := v316) kc_30_45 rfl A378 (by decide) rfl (xi_in (by rw [zv315]; omega) (by rw [hy22]; rw [zv315]; omega)) ev316 ?_
                      refine xi_cmt (pc' := 56) kc_30_46 rfl (xc_ge_t (X := a26.toInt) (Y := v316.toInt) rfl rfl (by omega)) ?_
                      refine xi_iload_n (pc' := 57) (x := a26) kc_30_56 rfl rfl ?_
                      refine xi_iff (pc' := 60) kc_30_57 rfl (xc_lt_f (X := a26.toInt) (Y := 0) rfl (by decide) (by omega)) ?_
                      refine xi_iload_n (pc' := 61) (x := a28) kc_30_60 rfl rfl ?_
                      refine xi_iff (pc' := 64) kc_30_61 rfl (xc_lt_f (X := a28.toInt) (Y := 0) rfl (by decide) (by omega)) ?_
                      refine xi_iload (pc' := 66) (x := a30) kc_30_64 rfl rfl ?_
                      refine xi_ift (pc' := 76) kc_30_66 rfl (xc_ge_t (X := a30.toInt) (Y := 0) rfl (by decide) (by omega)) ?_
                      refine xi_iload_n (pc' := 77) (x := a28) kc_30_76 rfl rfl ?_
                      refine xi_ldc (pc' := 79) (v := 99999) kc_30_77 rfl rfl ?_
                      refine xi_cmf (pc' := 82) kc_30_79 rfl (xc_gt_f (X := a28.toInt) (Y := 99999) rfl (by decide) (by omega)) ?_
                      refine xi_iload (pc' := 84) (x := a30) kc_30_82 rfl rfl ?_
                      refine xi_sipush (pc' := 87) (v := 999) kc_30_84 rfl rfl ?_
                      refine xi_cmt (pc' := 99) kc_30_87 rfl (xc_gt_t (X := a30.toInt) (Y := 999) rfl (by decide) (by omega)) ?_
                      refine xi_aload_n (pc' := 100) (x := 115) kc_30_99 rfl rfl ?_
                      refine xi_bipush (pc' := 102) (v := (-6)) kc_30_100 rfl rfl ?_
                      refine xi_virtual (mj := 12) (as := [.int (-6)]) (st1 := []) (lv0 := [(0, .ref 115), (1, .int (-6))]) kc_30_102 rfl rfl rfl rfl rfl eh374.1 (Nat.le_of_ble_eq_true rfl) (hJ _ _ _ _ (by decide)) (xm_le ml_12 rfl) rfl ?_
                      refine xi_aload_n (pc' := 1) (x := 115) kc_12_0 rfl rfl ?_
                      refine xi_getfield (pc' := 4) (v := .ref 140) kc_12_1 rfl rfl rfl eh374.1 rfl ?_
                      refine xi_iload_n (pc' := 5) (x := (-6)) kc_12_4 rfl rfl ?_
                      refine xi_ineg (pc' := 6) (v := 6) kc_12_5 rfl rfl ?_
                      refine xi_dup2 (pc' := 7) kc_12_6 rfl ⟨rfl, rfl⟩ ?_
                      obtain ⟨y379, A379, hy379, ry379⟩ := xk_arr K.1 xD_140
                      obtain ⟨v380, ev380, bv380, dv380⟩ := xj_get hy379 ry379 (i := 6) (by decide) (by decide)
                      have A381 := ((eh374.2.1 140 (by decide)).trans ((eh371.2.1 140 (by decide)).trans A379))
                      refine xi_iaload (pc' := 8) (v := v380) kc_12_7 rfl A381 (by decide) rfl (xi_in (by decide) (by rw [hy379]; decide)) ev380 ?_
                      refine xi_iconst (pc' := 9) (v := 1) kc_12_8 rfl rfl ?_
                      obtain ⟨v382, ev382⟩ : ∃ q : Int32, (v380 : Int32) + 1 = q := ⟨_, rfl⟩
                      have rv382 := xc_rng v382
                      refine xi_iadd (pc' := 10) (v := v382) kc_12_9 rfl ev382 ?_
                      obtain ⟨y383, s383, hy383, ry383⟩ := xj_set (v := v382) hy379 ry379 6 (by first | omega | decide) (by first | omega | decide)
                      refine xi_iastore (pc' := 11) (x' := y383) kc_12_10 rfl A381 rfl (xi_in (by decide) (by rw [hy379]; decide)) s383 (fun hh383 eh383 => ?_)
                      have K384 := xk_pa K376 (xk_wa rfl) xD_140 hy383 ry383 eh383
                      refine xi_iload_n (pc' := 12) (x := (-6)) kc_12_11 rfl rfl ?_
                      refine xi_ireturn kc_12_12 mr_12 rfl ?_
                      show xw J ov 99 30 (105, [(0, .ref 115), (1, .int a24), (2, .int a26), (3, .int a28), (4, .int a30)], [.int (-6)], hh383) _
                      refine xi_ireturn kc_30_105 mr_30 rfl ?_
                      show xw J ov 100 195 (646, [(4, .int x4), (3, .ref 167), (2, .ref 115), (1, .ref 0), (0, .ref 1000000)], [.int (-6), .int (-6)], hh383) _
                      refine xi_cmt (pc' := 1501) kc_195_646 rfl rfl ?_
                      obtain ⟨v385, ev385⟩ : ∃ q : Int32, x4 + 6 = q := ⟨_, rfl⟩
                      have zv385 : v385.toInt = (x4.toInt + 6) := by rw [← ev385]; exact (xz_add (X := x4.toInt) (Y := 6) rfl (by decide) (by omega) (by omega)).trans (by omega)
                      refine xi_iinc (pc' := 1504) (x := x4) (v := v385) (lv' := [(4, .int v385), (3, .ref 167), (2, .ref 115), (1, .ref 0), (0, .ref 1000000)]) kc_195_1501 rfl rfl ev385 rfl (xm_lt ml_195 rfl) ?_
                      refine xi_goto (pc' := 23) kc_195_1504 rfl ?_
                      have A386 := ((eh383.2.1 0 (by decide)).trans ((eh374.2.1 0 (by decide)).trans ((eh371.2.1 0 (by decide)).trans A3)))
                      have A387 := ((eh383.2.1 115 (by decide)).trans eh374.1)
                      have A388 := ((eh383.2.1 66 (by decide)).trans ((eh374.2.1 66 (by decide)).trans ((eh371.2.1 66 (by decide)).trans A20)))
                      have A389 := ((eh383.2.1 71 (by decide)).trans ((eh374.2.1 71 (by decide)).trans ((eh371.2.1 71 (by decide)).trans A21)))
                      have A390 := ((eh383.2.1 132 (by decide)).trans A378)
                      exact kk v385 hh383 (by omega) K384 ⟨(xGR_kept I.1 (fun c hc => ((eh383.2.1 c (Ne.symm (xk_nc hc rfl))).trans ((eh374.2.1 c (Ne.symm (xk_nc hc rfl))).trans (eh371.2.1 c (Ne.symm (xk_nc hc rfl)))))) ((eh383.2.1 125 (by decide)).trans ((eh374.2.1 125 (by decide)).trans (eh371.2.1 125 (by decide))))), ((xl_of A386 rfl).trans (xl_of A387 rfl).symm), ((xl_of A388 rfl).trans (xl_of A387 rfl).symm), ((xl_arr A389).trans (xl_arr A390).symm)⟩
                    · refine xi_cmf (pc' := 77) kc_113_74 rfl (xc_gt_f (X := a30.toInt) (Y := 999) rfl (by decide) (by omega)) ?_
                      refine xi_aload_n (pc' := 78) (x := 0) kc_113_77 rfl rfl ?_
                      refine xi_getfield (pc' := 81) (v := .ref 66) kc_113_78 rfl rfl rfl A3 rfl ?_
                      refine xi_getfield (pc' := 84) (v := .int u19) kc_113_81 rfl rfl rfl A20 rfl ?_
                      refine xi_bipush (pc' := 86) (v := 60) kc_113_84 rfl rfl ?_
                      by_cases c391 : u19.toInt < 60
                      · refine xi_cmt (pc' := 96) kc_113_86 rfl (xc_lt_t (X := u19.toInt) (Y := 60) rfl (by decide) (by omega)) ?_
                        refine xi_aload_n (pc' := 97) (x := 0) kc_113_96 rfl rfl ?_
                        refine xi_getfield (pc' := 100) (v := .ref 66) kc_113_97 rfl rfl rfl A3 rfl ?_
                        refine xi_virtual (mj := 91) (as := []) (st1 := []) (lv0 := [(0, .ref 66)]) kc_113_100 rfl rfl rfl rfl rfl A20 (Nat.le_of_ble_eq_true rfl) (hJ _ _ _ _ (by decide)) (xm_le ml_91 rfl) rfl ?_
                        refine xi_aload_n (pc' := 1) (x := 66) kc_91_0 rfl rfl ?_
                        refine xi_lconst (pc' := 2) (v := 0) kc_91_1 rfl rfl ?_
                        refine xi_putfield (pc' := 5) (fs' := [.ref 1, .ref 67, .ref 70, .ref 71, .ref 72, .ref 73, .ref 74, .long 0, .int u19]) kc_91_2 rfl rfl rfl A20 rfl rfl rfl (Nat.le_of_ble_eq_true rfl) rfl (fun hh393 eh392 => ?_)
                        have K394 := xk_pl (k := 7) (v := 0) K (xk_wf rfl) xD_66 A20 rfl eh392 rfl
                        refine xi_return kc_91_5 mr_91 ?_
                        show xw J ov 99 113 (103, [(0, .ref 0), (1, .int a24), (2, .int a26), (3, .int a28), (4, .int a30)], [], hh393) _
                        refine xi_aload_n (pc' := 104) (x := 0) kc_113_103 rfl rfl ?_
                        have A395 := ((eh392.2.1 0 (by decide)).trans A3)
                        refine xi_getfield (pc' := 107) (v := .ref 66) kc_113_104 rfl rfl rfl A395 rfl ?_
                        refine xi_iload_n (pc' := 108) (x := a24) kc_113_107 rfl rfl ?_
                        refine xi_iload_n (pc' := 109) (x := a26) kc_113_108 rfl rfl ?_
                        refine xi_iload_n (pc' := 110) (x := a28) kc_113_109 rfl rfl ?_
                        refine xi_iload (pc' := 112) (x := a30) kc_113_110 rfl rfl ?_
                        obtain ⟨v396, ev396⟩ : ∃ q : Int32, a28 - a30 = q := ⟨_, rfl⟩
                        have zv396 : v396.toInt = (a28.toInt + (-1) * a30.toInt) := by rw [← ev396]; exact (xz_sub (X := a28.toInt) (Y := a30.toInt) rfl rfl (by omega) (by omega)).trans (by omega)
                        refine xi_isub (pc' := 113) (v := v396) kc_113_112 rfl ev396 ?_
                        refine xi_iload_n (pc' := 114) (x := a28) kc_113_113 rfl rfl ?_
                        refine xi_iload (pc' := 116) (x := a30) kc_113_114 rfl rfl ?_
                        obtain ⟨v397, ev397⟩ : ∃ q : Int32, a28 + a30 = q := ⟨_, rfl⟩
                        have zv397 : v397.toInt = (a28.toInt + a30.toInt) := by rw [← ev397]; exact (xz_add (X := a28.toInt) (Y := a30.toInt) rfl rfl (by omega) (by omega)).trans (by omega)
                        refine xi_iadd (pc' := 117) (v := v397) kc_113_116 rfl ev397 ?_
                        refine xi_virtual (mj := 115) (as := [.int a24, .int a26, .int v396, .int v397]) (st1 := []) (lv0 := [(0, .ref 66), (1, .int a24), (2, .int a26), (3, .int v396), (4, .int v397)]) kc_113_117 rfl rfl rfl rfl rfl eh392.1 (Nat.le_of_ble_eq_true rfl) (hJ _ _ _ _ (by decide)) (xm_le ml_115 rfl) rfl ?_
                        refine xi_aload_n (pc' := 1) (x := 66) kc_115_0 rfl rfl ?_
                        refine xi_getfield (pc' := 4) (v := .int u19) kc_115_1 rfl rfl rfl eh392.1 rfl ?_
                        refine xi_bipush (pc' := 6) (v := 60) kc_115_4 rfl rfl ?_
                        refine xi_cmt (pc' := 12) kc_115_6 rfl (xc_lt_t (X := u19.toInt) (Y := 60) rfl (by decide) (by omega)) ?_
                        refine xi_aload_n (pc' := 13) (x := 66) kc_115_12 rfl rfl ?_
                        refine xi_getfield (pc' := 16) (v := .ref 70) kc_115_13 rfl rfl rfl eh392.1 rfl ?_
                        refine xi_aload_n (pc' := 17) (x := 66) kc_115_16 rfl rfl ?_
                        refine xi_getfield (pc' := 20) (v := .int u19) kc_115_17 rfl rfl rfl eh392.1 rfl ?_
                        refine xi_iload_n (pc' := 21) (x := a24) kc_115_20 rfl rfl ?_
                        obtain ⟨y398, A398, hy398, ry398⟩ := xk_arr K.1 xD_70
                        have A399 := ((eh392.2.1 70 (by decide)).trans A398)
                        obtain ⟨y400, s400, hy400, ry400⟩ := xj_set (v := a24) hy398 ry398 u19 (by first | omega | decide) (by first | omega | decide)
                        refine xi_iastore (pc' := 22) (x' := y400) kc_115_21 rfl A399 rfl (xi_in (by omega) (by rw [hy398]; omega)) s400 (fun hh400 eh400 => ?_)
                        have K401 := xk_pa K394 (xk_wa rfl) xD_70 hy400 ry400 eh400
                        refine xi_aload_n (pc' := 23) (x := 66) kc_115_22 rfl rfl ?_
                        have A402 := ((eh400.2.1 66 (by decide)).trans eh392.1)
                        refine xi_getfield (pc' := 26) (v := .ref 71) kc_115_23 rfl rfl rfl A402 rfl ?_
                        refine xi_aload_n (pc' := 27) (x := 66) kc_115_26 rfl rfl ?_
                        refine xi_getfield (pc' := 30) (v := .int u19) kc_115_27 rfl rfl rfl A402 rfl ?_
                        refine xi_iload_n (pc' := 31) (x := a26) kc_115_30 rfl rfl ?_
                        have A403 := ((eh400.2.1 71 (by decide)).trans ((eh392.2.1 71 (by decide)).trans A21))
                        obtain ⟨y404, s404, hy404, ry404⟩ := xj_set (v := a26) hy21 ry21 u19 (by first | omega | decide) (by first | omega | decide)
                        refine xi_iastore (pc' := 32) (x' := y404) kc_115_31 rfl A403 rfl (xi_in (by omega) (by rw [hy21]; omega)) s404 (fun hh404 eh404 => ?_)
                        have K405 := xk_pa K401 (xk_wa rfl) xD_71 hy404 ry404 eh404
                        refine xi_aload_n (pc' := 33) (x := 66) kc_115_32 rfl rfl ?_
                        have A406 := ((eh404.2.1 66 (by decide)).trans A402)
                        refine xi_getfield (pc' := 36) (v := .ref 72) kc_115_33 rfl rfl rfl A406 rfl ?_
                        refine xi_aload_n (pc' := 37) (x := 66) kc_115_36 rfl rfl ?_
                        refine xi_getfield (pc' := 40) (v := .int u19) kc_115_37 rfl rfl rfl A406 rfl ?_
                        refine xi_iload_n (pc' := 41) (x := v396) kc_115_40 rfl rfl ?_
                        obtain ⟨y407, A407, hy407, ry407⟩ := xk_arr K.1 xD_72
                        have A408 := ((eh404.2.1 72 (by decide)).trans ((eh400.2.1 72 (by decide)).trans ((eh392.2.1 72 (by decide)).trans A407)))
                        obtain ⟨y409, s409, hy409, ry409⟩ := xj_set (v := v396) hy407 ry407 u19 (by first | omega | decide) (by first | omega | decide)
                        refine xi_iastore (pc' := 42) (x' := y409) kc_115_41 rfl A408 rfl (xi_in (by omega) (by rw [hy407]; omega)) s409 (fun hh409 eh409 => ?_)
                        have K410 := xk_pa K405 (xk_wa rfl) xD_72 hy409 ry409 eh409
                        refine xi_aload_n (pc' := 43) (x := 66) kc_115_42 rfl rfl ?_
                        have A411 := ((eh409.2.1 66 (by decide)).trans A406)
                        refine xi_getfield (pc' := 46) (v := .ref 73) kc_115_43 rfl rfl rfl A411 rfl ?_
                        refine xi_aload_n (pc' := 47) (x := 66) kc_115_46 rfl rfl ?_
                        refine xi_getfield (pc' := 50) (v := .int u19) kc_115_47 rfl rfl rfl A411 rfl ?_
                        refine xi_iload (pc' := 52) (x := v397) kc_115_50 rfl rfl ?_
                        obtain ⟨y412, A412, hy412, ry412⟩ := xk_arr K.1 xD_73
                        have A413 := ((eh409.2.1 73 (by decide)).trans ((eh404.2.1 73 (by decide)).trans ((eh400.2.1 73 (by decide)).trans ((eh392.2.1 73 (by decide)).trans A412))))
                        obtain ⟨y414, s414, hy414, ry414⟩ := xj_set (v := v397) hy412 ry412 u19 (by first | omega | decide) (by first | omega | decide)
                        refine xi_iastore (pc' := 53) (x' := y414) kc_115_52 rfl A413 rfl (xi_in (by omega) (by rw [hy412]; omega)) s414 (fun hh414 eh414 => ?_)
                        have K415 := xk_pa K410 (xk_wa rfl) xD_73 hy414 ry414 eh414
                        refine xi_aload_n (pc' := 54) (x := 66) kc_115_53 rfl rfl ?_
                        refine xi_dup (pc' := 55) kc_115_54 rfl rfl ?_
                        have A416 := ((eh414.2.1 66 (by decide)).trans A411)
                        refine xi_getfield (pc' := 58) (v := .int u19) kc_115_55 rfl rfl rfl A416 rfl ?_
                        refine xi_iconst (pc' := 59) (v := 1) kc_115_58 rfl rfl ?_
                        obtain ⟨v417, ev417⟩ : ∃ q : Int32, u19 + 1 = q := ⟨_, rfl⟩
                        have zv417 : v417.toInt = (u19.toInt + 1) := by rw [← ev417]; exact (xz_add (X := u19.toInt) (Y := 1) rfl (by decide) (by omega) (by omega)).trans (by omega)
                        refine xi_iadd (pc' := 60) (v := v417) kc_115_59 rfl ev417 ?_
                        refine xi_putfield (pc' := 63) (fs' := [.ref 1, .ref 67, .ref 70, .ref 71, .ref 72, .ref 73, .ref 74, .long 0, .int v417]) kc_115_60 rfl rfl rfl A416 rfl rfl rfl (Nat.le_of_ble_eq_true rfl) rfl (fun hh419 eh418 => ?_)
                        have K420 := xk_pf (k := 8) (v := v417) K415 (xk_wf rfl) xD_66 A416 rfl (by first | omega | decide) (by first | omega | decide) eh418 rfl
                        refine xi_aload_n (pc' := 64) (x := 66) kc_115_63 rfl rfl ?_
                        refine xi_getfield (pc' := 67) (v := .int v417) kc_115_64 rfl rfl rfl eh418.1 rfl ?_
                        refine xi_iconst (pc' := 68) (v := 1) kc_115_67 rfl rfl ?_
                        obtain ⟨v421, ev421⟩ : ∃ q : Int32, v417 - 1 = q := ⟨_, rfl⟩
                        have zv421 : v421.toInt = u19.toInt := by rw [← ev421]; exact (xz_sub (X := (u19.toInt + 1)) (Y := 1) zv417 (by decide) (by omega) (by omega)).trans (by omega)
                        refine xi_isub (pc' := 69) (v := v421) kc_115_68 rfl ev421 ?_
                        refine xi_ireturn kc_115_69 mr_115 rfl ?_
                        show xw J ov 99 113 (120, [(0, .ref 0), (1, .int a24), (2, .int a26), (3, .int a28), (4, .int a30)], [.int v421], hh419) _
                        refine xi_ireturn kc_113_120 mr_113 rfl ?_
                        show xw J ov 100 195 (618, [(4, .int x4), (3, .ref 167), (2, .ref 115), (1, .ref 0), (0, .ref 1000000)], [.int v421], hh419) _
                        refine xi_aload_n (pc' := 619) (x := 115) kc_195_618 rfl rfl ?_
                        refine xi_aload_n (pc' := 620) (x := 1000000) kc_195_619 rfl rfl ?_
                        refine xi_iload (pc' := 622) (x := x4) kc_195_620 rfl rfl ?_
                        refine xi_iconst (pc' := 623) (v := 1) kc_195_622 rfl rfl ?_
                        refine xi_iadd (pc' := 624) (v := v23) kc_195_623 rfl ev23 ?_
                        refine xi_ialoadO (pc' := 625) (v := a24) kc_195_624 rfl (by decide) hov0 (xi_in (by omega) (by omega)) ea24 ?_
                        refine xi_aload_n (pc' := 626) (x := 1000000) kc_195_625 rfl rfl ?_
                        refine xi_iload (pc' := 628) (x := x4) kc_195_626 rfl rfl ?_
                        refine xi_iconst (pc' := 629) (v := 2) kc_195_628 rfl rfl ?_
                        refine xi_iadd (pc' := 630) (v := v25) kc_195_629 rfl ev25 ?_
                        refine xi_ialoadO (pc' := 631) (v := a26) kc_195_630 rfl (by decide) hov0 (xi_in (by omega) (by omega)) ea26 ?_
                        refine xi_aload_n (pc' := 632) (x := 1000000) kc_195_631 rfl rfl ?_
                        refine xi_iload (pc' := 634) (x := x4) kc_195_632 rfl rfl ?_
                        refine xi_iconst (pc' := 635) (v := 3) kc_195_634 rfl rfl ?_
                        refine xi_iadd (pc' := 636) (v := v27) kc_195_635 rfl ev27 ?_
                        refine xi_ialoadO (pc' := 637) (v := a28) kc_195_636 rfl (by decide) hov0 (xi_in (by omega) (by omega)) ea28 ?_
                        refine xi_aload_n (pc' := 638) (x := 1000000) kc_195_637 rfl rfl ?_
                        refine xi_iload (pc' := 640) (x := x4) kc_195_638 rfl rfl ?_
                        refine xi_iconst (pc' := 641) (v := 4) kc_195_640 rfl rfl ?_
                        refine xi_iadd (pc' := 642) (v := v29) kc_195_641 rfl ev29 ?_
                        refine xi_ialoadO (pc' := 643) (v := a30) kc_195_642 rfl (by decide) hov0 (xi_in (by omega) (by omega)) ea30 ?_
                        have A422 := ((eh418.2.1 115 (by decide)).trans ((eh414.2.1 115 (by decide)).trans ((eh409.2.1 115 (by decide)).trans ((eh404.2.1 115 (by decide)).trans ((eh400.2.1 115 (by decide)).trans ((eh392.2.1 115 (by decide)).trans A17))))))
                        refine xi_virtual (mj := 30) (as := [.int a24, .int a26, .int a28, .int a30]) (st1 := [.int v421]) (lv0 := [(0, .ref 115), (1, .int a24), (2, .int a26), (3, .int a28), (4, .int a30)]) kc_195_643 rfl rfl rfl rfl rfl A422 (Nat.le_of_ble_eq_true rfl) (hJ _ _ _ _ (by decide)) (xm_le ml_30 rfl) rfl ?_
                        refine xi_aload_n (pc' := 1) (x := 115) kc_30_0 rfl rfl ?_
                        refine xi_iconst (pc' := 2) (v := 0) kc_30_1 rfl rfl ?_
                        refine xi_putfield (pc' := 5) (fs' := [.int 0, .int u2, .ref 116, .ref 117, .ref 118, .ref 119, .ref 120, .ref 121, .ref 122, .ref 123, .ref 124, .ref 125, .ref 126, .ref 127, .ref 128, .ref 129, .int u6, .ref 130, .int u19, .ref 131, .ref 132, .ref 133, .ref 134, .int u8, .ref 135, .ref 136, .ref 137, .ref 138, .ref 139, .ref 140, .ref 141, .ref 142, .int u9, .int u10, .int u11, .ref 143, .ref 144, .ref 145, .ref 146, .ref 147, .ref 148, .int u12, .ref 149, .ref 150, .ref 151, .int u13, .ref 152, .ref 153, .ref 154, .ref 155, .ref 156, .ref 157, .ref 158, .ref 159, .int u14, .ref 160, .int u15, .ref 161, .ref 162, .ref 163, .ref 164, .int u16, .ref 165, .ref 166]) kc_30_2 rfl rfl rfl A422 rfl rfl rfl (Nat.le_of_ble_eq_true rfl) rfl (fun hh424 eh423 => ?_)
                        have K425 := xk_pf (k := 0) (v := 0) K420 (xk_wf rfl) xD_115 A422 rfl (by first | omega | decide) (by first | omega | decide) eh423 rfl
                        refine xi_aload_n (pc' := 6) (x := 115) kc_30_5 rfl rfl ?_
                        refine xi_iload_n (pc' := 7) (x := a24) kc_30_6 rfl rfl ?_
                        refine xi_virtual (mj := 31) (as := [.int a24]) (st1 := []) (lv0 := [(0, .ref 115), (1, .int a24)]) kc_30_7 rfl rfl rfl rfl rfl eh423.1 (Nat.le_of_ble_eq_true rfl) (hJ _ _ _ _ (by decide)) (xm_le ml_31 rfl) rfl ?_
                        refine xi_iload_n (pc' := 1) (x := a24) kc_31_0 rfl rfl ?_
                        refine xi_static (mj := 24) (as := [.int a24]) (st1 := []) (lv0 := [(0, .int a24)]) kc_31_1 rfl rfl (Nat.le_of_ble_eq_true rfl) rfl rfl (Nat.le_of_ble_eq_true rfl) (hJ _ _ _ _ (by decide)) (xm_le ml_24 rfl) rfl ?_
                        refine xi_iload_n (pc' := 1) (x := a24) kc_24_0 rfl rfl ?_
                        refine xi_iconst (pc' := 2) (v := 0) kc_24_1 rfl rfl ?_
                        refine xi_bipush (pc' := 4) (v := 11) kc_24_2 rfl rfl ?_
                        refine xi_static (mj := 11) (as := [.int a24, .int 0, .int 11]) (st1 := []) (lv0 := [(0, .int a24), (1, .int 0), (2, .int 11)]) kc_24_4 rfl rfl (Nat.le_of_ble_eq_true rfl) rfl rfl (Nat.le_of_ble_eq_true rfl) (hJ _ _ _ _ (by decide)) (xm_le ml_11 rfl) rfl ?_
                        refine xi_iload_n (pc' := 1) (x := a24) kc_11_0 rfl rfl ?_
                        refine xi_iload_n (pc' := 2) (x := 0) kc_11_1 rfl rfl ?_
                        refine xi_cmf (pc' := 5) kc_11_2 rfl (xc_lt_f (X := a24.toInt) (Y := 0) rfl (by decide) (by omega)) ?_
                        refine xi_iload_n (pc' := 6) (x := a24) kc_11_5 rfl rfl ?_
                        refine xi_iload_n (pc' := 7) (x := 11) kc_11_6 rfl rfl ?_
                        refine xi_cmf (pc' := 10) kc_11_7 rfl (xc_gt_f (X := a24.toInt) (Y := 11) rfl (by decide) (by omega)) ?_
                        refine xi_iconst (pc' := 11) (v := 1) kc_11_10 rfl rfl ?_
                        refine xi_goto (pc' := 15) kc_11_11 rfl ?_
                        refine xi_ireturn kc_11_15 mr_11 rfl ?_
                        show xw J ov 97 24 (7, [(0, .int a24)], [.int 1], hh424) _
                        refine xi_ireturn kc_24_7 mr_24 rfl ?_
                        show xw J ov 98 31 (4, [(0, .ref 115), (1, .int a24)], [.int 1], hh424) _
                        refine xi_iff (pc' := 7) kc_31_4 rfl rfl ?_
                        refine xi_aload_n (pc' := 8) (x := 115) kc_31_7 rfl rfl ?_
                        refine xi_getfield (pc' := 11) (v := .ref 125) kc_31_8 rfl rfl rfl eh423.1 rfl ?_
                        refine xi_iload_n (pc' := 12) (x := a24) kc_31_11 rfl rfl ?_
                        have A426 := ((eh423.2.1 125 (by decide)).trans ((eh418.2.1 125 (by decide)).trans ((eh414.2.1 125 (by decide)).trans ((eh409.2.1 125 (by decide)).trans ((eh404.2.1 125 (by decide)).trans ((eh400.2.1 125 (by decide)).trans ((eh392.2.1 125 (by decide)).trans A86)))))))
                        refine xi_iaload (pc' := 13) (v := u80) kc_31_12 rfl A426 (by decide) rfl (xi_in (by omega) (by rw [hy86]; omega)) HG87 ?_
                        refine xi_iff (pc' := 16) kc_31_13 rfl (xc_lt_f (X := u80.toInt) (Y := 0) rfl (by decide) (by omega)) ?_
                        refine xi_iconst (pc' := 17) (v := 1) kc_31_16 rfl rfl ?_
                        refine xi_goto (pc' := 21) kc_31_17 rfl ?_
                        refine xi_ireturn kc_31_21 mr_31 rfl ?_
                        show xw J ov 99 30 (10, [(0, .ref 115), (1, .int a24), (2, .int a26), (3, .int a28), (4, .int a30)], [.int 1], hh424) _
                        refine xi_ift (pc' := 19) kc_30_10 rfl rfl ?_
                        refine xi_iload_n (pc' := 20) (x := a26) kc_30_19 rfl rfl ?_
                        refine xi_aload_n (pc' := 21) (x := 115) kc_30_20 rfl rfl ?_
                        refine xi_getfield (pc' := 24) (v := .int u2) kc_30_21 rfl rfl rfl eh423.1 rfl ?_
                        refine xi_cmf (pc' := 27) kc_30_24 rfl (xc_gt_f (X := a26.toInt) (Y := u2.toInt) rfl rfl (by omega)) ?_
                        refine xi_aload_n (pc' := 28) (x := 115) kc_30_27 rfl rfl ?_
                        refine xi_getfield (pc' := 31) (v := .int u19) kc_30_28 rfl rfl rfl eh423.1 rfl ?_
                        refine xi_iff (pc' := 34) kc_30_31 rfl (xc_le_f (X := u19.toInt) (Y := 0) rfl (by decide) (by omega)) ?_
                        refine xi_iload_n (pc' := 35) (x := a26) kc_30_34 rfl rfl ?_
                        refine xi_aload_n (pc' := 36) (x := 115) kc_30_35 rfl rfl ?_
                        refine xi_getfield (pc' := 39) (v := .ref 132) kc_30_36 rfl rfl rfl eh423.1 rfl ?_
                        refine xi_aload_n (pc' := 40) (x := 115) kc_30_39 rfl rfl ?_
                        refine xi_getfield (pc' := 43) (v := .int u19) kc_30_40 rfl rfl rfl eh423.1 rfl ?_
                        refine xi_iconst (pc' := 44) (v := 1) kc_30_43 rfl rfl ?_
                        refine xi_isub (pc' := 45) (v := v315) kc_30_44 rfl ev315 ?_
                        have A427 := ((eh423.2.1 132 (by decide)).trans ((eh418.2.1 132 (by decide)).trans ((eh414.2.1 132 (by decide)).trans ((eh409.2.1 132 (by decide)).trans ((eh404.2.1 132 (by decide)).trans ((eh400.2.1 132 (by decide)).trans ((eh392.2.1 132 (by decide)).trans A22)))))))
                        refine xi_iaload (pc' := 46) (v := v316) kc_30_45 rfl A427 (by decide) rfl (xi_in (by rw [zv315]; omega) (by rw [hy22]; rw [zv315]; omega)) ev316 ?_
                        refine xi_cmt (pc' := 56) kc_30_46 rfl (xc_ge_t (X := a26.toInt) (Y := v316.toInt) rfl rfl (by omega)) ?_
                        refine xi_iload_n (pc' := 57) (x := a26) kc_30_56 rfl rfl ?_
                        refine xi_iff (pc' := 60) kc_30_57 rfl (xc_lt_f (X := a26.toInt) (Y := 0) rfl (by decide) (by omega)) ?_
                        refine xi_iload_n (pc' := 61) (x := a28) kc_30_60 rfl rfl ?_
                        refine xi_iff (pc' := 64) kc_30_61 rfl (xc_lt_f (X := a28.toInt) (Y := 0) rfl (by decide) (by omega)) ?_
                        refine xi_iload (pc' := 66) (x := a30) kc_30_64 rfl rfl ?_
                        refine xi_ift (pc' := 76) kc_30_66 rfl (xc_ge_t (X := a30.toInt) (Y := 0) rfl (by decide) (by omega)) ?_
                        refine xi_iload_n (pc' := 77) (x := a28) kc_30_76 rfl rfl ?_
                        refine xi_ldc (pc' := 79) (v := 99999) kc_30_77 rfl rfl ?_
                        refine xi_cmf (pc' := 82) kc_30_79 rfl (xc_gt_f (X := a28.toInt) (Y := 99999) rfl (by decide) (by omega)) ?_
                        refine xi_iload (pc' := 84) (x := a30) kc_30_82 rfl rfl ?_
                        refine xi_sipush (pc' := 87) (v := 999) kc_30_84 rfl rfl ?_
                        refine xi_cmf (pc' := 90) kc_30_87 rfl (xc_gt_f (X := a30.toInt) (Y := 999) rfl (by decide) (by omega)) ?_
                        refine xi_aload_n (pc' := 91) (x := 115) kc_30_90 rfl rfl ?_
                        refine xi_getfield (pc' := 94) (v := .int u19) kc_30_91 rfl rfl rfl eh423.1 rfl ?_
                        refine xi_bipush (pc' := 96) (v := 60) kc_30_94 rfl rfl ?_
                        refine xi_cmt (pc' := 106) kc_30_96 rfl (xc_ne_t (X := u19.toInt) (Y := 60) rfl (by decide) (by omega)) ?_
                        refine xi_aload_n (pc' := 107) (x := 115) kc_30_106 rfl rfl ?_
                        refine xi_getfield (pc' := 110) (v := .ref 131) kc_30_107 rfl rfl rfl eh423.1 rfl ?_
                        refine xi_aload_n (pc' := 111) (x := 115) kc_30_110 rfl rfl ?_
                        refine xi_getfield (pc' := 114) (v := .int u19) kc_30_111 rfl rfl rfl eh423.1 rfl ?_
                        refine xi_iload_n (pc' := 115) (x := a24) kc_30_114 rfl rfl ?_
                        obtain ⟨y428, A428, hy428, ry428⟩ := xk_arr K.1 xD_131
                        have A429 := ((eh423.2.1 131 (by decide)).trans ((eh418.2.1 131 (by decide)).trans ((eh414.2.1 131 (by decide)).trans ((eh409.2.1 131 (by decide)).trans ((eh404.2.1 131 (by decide)).trans ((eh400.2.1 131 (by decide)).trans ((eh392.2.1 131 (by decide)).trans A428)))))))
                        obtain ⟨y430, s430, hy430, ry430⟩ := xj_set (v := a24) hy428 ry428 u19 (by first | omega | decide) (by first | omega | decide)
                        refine xi_iastore (pc' := 116) (x' := y430) kc_30_115 rfl A429 rfl (xi_in (by omega) (by rw [hy428]; omega)) s430 (fun hh430 eh430 => ?_)
                        have K431 := xk_pa K425 (xk_wa rfl) xD_131 hy430 ry430 eh430
                        refine xi_aload_n (pc' := 117) (x := 115) kc_30_116 rfl rfl ?_
                        have A432 := ((eh430.2.1 115 (by decide)).trans eh423.1)
                        refine xi_getfield (pc' := 120) (v := .ref 132) kc_30_117 rfl rfl rfl A432 rfl ?_
                        refine xi_aload_n (pc' := 121) (x := 115) kc_30_120 rfl rfl ?_
                        refine xi_getfield (pc' := 124) (v := .int u19) kc_30_121 rfl rfl rfl A432 rfl ?_
                        refine xi_iload_n (pc' := 125) (x := a26) kc_30_124 rfl rfl ?_
                        have A433 := ((eh430.2.1 132 (by decide)).trans A427)
                        obtain ⟨y434, s434, hy434, ry434⟩ := xj_set (v := a26) hy22 ry22 u19 (by first | omega | decide) (by first | omega | decide)
                        refine xi_iastore (pc' := 126) (x' := y434) kc_30_125 rfl A433 rfl (xi_in (by omega) (by rw [hy22]; omega)) s434 (fun hh434 eh434 => ?_)
                        have K435 := xk_pa K431 (xk_wa rfl) xD_132 hy434 ry434 eh434
                        refine xi_aload_n (pc' := 127) (x := 115) kc_30_126 rfl rfl ?_
                        have A436 := ((eh434.2.1 115 (by decide)).trans A432)
                        refine xi_getfield (pc' := 130) (v := .ref 133) kc_30_127 rfl rfl rfl A436 rfl ?_
                        refine xi_aload_n (pc' := 131) (x := 115) kc_30_130 rfl rfl ?_
                        refine xi_getfield (pc' := 134) (v := .int u19) kc_30_131 rfl rfl rfl A436 rfl ?_
                        refine xi_iload_n (pc' := 135) (x := a28) kc_30_134 rfl rfl ?_
                        obtain ⟨y437, A437, hy437, ry437⟩ := xk_arr K.1 xD_133
                        have A438 := ((eh434.2.1 133 (by decide)).trans ((eh430.2.1 133 (by decide)).trans ((eh423.2.1 133 (by decide)).trans ((eh418.2.1 133 (by decide)).trans ((eh414.2.1 133 (by decide)).trans ((eh409.2.1 133 (by decide)).trans ((eh404.2.1 133 (by decide)).trans ((eh400.2.1 133 (by decide)).trans ((eh392.2.1 133 (by decide)).trans A437)))))))))
                        obtain ⟨y439, s439, hy439, ry439⟩ := xj_set (v := a28) hy437 ry437 u19 (by first | omega | decide) (by first | omega | decide)
                        refine xi_iastore (pc' := 136) (x' := y439) kc_30_135 rfl A438 rfl (xi_in (by omega) (by rw [hy437]; omega)) s439 (fun hh439 eh439 => ?_)
                        have K440 := xk_pa K435 (xk_wa rfl) xD_133 hy439 ry439 eh439
                        refine xi_aload_n (pc' := 137) (x := 115) kc_30_136 rfl rfl ?_
                        have A441 := ((eh439.2.1 115 (by decide)).trans A436)
                        refine xi_getfield (pc' := 140) (v := .ref 134) kc_30_137 rfl rfl rfl A441 rfl ?_
                        refine xi_aload_n (pc' := 141) (x := 115) kc_30_140 rfl rfl ?_
                        refine xi_getfield (pc' := 144) (v := .int u19) kc_30_141 rfl rfl rfl A441 rfl ?_
                        refine xi_iload (pc' := 146) (x := a30) kc_30_144 rfl rfl ?_
                        obtain ⟨y442, A442, hy442, ry442⟩ := xk_arr K.1 xD_134
                        have A443 := ((eh439.2.1 134 (by decide)).trans ((eh434.2.1 134 (by decide)).trans ((eh430.2.1 134 (by decide)).trans ((eh423.2.1 134 (by decide)).trans ((eh418.2.1 134 (by decide)).trans ((eh414.2.1 134 (by decide)).trans ((eh409.2.1 134 (by decide)).trans ((eh404.2.1 134 (by decide)).trans ((eh400.2.1 134 (by decide)).trans ((eh392.2.1 134 (by decide)).trans A442))))))))))
                        obtain ⟨y444, s444, hy444, ry444⟩ := xj_set (v := a30) hy442 ry442 u19 (by first | omega | decide) (by first | omega | decide)
                        refine xi_iastore (pc' := 147) (x' := y444) kc_30_146 rfl A443 rfl (xi_in (by omega) (by rw [hy442]; omega)) s444 (fun hh444 eh444 => ?_)
                        have K445 := xk_pa K440 (xk_wa rfl) xD_134 hy444 ry444 eh444
                        refine xi_aload_n (pc' := 148) (x := 115) kc_30_147 rfl rfl ?_
                        refine xi_dup (pc' := 149) kc_30_148 rfl rfl ?_
                        have A446 := ((eh444.2.1 115 (by decide)).trans A441)
                        refine xi_getfield (pc' := 152) (v := .int u19) kc_30_149 rfl rfl rfl A446 rfl ?_
                        refine xi_iconst (pc' := 153) (v := 1) kc_30_152 rfl rfl ?_
                        refine xi_iadd (pc' := 154) (v := v417) kc_30_153 rfl ev417 ?_
                        refine xi_putfield (pc' := 157) (fs' := [.int 0, .int u2, .ref 116, .ref 117, .ref 118, .ref 119, .ref 120, .ref 121, .ref 122, .ref 123, .ref 124, .ref 125, .ref 126, .ref 127, .ref 128, .ref 129, .int u6, .ref 130, .int v417, .ref 131, .ref 132, .ref 133, .ref 134, .int u8, .ref 135, .ref 136, .ref 137, .ref 138, .ref 139, .ref 140, .ref 141, .ref 142, .int u9, .int u10, .int u11, .ref 143, .ref 144, .ref 145, .ref 146, .ref 147, .ref 148, .int u12, .ref 149, .ref 150, .ref 151, .int u13, .ref 152, .ref 153, .ref 154, .ref 155, .ref 156, .ref 157, .ref 158, .ref 159, .int u14, .ref 160, .int u15, .ref 161, .ref 162, .ref 163, .ref 164, .int u16, .ref 165, .ref 166]) kc_30_154 rfl rfl rfl A446 rfl rfl rfl (Nat.le_of_ble_eq_true rfl) rfl (fun hh448 eh447 => ?_)
                        have K449 := xk_pf (k := 18) (v := v417) K445 (xk_wf rfl) xD_115 A446 rfl (by first | omega | decide) (by first | omega | decide) eh447 rfl
                        refine xi_aload_n (pc' := 158) (x := 115) kc_30_157 rfl rfl ?_
                        refine xi_iconst (pc' := 159) (v := 0) kc_30_158 rfl rfl ?_
                        refine xi_putfield (pc' := 162) (fs' := [.int 0, .int u2, .ref 116, .ref 117, .ref 118, .ref 119, .ref 120, .ref 121, .ref 122, .ref 123, .ref 124, .ref 125, .ref 126, .ref 127, .ref 128, .ref 129, .int u6, .ref 130, .int v417, .ref 131, .ref 132, .ref 133, .ref 134, .int u8, .ref 135, .ref 136, .ref 137, .ref 138, .ref 139, .ref 140, .ref 141, .ref 142, .int u9, .int u10, .int u11, .ref 143, .ref 144, .ref 145, .ref 146, .ref 147, .ref 148, .int 0, .ref 149, .ref 150, .ref 151, .int u13, .ref 152, .ref 153, .ref 154, .ref 155, .ref 156, .ref 157, .ref 158, .ref 159, .int u14, .ref 160, .int u15, .ref 161, .ref 162, .ref 163, .ref 164, .int u16, .ref 165, .ref 166]) kc_30_159 rfl rfl rfl eh447.1 rfl rfl rfl (Nat.le_of_ble_eq_true rfl) rfl (fun hh451 eh450 => ?_)
                        have K452 := xk_pf (k := 41) (v := 0) K449 (xk_wf rfl) xD_115 eh447.1 rfl (by first | omega | decide) (by first | omega | decide) eh450 rfl
                        refine xi_aload_n (pc' := 163) (x := 115) kc_30_162 rfl rfl ?_
                        refine xi_getfield (pc' := 166) (v := .int v417) kc_30_163 rfl rfl rfl eh450.1 rfl ?_
                        refine xi_iconst (pc' := 167) (v := 1) kc_30_166 rfl rfl ?_
                        refine xi_isub (pc' := 168) (v := v421) kc_30_167 rfl ev421 ?_
                        refine xi_ireturn kc_30_168 mr_30 rfl ?_
                        show xw J ov 100 195 (646, [(4, .int x4), (3, .ref 167), (2, .ref 115), (1, .ref 0), (0, .ref 1000000)], [.int v421, .int v421], hh451) _
                        refine xi_cmt (pc' := 1501) kc_195_646 rfl (xc_eq_t (X := u19.toInt) (Y := u19.toInt) zv421 zv421 (by omega)) ?_
                        obtain ⟨v453, ev453⟩ : ∃ q : Int32, x4 + 6 = q := ⟨_, rfl⟩
                        have zv453 : v453.toInt = (x4.toInt + 6) := by rw [← ev453]; exact (xz_add (X := x4.toInt) (Y := 6) rfl (by decide) (by omega) (by omega)).trans (by omega)
                        refine xi_iinc (pc' := 1504) (x := x4) (v := v453) (lv' := [(4, .int v453), (3, .ref 167), (2, .ref 115), (1, .ref 0), (0, .ref 1000000)]) kc_195_1501 rfl rfl ev453 rfl (xm_lt ml_195 rfl) ?_
                        refine xi_goto (pc' := 23) kc_195_1504 rfl ?_
                        have A454 := ((eh450.2.1 0 (by decide)).trans ((eh447.2.1 0 (by decide)).trans ((eh444.2.1 0 (by decide)).trans ((eh439.2.1 0 (by decide)).trans ((eh434.2.1 0 (by decide)).trans ((eh430.2.1 0 (by decide)).trans ((eh423.2.1 0 (by decide)).trans ((eh418.2.1 0 (by decide)).trans ((eh414.2.1 0 (by decide)).trans ((eh409.2.1 0 (by decide)).trans ((eh404.2.1 0 (by decide)).trans ((eh400.2.1 0 (by decide)).trans A395))))))))))))
                        have A455 := ((eh450.2.1 66 (by decide)).trans ((eh447.2.1 66 (by decide)).trans ((eh444.2.1 66 (by decide)).trans ((eh439.2.1 66 (by decide)).trans ((eh434.2.1 66 (by decide)).trans ((eh430.2.1 66 (by decide)).trans ((eh423.2.1 66 (by decide)).trans eh418.1)))))))
                        have A456 := ((eh450.2.1 71 (by decide)).trans ((eh447.2.1 71 (by decide)).trans ((eh444.2.1 71 (by decide)).trans ((eh439.2.1 71 (by decide)).trans ((eh434.2.1 71 (by decide)).trans ((eh430.2.1 71 (by decide)).trans ((eh423.2.1 71 (by decide)).trans ((eh418.2.1 71 (by decide)).trans ((eh414.2.1 71 (by decide)).trans ((eh409.2.1 71 (by decide)).trans eh404.1))))))))))
                        have A457 := ((eh450.2.1 132 (by decide)).trans ((eh447.2.1 132 (by decide)).trans ((eh444.2.1 132 (by decide)).trans ((eh439.2.1 132 (by decide)).trans eh434.1))))
                        exact kk v453 hh451 (by omega) K452 ⟨(xGR_kept I.1 (fun c hc => ((eh450.2.1 c (Ne.symm (xk_nc hc rfl))).trans ((eh447.2.1 c (Ne.symm (xk_nc hc rfl))).trans ((eh444.2.1 c (Ne.symm (xk_nc hc rfl))).trans ((eh439.2.1 c (Ne.symm (xk_nc hc rfl))).trans ((eh434.2.1 c (Ne.symm (xk_nc hc rfl))).trans ((eh430.2.1 c (Ne.symm (xk_nc hc rfl))).trans ((eh423.2.1 c (Ne.symm (xk_nc hc rfl))).trans ((eh418.2.1 c (Ne.symm (xk_nc hc rfl))).trans ((eh414.2.1 c (Ne.symm (xk_nc hc rfl))).trans ((eh409.2.1 c (Ne.symm (xk_nc hc rfl))).trans ((eh404.2.1 c (Ne.symm (xk_nc hc rfl))).trans ((eh400.2.1 c (Ne.symm (xk_nc hc rfl))).trans (eh392.2.1 c (Ne.symm (xk_nc hc rfl)))))))))))))))) ((eh450.2.1 125 (by decide)).trans ((eh447.2.1 125 (by decide)).trans ((eh444.2.1 125 (by decide)).trans ((eh439.2.1 125 (by decide)).trans ((eh434.2.1 125 (by decide)).trans ((eh430.2.1 125 (by decide)).trans ((eh423.2.1 125 (by decide)).trans ((eh418.2.1 125 (by decide)).trans ((eh414.2.1 125 (by decide)).trans ((eh409.2.1 125 (by decide)).trans ((eh404.2.1 125 (by decide)).trans ((eh400.2.1 125 (by decide)).trans (eh392.2.1 125 (by decide))))))))))))))), ((xl_of A454 rfl).trans (xl_of eh450.1 rfl).symm), ((xl_of A455 rfl).trans (xl_of eh450.1 rfl).symm), ((xl_arr A456).trans ((congrArg (fun q : List Int32 => some (Sum.inr (0, Sum.inl q))) (s404.symm.trans s434)).trans (xl_arr A457).symm))⟩
                      · refine xi_cmf (pc' := 89) kc_113_86 rfl (xc_lt_f (X := u19.toInt) (Y := 60) rfl (by decide) (by omega)) ?_
                        refine xi_aload_n (pc' := 90) (x := 0) kc_113_89 rfl rfl ?_
                        refine xi_bipush (pc' := 92) (v := (-6)) kc_113_90 rfl rfl ?_
                        refine xi_virtual (mj := 90) (as := [.int (-6)]) (st1 := []) (lv0 := [(0, .ref 0), (1, .int (-6))]) kc_113_92 rfl rfl rfl rfl rfl A3 (Nat.le_of_ble_eq_true rfl) (hJ _ _ _ _ (by decide)) (xm_le ml_90 rfl) rfl ?_
                        refine xi_iload_n (pc' := 1) (x := (-6)) kc_90_0 rfl rfl ?_
                        refine xi_ineg (pc' := 2) (v := 6) kc_90_1 rfl rfl ?_
                        refine xi_istore_n (pc' := 3) (lv' := [(2, .int 6), (0, .ref 0), (1, .int (-6))]) kc_90_2 rfl rfl (xm_lt ml_90 rfl) ?_
                        refine xi_iload_n (pc' := 4) (x := 6) kc_90_3 rfl rfl ?_
                        refine xi_iff (pc' := 7) kc_90_4 rfl rfl ?_
                        refine xi_iload_n (pc' := 8) (x := 6) kc_90_7 rfl rfl ?_
                        refine xi_aload_n (pc' := 9) (x := 0) kc_90_8 rfl rfl ?_
                        refine xi_getfield (pc' := 12) (v := .ref 94) kc_90_9 rfl rfl rfl A3 rfl ?_
                        obtain ⟨y458, A458, hy458, ry458⟩ := xk_arr K.1 xD_94
                        refine xi_arraylength (pc' := 13) (n := 7) (v := 7) kc_90_12 rfl (xl_lenI (by decide) (by decide) A458 hy458) rfl ?_
                        refine xi_cmf (pc' := 16) kc_90_13 rfl rfl ?_
                        refine xi_aload_n (pc' := 17) (x := 0) kc_90_16 rfl rfl ?_
                        refine xi_getfield (pc' := 20) (v := .ref 94) kc_90_17 rfl rfl rfl A3 rfl ?_
                        refine xi_iload_n (pc' := 21) (x := 6) kc_90_20 rfl rfl ?_
                        refine xi_dup2 (pc' := 22) kc_90_21 rfl ⟨rfl, rfl⟩ ?_
                        obtain ⟨v459, ev459, bv459, dv459⟩ := xj_get hy458 ry458 (i := 6) (by decide) (by decide)
                        refine xi_iaload (pc' := 23) (v := v459) kc_90_22 rfl A458 (by decide) rfl (xi_in (by decide) (by rw [hy458]; decide)) ev459 ?_
                        refine xi_iconst (pc' := 24) (v := 1) kc_90_23 rfl rfl ?_
                        obtain ⟨v460, ev460⟩ : ∃ q : Int32, (v459 : Int32) + 1 = q := ⟨_, rfl⟩
                        have rv460 := xc_rng v460
                        refine xi_iadd (pc' := 25) (v := v460) kc_90_24 rfl ev460 ?_
                        obtain ⟨y461, s461, hy461, ry461⟩ := xj_set (v := v460) hy458 ry458 6 (by first | omega | decide) (by first | omega | decide)
                        refine xi_iastore (pc' := 26) (x' := y461) kc_90_25 rfl A458 rfl (xi_in (by decide) (by rw [hy458]; decide)) s461 (fun hh461 eh461 => ?_)
                        have K462 := xk_pa K (xk_wa rfl) xD_94 hy461 ry461 eh461
                        refine xi_iload_n (pc' := 27) (x := (-6)) kc_90_26 rfl rfl ?_
                        refine xi_ireturn kc_90_27 mr_90 rfl ?_
                        show xw J ov 99 113 (95, [(0, .ref 0), (1, .int a24), (2, .int a26), (3, .int a28), (4, .int a30)], [.int (-6)], hh461) _
                        refine xi_ireturn kc_113_95 mr_113 rfl ?_
                        show xw J ov 100 195 (618, [(4, .int x4), (3, .ref 167), (2, .ref 115), (1, .ref 0), (0, .ref 1000000)], [.int (-6)], hh461) _
                        refine xi_aload_n (pc' := 619) (x := 115) kc_195_618 rfl rfl ?_
                        refine xi_aload_n (pc' := 620) (x := 1000000) kc_195_619 rfl rfl ?_
                        refine xi_iload (pc' := 622) (x := x4) kc_195_620 rfl rfl ?_
                        refine xi_iconst (pc' := 623) (v := 1) kc_195_622 rfl rfl ?_
                        refine xi_iadd (pc' := 624) (v := v23) kc_195_623 rfl ev23 ?_
                        refine xi_ialoadO (pc' := 625) (v := a24) kc_195_624 rfl (by decide) hov0 (xi_in (by omega) (by omega)) ea24 ?_
                        refine xi_aload_n (pc' := 626) (x := 1000000) kc_195_625 rfl rfl ?_
                        refine xi_iload (pc' := 628) (x := x4) kc_195_626 rfl rfl ?_
                        refine xi_iconst (pc' := 629) (v := 2) kc_195_628 rfl rfl ?_
                        refine xi_iadd (pc' := 630) (v := v25) kc_195_629 rfl ev25 ?_
                        refine xi_ialoadO (pc' := 631) (v := a26) kc_195_630 rfl (by decide) hov0 (xi_in (by omega) (by omega)) ea26 ?_
                        refine xi_aload_n (pc' := 632) (x := 1000000) kc_195_631 rfl rfl ?_
                        refine xi_iload (pc' := 634) (x := x4) kc_195_632 rfl rfl ?_
                        refine xi_iconst (pc' := 635) (v := 3) kc_195_634 rfl rfl ?_
                        refine xi_iadd (pc' := 636) (v := v27) kc_195_635 rfl ev27 ?_
                        refine xi_ialoadO (pc' := 637) (v := a28) kc_195_636 rfl (by decide) hov0 (xi_in (by omega) (by omega)) ea28 ?_
                        refine xi_aload_n (pc' := 638) (x := 1000000) kc_195_637 rfl rfl ?_
                        refine xi_iload (pc' := 640) (x := x4) kc_195_638 rfl rfl ?_
                        refine xi_iconst (pc' := 641) (v := 4) kc_195_640 rfl rfl ?_
                        refine xi_iadd (pc' := 642) (v := v29) kc_195_641 rfl ev29 ?_
                        refine xi_ialoadO (pc' := 643) (v := a30) kc_195_642 rfl (by decide) hov0 (xi_in (by omega) (by omega)) ea30 ?_
                        have A463 := ((eh461.2.1 115 (by decide)).trans A17)
                        refine xi_virtual (mj := 30) (as := [.int a24, .int a26, .int a28, .int a30]) (st1 := [.int (-6)]) (lv0 := [(0, .ref 115), (1, .int a24), (2, .int a26), (3, .int a28), (4, .int a30)]) kc_195_643 rfl rfl rfl rfl rfl A463 (Nat.le_of_ble_eq_true rfl) (hJ _ _ _ _ (by decide)) (xm_le ml_30 rfl) rfl ?_
                        refine xi_aload_n (pc' := 1) (x := 115) kc_30_0 rfl rfl ?_
                        refine xi_iconst (pc' := 2) (v := 0) kc_30_1 rfl rfl ?_
                        refine xi_putfield (pc' := 5) (fs' := [.int 0, .int u2, .ref 116, .ref 117, .ref 118, .ref 119, .ref 120, .ref 121, .ref 122, .ref 123, .ref 124, .ref 125, .ref 126, .ref 127, .ref 128, .ref 129, .int u6, .ref 130, .int u19, .ref 131, .ref 132, .ref 133, .ref 134, .int u8, .ref 135, .ref 136, .ref 137, .ref 138, .ref 139, .ref 140, .ref 141, .ref 142, .int u9, .int u10, .int u11, .ref 143, .ref 144, .ref 145, .ref 146, .ref 147, .ref 148, .int u12, .ref 149, .ref 150, .ref 151, .int u13, .ref 152, .ref 153, .ref 154, .ref 155, .ref 156, .ref 157, .ref 158, .ref 159, .int u14, .ref 160, .int u15, .ref 161, .ref 162, .ref 163, .ref 164, .int u16, .ref 165, .ref 166]) kc_30_2 rfl rfl rfl A463 rfl rfl rfl (Nat.le_of_ble_eq_true rfl) rfl (fun hh465 eh464 => ?_)
                        have K466 := xk_pf (k := 0) (v := 0) K462 (xk_wf rfl) xD_115 A463 rfl (by first | omega | decide) (by first | omega | decide) eh464 rfl
                        refine xi_aload_n (pc' := 6) (x := 115) kc_30_5 rfl rfl ?_
                        refine xi_iload_n (pc' := 7) (x := a24) kc_30_6 rfl rfl ?_
                        refine xi_virtual (mj := 31) (as := [.int a24]) (st1 := []) (lv0 := [(0, .ref 115), (1, .int a24)]) kc_30_7 rfl rfl rfl rfl rfl eh464.1 (Nat.le_of_ble_eq_true rfl) (hJ _ _ _ _ (by decide)) (xm_le ml_31 rfl) rfl ?_
                        refine xi_iload_n (pc' := 1) (x := a24) kc_31_0 rfl rfl ?_
                        refine xi_static (mj := 24) (as := [.int a24]) (st1 := []) (lv0 := [(0, .int a24)]) kc_31_1 rfl rfl (Nat.le_of_ble_eq_true rfl) rfl rfl (Nat.le_of_ble_eq_true rfl) (hJ _ _ _ _ (by decide)) (xm_le ml_24 rfl) rfl ?_
                        refine xi_iload_n (pc' := 1) (x := a24) kc_24_0 rfl rfl ?_
                        refine xi_iconst (pc' := 2) (v := 0) kc_24_1 rfl rfl ?_
                        refine xi_bipush (pc' := 4) (v := 11) kc_24_2 rfl rfl ?_
                        refine xi_static (mj := 11) (as := [.int a24, .int 0, .int 11]) (st1 := []) (lv0 := [(0, .int a24), (1, .int 0), (2, .int 11)]) kc_24_4 rfl rfl (Nat.le_of_ble_eq_true rfl) rfl rfl (Nat.le_of_ble_eq_true rfl) (hJ _ _ _ _ (by decide)) (xm_le ml_11 rfl) rfl ?_
                        refine xi_iload_n (pc' := 1) (x := a24) kc_11_0 rfl rfl ?_
                        refine xi_iload_n (pc' := 2) (x := 0) kc_11_1 rfl rfl ?_
                        refine xi_cmf (pc' := 5) kc_11_2 rfl (xc_lt_f (X := a24.toInt) (Y := 0) rfl (by decide) (by omega)) ?_
                        refine xi_iload_n (pc' := 6) (x := a24) kc_11_5 rfl rfl ?_
                        refine xi_iload_n (pc' := 7) (x := 11) kc_11_6 rfl rfl ?_
                        refine xi_cmf (pc' := 10) kc_11_7 rfl (xc_gt_f (X := a24.toInt) (Y := 11) rfl (by decide) (by omega)) ?_
                        refine xi_iconst (pc' := 11) (v := 1) kc_11_10 rfl rfl ?_
                        refine xi_goto (pc' := 15) kc_11_11 rfl ?_
                        refine xi_ireturn kc_11_15 mr_11 rfl ?_
                        show xw J ov 97 24 (7, [(0, .int a24)], [.int 1], hh465) _
                        refine xi_ireturn kc_24_7 mr_24 rfl ?_
                        show xw J ov 98 31 (4, [(0, .ref 115), (1, .int a24)], [.int 1], hh465) _
                        refine xi_iff (pc' := 7) kc_31_4 rfl rfl ?_
                        refine xi_aload_n (pc' := 8) (x := 115) kc_31_7 rfl rfl ?_
                        refine xi_getfield (pc' := 11) (v := .ref 125) kc_31_8 rfl rfl rfl eh464.1 rfl ?_
                        refine xi_iload_n (pc' := 12) (x := a24) kc_31_11 rfl rfl ?_
                        have A467 := ((eh464.2.1 125 (by decide)).trans ((eh461.2.1 125 (by decide)).trans A86))
                        refine xi_iaload (pc' := 13) (v := u80) kc_31_12 rfl A467 (by decide) rfl (xi_in (by omega) (by rw [hy86]; omega)) HG87 ?_
                        refine xi_iff (pc' := 16) kc_31_13 rfl (xc_lt_f (X := u80.toInt) (Y := 0) rfl (by decide) (by omega)) ?_
                        refine xi_iconst (pc' := 17) (v := 1) kc_31_16 rfl rfl ?_
                        refine xi_goto (pc' := 21) kc_31_17 rfl ?_
                        refine xi_ireturn kc_31_21 mr_31 rfl ?_
                        show xw J ov 99 30 (10, [(0, .ref 115), (1, .int a24), (2, .int a26), (3, .int a28), (4, .int a30)], [.int 1], hh465) _
                        refine xi_ift (pc' := 19) kc_30_10 rfl rfl ?_
                        refine xi_iload_n (pc' := 20) (x := a26) kc_30_19 rfl rfl ?_
                        refine xi_aload_n (pc' := 21) (x := 115) kc_30_20 rfl rfl ?_
                        refine xi_getfield (pc' := 24) (v := .int u2) kc_30_21 rfl rfl rfl eh464.1 rfl ?_
                        refine xi_cmf (pc' := 27) kc_30_24 rfl (xc_gt_f (X := a26.toInt) (Y := u2.toInt) rfl rfl (by omega)) ?_
                        refine xi_aload_n (pc' := 28) (x := 115) kc_30_27 rfl rfl ?_
                        refine xi_getfield (pc' := 31) (v := .int u19) kc_30_28 rfl rfl rfl eh464.1 rfl ?_
                        refine xi_iff (pc' := 34) kc_30_31 rfl (xc_le_f (X := u19.toInt) (Y := 0) rfl (by decide) (by omega)) ?_
                        refine xi_iload_n (pc' := 35) (x := a26) kc_30_34 rfl rfl ?_
                        refine xi_aload_n (pc' := 36) (x := 115) kc_30_35 rfl rfl ?_
                        refine xi_getfield (pc' := 39) (v := .ref 132) kc_30_36 rfl rfl rfl eh464.1 rfl ?_
                        refine xi_aload_n (pc' := 40) (x := 115) kc_30_39 rfl rfl ?_
                        refine xi_getfield (pc' := 43) (v := .int u19) kc_30_40 rfl rfl rfl eh464.1 rfl ?_
                        refine xi_iconst (pc' := 44) (v := 1) kc_30_43 rfl rfl ?_
                        refine xi_isub (pc' := 45) (v := v315) kc_30_44 rfl ev315 ?_
                        have A468 := ((eh464.2.1 132 (by decide)).trans ((eh461.2.1 132 (by decide)).trans A22))
                        refine xi_iaload (pc' := 46) (v := v316) kc_30_45 rfl A468 (by decide) rfl (xi_in (by rw [zv315]; omega) (by rw [hy22]; rw [zv315]; omega)) ev316 ?_
                        refine xi_cmt (pc' := 56) kc_30_46 rfl (xc_ge_t (X := a26.toInt) (Y := v316.toInt) rfl rfl (by omega)) ?_
                        refine xi_iload_n (pc' := 57) (x := a26) kc_30_56 rfl rfl ?_
                        refine xi_iff (pc' := 60) kc_30_57 rfl (xc_lt_f (X := a26.toInt) (Y := 0) rfl (by decide) (by omega)) ?_
                        refine xi_iload_n (pc' := 61) (x := a28) kc_30_60 rfl rfl ?_
                        refine xi_iff (pc' := 64) kc_30_61 rfl (xc_lt_f (X := a28.toInt) (Y := 0) rfl (by decide) (by omega)) ?_
                        refine xi_iload (pc' := 66) (x := a30) kc_30_64 rfl rfl ?_
                        refine xi_ift (pc' := 76) kc_30_66 rfl (xc_ge_t (X := a30.toInt) (Y := 0) rfl (by decide) (by omega)) ?_
                        refine xi_iload_n (pc' := 77) (x := a28) kc_30_76 rfl rfl ?_
                        refine xi_ldc (pc' := 79) (v := 99999) kc_30_77 rfl rfl ?_
                        refine xi_cmf (pc' := 82) kc_30_79 rfl (xc_gt_f (X := a28.toInt) (Y := 99999) rfl (by decide) (by omega)) ?_
                        refine xi_iload (pc' := 84) (x := a30) kc_30_82 rfl rfl ?_
                        refine xi_sipush (pc' := 87) (v := 999) kc_30_84 rfl rfl ?_
                        refine xi_cmf (pc' := 90) kc_30_87 rfl (xc_gt_f (X := a30.toInt) (Y := 999) rfl (by decide) (by omega)) ?_
                        refine xi_aload_n (pc' := 91) (x := 115) kc_30_90 rfl rfl ?_
                        refine xi_getfield (pc' := 94) (v := .int u19) kc_30_91 rfl rfl rfl eh464.1 rfl ?_
                        refine xi_bipush (pc' := 96) (v := 60) kc_30_94 rfl rfl ?_
                        refine xi_cmf (pc' := 99) kc_30_96 rfl (xc_ne_f (X := u19.toInt) (Y := 60) rfl (by decide) (by omega)) ?_
                        refine xi_aload_n (pc' := 100) (x := 115) kc_30_99 rfl rfl ?_
                        refine xi_bipush (pc' := 102) (v := (-6)) kc_30_100 rfl rfl ?_
                        refine xi_virtual (mj := 12) (as := [.int (-6)]) (st1 := []) (lv0 := [(0, .ref 115), (1, .int (-6))]) kc_30_102 rfl rfl rfl rfl rfl eh464.1 (Nat.le_of_ble_eq_true rfl) (hJ _ _ _ _ (by decide)) (xm_le ml_12 rfl) rfl ?_
                        refine xi_aload_n (pc' := 1) (x := 115) kc_12_0 rfl rfl ?_
                        refine xi_getfield (pc' := 4) (v := .ref 140) kc_12_1 rfl rfl rfl eh464.1 rfl ?_
                        refine xi_iload_n (pc' := 5) (x := (-6)) kc_12_4 rfl rfl ?_
                        refine xi_ineg (pc' := 6) (v := 6) kc_12_5 rfl rfl ?_
                        refine xi_dup2 (pc' := 7) kc_12_6 rfl ⟨rfl, rfl⟩ ?_
                        obtain ⟨y469, A469, hy469, ry469⟩ := xk_arr K.1 xD_140
                        obtain ⟨v470, ev470, bv470, dv470⟩ := xj_get hy469 ry469 (i := 6) (by decide) (by decide)
                        have A471 := ((eh464.2.1 140 (by decide)).trans ((eh461.2.1 140 (by decide)).trans A469))
                        refine xi_iaload (pc' := 8) (v := v470) kc_12_7 rfl A471 (by decide) rfl (xi_in (by decide) (by rw [hy469]; decide)) ev470 ?_
                        refine xi_iconst (pc' := 9) (v := 1) kc_12_8 rfl rfl ?_
                        obtain ⟨v472, ev472⟩ : ∃ q : Int32, (v470 : Int32) + 1 = q := ⟨_, rfl⟩
                        have rv472 := xc_rng v472
                        refine xi_iadd (pc' := 10) (v := v472) kc_12_9 rfl ev472 ?_
                        obtain ⟨y473, s473, hy473, ry473⟩ := xj_set (v := v472) hy469 ry469 6 (by first | omega | decide) (by first | omega | decide)
                        refine xi_iastore (pc' := 11) (x' := y473) kc_12_10 rfl A471 rfl (xi_in (by decide) (by rw [hy469]; decide)) s473 (fun hh473 eh473 => ?_)
                        have K474 := xk_pa K466 (xk_wa rfl) xD_140 hy473 ry473 eh473
                        refine xi_iload_n (pc' := 12) (x := (-6)) kc_12_11 rfl rfl ?_
                        refine xi_ireturn kc_12_12 mr_12 rfl ?_
                        show xw J ov 99 30 (105, [(0, .ref 115), (1, .int a24), (2, .int a26), (3, .int a28), (4, .int a30)], [.int (-6)], hh473) _
                        refine xi_ireturn kc_30_105 mr_30 rfl ?_
                        show xw J ov 100 195 (646, [(4, .int x4), (3, .ref 167), (2, .ref 115), (1, .ref 0), (0, .ref 1000000)], [.int (-6), .int (-6)], hh473) _
                        refine xi_cmt (pc' := 1501) kc_195_646 rfl rfl ?_
                        obtain ⟨v475, ev475⟩ : ∃ q : Int32, x4 + 6 = q := ⟨_, rfl⟩
                        have zv475 : v475.toInt = (x4.toInt + 6) := by rw [← ev475]; exact (xz_add (X := x4.toInt) (Y := 6) rfl (by decide) (by omega) (by omega)).trans (by omega)
                        refine xi_iinc (pc' := 1504) (x := x4) (v := v475) (lv' := [(4, .int v475), (3, .ref 167), (2, .ref 115), (1, .ref 0), (0, .ref 1000000)]) kc_195_1501 rfl rfl ev475 rfl (xm_lt ml_195 rfl) ?_
                        refine xi_goto (pc' := 23) kc_195_1504 rfl ?_
                        have A476 := ((eh473.2.1 0 (by decide)).trans ((eh464.2.1 0 (by decide)).trans ((eh461.2.1 0 (by decide)).trans A3)))
                        have A477 := ((eh473.2.1 115 (by decide)).trans eh464.1)
                        have A478 := ((eh473.2.1 66 (by decide)).trans ((eh464.2.1 66 (by decide)).trans ((eh461.2.1 66 (by decide)).trans A20)))
                        have A479 := ((eh473.2.1 71 (by decide)).trans ((eh464.2.1 71 (by decide)).trans ((eh461.2.1 71 (by decide)).trans A21)))
                        have A480 := ((eh473.2.1 132 (by decide)).trans A468)
                        exact kk v475 hh473 (by omega) K474 ⟨(xGR_kept I.1 (fun c hc => ((eh473.2.1 c (Ne.symm (xk_nc hc rfl))).trans ((eh464.2.1 c (Ne.symm (xk_nc hc rfl))).trans (eh461.2.1 c (Ne.symm (xk_nc hc rfl)))))) ((eh473.2.1 125 (by decide)).trans ((eh464.2.1 125 (by decide)).trans (eh461.2.1 125 (by decide))))), ((xl_of A476 rfl).trans (xl_of A477 rfl).symm), ((xl_of A478 rfl).trans (xl_of A477 rfl).symm), ((xl_arr A479).trans (xl_arr A480).symm)⟩
                · refine xi_iff (pc' := 56) kc_113_53 rfl (xc_ge_f (X := a30.toInt) (Y := 0) rfl (by decide) (by omega)) ?_
                  refine xi_aload_n (pc' := 57) (x := 0) kc_113_56 rfl rfl ?_
                  refine xi_bipush (pc' := 59) (v := (-4)) kc_113_57 rfl rfl ?_
                  refine xi_virtual (mj := 90) (as := [.int (-4)]) (st1 := []) (lv0 := [(0, .ref 0), (1, .int (-4))]) kc_113_59 rfl rfl rfl rfl rfl A3 (Nat.le_of_ble_eq_true rfl) (hJ _ _ _ _ (by decide)) (xm_le ml_90 rfl) rfl ?_
                  refine xi_iload_n (pc' := 1) (x := (-4)) kc_90_0 rfl rfl ?_
                  refine xi_ineg (pc' := 2) (v := 4) kc_90_1 rfl rfl ?_
                  refine xi_istore_n (pc' := 3) (lv' := [(2, .int 4), (0, .ref 0), (1, .int (-4))]) kc_90_2 rfl rfl (xm_lt ml_90 rfl) ?_
                  refine xi_iload_n (pc' := 4) (x := 4) kc_90_3 rfl rfl ?_
                  refine xi_iff (pc' := 7) kc_90_4 rfl rfl ?_
                  refine xi_iload_n (pc' := 8) (x := 4) kc_90_7 rfl rfl ?_
                  refine xi_aload_n (pc' := 9) (x := 0) kc_90_8 rfl rfl ?_
                  refine xi_getfield (pc' := 12) (v := .ref 94) kc_90_9 rfl rfl rfl A3 rfl ?_
                  obtain ⟨y481, A481, hy481, ry481⟩ := xk_arr K.1 xD_94
                  refine xi_arraylength (pc' := 13) (n := 7) (v := 7) kc_90_12 rfl (xl_lenI (by decide) (by decide) A481 hy481) rfl ?_
                  refine xi_cmf (pc' := 16) kc_90_13 rfl rfl ?_
                  refine xi_aload_n (pc' := 17) (x := 0) kc_90_16 rfl rfl ?_
                  refine xi_getfield (pc' := 20) (v := .ref 94) kc_90_17 rfl rfl rfl A3 rfl ?_
                  refine xi_iload_n (pc' := 21) (x := 4) kc_90_20 rfl rfl ?_
                  refine xi_dup2 (pc' := 22) kc_90_21 rfl ⟨rfl, rfl⟩ ?_
                  obtain ⟨v482, ev482, bv482, dv482⟩ := xj_get hy481 ry481 (i := 4) (by decide) (by decide)
                  refine xi_iaload (pc' := 23) (v := v482) kc_90_22 rfl A481 (by decide) rfl (xi_in (by decide) (by rw [hy481]; decide)) ev482 ?_
                  refine xi_iconst (pc' := 24) (v := 1) kc_90_23 rfl rfl ?_
                  obtain ⟨v483, ev483⟩ : ∃ q : Int32, (v482 : Int32) + 1 = q := ⟨_, rfl⟩
                  have rv483 := xc_rng v483
                  refine xi_iadd (pc' := 25) (v := v483) kc_90_24 rfl ev483 ?_
                  obtain ⟨y484, s484, hy484, ry484⟩ := xj_set (v := v483) hy481 ry481 4 (by first | omega | decide) (by first | omega | decide)
                  refine xi_iastore (pc' := 26) (x' := y484) kc_90_25 rfl A481 rfl (xi_in (by decide) (by rw [hy481]; decide)) s484 (fun hh484 eh484 => ?_)
                  have K485 := xk_pa K (xk_wa rfl) xD_94 hy484 ry484 eh484
                  refine xi_iload_n (pc' := 27) (x := (-4)) kc_90_26 rfl rfl ?_
                  refine xi_ireturn kc_90_27 mr_90 rfl ?_
                  show xw J ov 99 113 (62, [(0, .ref 0), (1, .int a24), (2, .int a26), (3, .int a28), (4, .int a30)], [.int (-4)], hh484) _
                  refine xi_ireturn kc_113_62 mr_113 rfl ?_
                  show xw J ov 100 195 (618, [(4, .int x4), (3, .ref 167), (2, .ref 115), (1, .ref 0), (0, .ref 1000000)], [.int (-4)], hh484) _
                  refine xi_aload_n (pc' := 619) (x := 115) kc_195_618 rfl rfl ?_
                  refine xi_aload_n (pc' := 620) (x := 1000000) kc_195_619 rfl rfl ?_
                  refine xi_iload (pc' := 622) (x := x4) kc_195_620 rfl rfl ?_
                  refine xi_iconst (pc' := 623) (v := 1) kc_195_622 rfl rfl ?_
                  refine xi_iadd (pc' := 624) (v := v23) kc_195_623 rfl ev23 ?_
                  refine xi_ialoadO (pc' := 625) (v := a24) kc_195_624 rfl (by decide) hov0 (xi_in (by omega) (by omega)) ea24 ?_
                  refine xi_aload_n (pc' := 626) (x := 1000000) kc_195_625 rfl rfl ?_
                  refine xi_iload (pc' := 628) (x := x4) kc_195_626 rfl rfl ?_
                  refine xi_iconst (pc' := 629) (v := 2) kc_195_628 rfl rfl ?_
                  refine xi_iadd (pc' := 630) (v := v25) kc_195_629 rfl ev25 ?_
                  refine xi_ialoadO (pc' := 631) (v := a26) kc_195_630 rfl (by decide) hov0 (xi_in (by omega) (by omega)) ea26 ?_
                  refine xi_aload_n (pc' := 632) (x := 1000000) kc_195_631 rfl rfl ?_
                  refine xi_iload (pc' := 634) (x := x4) kc_195_632 rfl rfl ?_
                  refine xi_iconst (pc' := 635) (v := 3) kc_195_634 rfl rfl ?_
                  refine xi_iadd (pc' := 636) (v := v27) kc_195_635 rfl ev27 ?_
                  refine xi_ialoadO (pc' := 637) (v := a28) kc_195_636 rfl (by decide) hov0 (xi_in (by omega) (by omega)) ea28 ?_
                  refine xi_aload_n (pc' := 638) (x := 1000000) kc_195_637 rfl rfl ?_
                  refine xi_iload (pc' := 640) (x := x4) kc_195_638 rfl rfl ?_
                  refine xi_iconst (pc' := 641) (v := 4) kc_195_640 rfl rfl ?_
                  refine xi_iadd (pc' := 642) (v := v29) kc_195_641 rfl ev29 ?_
                  refine xi_ialoadO (pc' := 643) (v := a30) kc_195_642 rfl (by decide) hov0 (xi_in (by omega) (by omega)) ea30 ?_
                  have A486 := ((eh484.2.1 115 (by decide)).trans A17)
                  refine xi_virtual (mj := 30) (as := [.int a24, .int a26, .int a28, .int a30]) (st1 := [.int (-4)]) (lv0 := [(0, .ref 115), (1, .int a24), (2, .int a26), (3, .int a28), (4, .int a30)]) kc_195_643 rfl rfl rfl rfl rfl A486 (Nat.le_of_ble_eq_true rfl) (hJ _ _ _ _ (by decide)) (xm_le ml_30 rfl) rfl ?_
                  refine xi_aload_n (pc' := 1) (x := 115) kc_30_0 rfl rfl ?_
                  refine xi_iconst (pc' := 2) (v := 0) kc_30_1 rfl rfl ?_
                  refine xi_putfield (pc' := 5) (fs' := [.int 0, .int u2, .ref 116, .ref 117, .ref 118, .ref 119, .ref 120, .ref 121, .ref 122, .ref 123, .ref 124, .ref 125, .ref 126, .ref 127, .ref 128, .ref 129, .int u6, .ref 130, .int u19, .ref 131, .ref 132, .ref 133, .ref 134, .int u8, .ref 135, .ref 136, .ref 137, .ref 138, .ref 139, .ref 140, .ref 141, .ref 142, .int u9, .int u10, .int u11, .ref 143, .ref 144, .ref 145, .ref 146, .ref 147, .ref 148, .int u12, .ref 149, .ref 150, .ref 151, .int u13, .ref 152, .ref 153, .ref 154, .ref 155, .ref 156, .ref 157, .ref 158, .ref 159, .int u14, .ref 160, .int u15, .ref 161, .ref 162, .ref 163, .ref 164, .int u16, .ref 165, .ref 166]) kc_30_2 rfl rfl rfl A486 rfl rfl rfl (Nat.le_of_ble_eq_true rfl) rfl (fun hh488 eh487 => ?_)
                  have K489 := xk_pf (k := 0) (v := 0) K485 (xk_wf rfl) xD_115 A486 rfl (by first | omega | decide) (by first | omega | decide) eh487 rfl
                  refine xi_aload_n (pc' := 6) (x := 115) kc_30_5 rfl rfl ?_
                  refine xi_iload_n (pc' := 7) (x := a24) kc_30_6 rfl rfl ?_
                  refine xi_virtual (mj := 31) (as := [.int a24]) (st1 := []) (lv0 := [(0, .ref 115), (1, .int a24)]) kc_30_7 rfl rfl rfl rfl rfl eh487.1 (Nat.le_of_ble_eq_true rfl) (hJ _ _ _ _ (by decide)) (xm_le ml_31 rfl) rfl ?_
                  refine xi_iload_n (pc' := 1) (x := a24) kc_31_0 rfl rfl ?_
                  refine xi_static (mj := 24) (as := [.int a24]) (st1 := []) (lv0 := [(0, .int a24)]) kc_31_1 rfl rfl (Nat.le_of_ble_eq_true rfl) rfl rfl (Nat.le_of_ble_eq_true rfl) (hJ _ _ _ _ (by decide)) (xm_le ml_24 rfl) rfl ?_
                  refine xi_iload_n (pc' := 1) (x := a24) kc_24_0 rfl rfl ?_
                  refine xi_iconst (pc' := 2) (v := 0) kc_24_1 rfl rfl ?_
                  refine xi_bipush (pc' := 4) (v := 11) kc_24_2 rfl rfl ?_
                  refine xi_static (mj := 11) (as := [.int a24, .int 0, .int 11]) (st1 := []) (lv0 := [(0, .int a24), (1, .int 0), (2, .int 11)]) kc_24_4 rfl rfl (Nat.le_of_ble_eq_true rfl) rfl rfl (Nat.le_of_ble_eq_true rfl) (hJ _ _ _ _ (by decide)) (xm_le ml_11 rfl) rfl ?_
                  refine xi_iload_n (pc' := 1) (x := a24) kc_11_0 rfl rfl ?_
                  refine xi_iload_n (pc' := 2) (x := 0) kc_11_1 rfl rfl ?_
                  refine xi_cmf (pc' := 5) kc_11_2 rfl (xc_lt_f (X := a24.toInt) (Y := 0) rfl (by decide) (by omega)) ?_
                  refine xi_iload_n (pc' := 6) (x := a24) kc_11_5 rfl rfl ?_
                  refine xi_iload_n (pc' := 7) (x := 11) kc_11_6 rfl rfl ?_
                  refine xi_cmf (pc' := 10) kc_11_7 rfl (xc_gt_f (X := a24.toInt) (Y := 11) rfl (by decide) (by omega)) ?_
                  refine xi_iconst (pc' := 11) (v := 1) kc_11_10 rfl rfl ?_
                  refine xi_goto (pc' := 15) kc_11_11 rfl ?_
                  refine xi_ireturn kc_11_15 mr_11 rfl ?_
                  show xw J ov 97 24 (7, [(0, .int a24)], [.int 1], hh488) _
                  refine xi_ireturn kc_24_7 mr_24 rfl ?_
                  show xw J ov 98 31 (4, [(0, .ref 115), (1, .int a24)], [.int 1], hh488) _
                  refine xi_iff (pc' := 7) kc_31_4 rfl rfl ?_
                  refine xi_aload_n (pc' := 8) (x := 115) kc_31_7 rfl rfl ?_
                  refine xi_getfield (pc' := 11) (v := .ref 125) kc_31_8 rfl rfl rfl eh487.1 rfl ?_
                  refine xi_iload_n (pc' := 12) (x := a24) kc_31_11 rfl rfl ?_
                  have A490 := ((eh487.2.1 125 (by decide)).trans ((eh484.2.1 125 (by decide)).trans A86))
                  refine xi_iaload (pc' := 13) (v := u80) kc_31_12 rfl A490 (by decide) rfl (xi_in (by omega) (by rw [hy86]; omega)) HG87 ?_
                  refine xi_iff (pc' := 16) kc_31_13 rfl (xc_lt_f (X := u80.toInt) (Y := 0) rfl (by decide) (by omega)) ?_
                  refine xi_iconst (pc' := 17) (v := 1) kc_31_16 rfl rfl ?_
                  refine xi_goto (pc' := 21) kc_31_17 rfl ?_
                  refine xi_ireturn kc_31_21 mr_31 rfl ?_
                  show xw J ov 99 30 (10, [(0, .ref 115), (1, .int a24), (2, .int a26), (3, .int a28), (4, .int a30)], [.int 1], hh488) _
                  refine xi_ift (pc' := 19) kc_30_10 rfl rfl ?_
                  refine xi_iload_n (pc' := 20) (x := a26) kc_30_19 rfl rfl ?_
                  refine xi_aload_n (pc' := 21) (x := 115) kc_30_20 rfl rfl ?_
                  refine xi_getfield (pc' := 24) (v := .int u2) kc_30_21 rfl rfl rfl eh487.1 rfl ?_
                  refine xi_cmf (pc' := 27) kc_30_24 rfl (xc_gt_f (X := a26.toInt) (Y := u2.toInt) rfl rfl (by omega)) ?_
                  refine xi_aload_n (pc' := 28) (x := 115) kc_30_27 rfl rfl ?_
                  refine xi_getfield (pc' := 31) (v := .int u19) kc_30_28 rfl rfl rfl eh487.1 rfl ?_
                  refine xi_iff (pc' := 34) kc_30_31 rfl (xc_le_f (X := u19.toInt) (Y := 0) rfl (by decide) (by omega)) ?_
                  refine xi_iload_n (pc' := 35) (x := a26) kc_30_34 rfl rfl ?_
                  refine xi_aload_n (pc' := 36) (x := 115) kc_30_35 rfl rfl ?_
                  refine xi_getfield (pc' := 39) (v := .ref 132) kc_30_36 rfl rfl rfl eh487.1 rfl ?_
                  refine xi_aload_n (pc' := 40) (x := 115) kc_30_39 rfl rfl ?_
                  refine xi_getfield (pc' := 43) (v := .int u19) kc_30_40 rfl rfl rfl eh487.1 rfl ?_
                  refine xi_iconst (pc' := 44) (v := 1) kc_30_43 rfl rfl ?_
                  refine xi_isub (pc' := 45) (v := v315) kc_30_44 rfl ev315 ?_
                  have A491 := ((eh487.2.1 132 (by decide)).trans ((eh484.2.1 132 (by decide)).trans A22))
                  refine xi_iaload (pc' := 46) (v := v316) kc_30_45 rfl A491 (by decide) rfl (xi_in (by rw [zv315]; omega) (by rw [hy22]; rw [zv315]; omega)) ev316 ?_
                  refine xi_cmt (pc' := 56) kc_30_46 rfl (xc_ge_t (X := a26.toInt) (Y := v316.toInt) rfl rfl (by omega)) ?_
                  refine xi_iload_n (pc' := 57) (x := a26) kc_30_56 rfl rfl ?_
                  refine xi_iff (pc' := 60) kc_30_57 rfl (xc_lt_f (X := a26.toInt) (Y := 0) rfl (by decide) (by omega)) ?_
                  refine xi_iload_n (pc' := 61) (x := a28) kc_30_60 rfl rfl ?_
                  refine xi_iff (pc' := 64) kc_30_61 rfl (xc_lt_f (X := a28.toInt) (Y := 0) rfl (by decide) (by omega)) ?_
                  refine xi_iload (pc' := 66) (x := a30) kc_30_64 rfl rfl ?_
                  refine xi_iff (pc' := 69) kc_30_66 rfl (xc_ge_f (X := a30.toInt) (Y := 0) rfl (by decide) (by omega)) ?_
                  refine xi_aload_n (pc' := 70) (x := 115) kc_30_69 rfl rfl ?_
                  refine xi_bipush (pc' := 72) (v := (-4)) kc_30_70 rfl rfl ?_
                  refine xi_virtual (mj := 12) (as := [.int (-4)]) (st1 := []) (lv0 := [(0, .ref 115), (1, .int (-4))]) kc_30_72 rfl rfl rfl rfl rfl eh487.1 (Nat.le_of_ble_eq_true rfl) (hJ _ _ _ _ (by decide)) (xm_le ml_12 rfl) rfl ?_
                  refine xi_aload_n (pc' := 1) (x := 115) kc_12_0 rfl rfl ?_
                  refine xi_getfield (pc' := 4) (v := .ref 140) kc_12_1 rfl rfl rfl eh487.1 rfl ?_
                  refine xi_iload_n (pc' := 5) (x := (-4)) kc_12_4 rfl rfl ?_
                  refine xi_ineg (pc' := 6) (v := 4) kc_12_5 rfl rfl ?_
                  refine xi_dup2 (pc' := 7) kc_12_6 rfl ⟨rfl, rfl⟩ ?_
                  obtain ⟨y492, A492, hy492, ry492⟩ := xk_arr K.1 xD_140
                  obtain ⟨v493, ev493, bv493, dv493⟩ := xj_get hy492 ry492 (i := 4) (by decide) (by decide)
                  have A494 := ((eh487.2.1 140 (by decide)).trans ((eh484.2.1 140 (by decide)).trans A492))
                  refine xi_iaload (pc' := 8) (v := v493) kc_12_7 rfl A494 (by decide) rfl (xi_in (by decide) (by rw [hy492]; decide)) ev493 ?_
                  refine xi_iconst (pc' := 9) (v := 1) kc_12_8 rfl rfl ?_
                  obtain ⟨v495, ev495⟩ : ∃ q : Int32, (v493 : Int32) + 1 = q := ⟨_, rfl⟩
                  have rv495 := xc_rng v495
                  refine xi_iadd (pc' := 10) (v := v495) kc_12_9 rfl ev495 ?_
                  obtain ⟨y496, s496, hy496, ry496⟩ := xj_set (v := v495) hy492 ry492 4 (by first | omega | decide) (by first | omega | decide)
                  refine xi_iastore (pc' := 11) (x' := y496) kc_12_10 rfl A494 rfl (xi_in (by decide) (by rw [hy492]; decide)) s496 (fun hh496 eh496 => ?_)
                  have K497 := xk_pa K489 (xk_wa rfl) xD_140 hy496 ry496 eh496
                  refine xi_iload_n (pc' := 12) (x := (-4)) kc_12_11 rfl rfl ?_
                  refine xi_ireturn kc_12_12 mr_12 rfl ?_
                  show xw J ov 99 30 (75, [(0, .ref 115), (1, .int a24), (2, .int a26), (3, .int a28), (4, .int a30)], [.int (-4)], hh496) _
                  refine xi_ireturn kc_30_75 mr_30 rfl ?_
                  show xw J ov 100 195 (646, [(4, .int x4), (3, .ref 167), (2, .ref 115), (1, .ref 0), (0, .ref 1000000)], [.int (-4), .int (-4)], hh496) _
                  refine xi_cmt (pc' := 1501) kc_195_646 rfl rfl ?_
                  obtain ⟨v498, ev498⟩ : ∃ q : Int32, x4 + 6 = q := ⟨_, rfl⟩
                  have zv498 : v498.toInt = (x4.toInt + 6) := by rw [← ev498]; exact (xz_add (X := x4.toInt) (Y := 6) rfl (by decide) (by omega) (by omega)).trans (by omega)
                  refine xi_iinc (pc' := 1504) (x := x4) (v := v498) (lv' := [(4, .int v498), (3, .ref 167), (2, .ref 115), (1, .ref 0), (0, .ref 1000000)]) kc_195_1501 rfl rfl ev498 rfl (xm_lt ml_195 rfl) ?_
                  refine xi_goto (pc' := 23) kc_195_1504 rfl ?_
                  have A499 := ((eh496.2.1 0 (by decide)).trans ((eh487.2.1 0 (by decide)).trans ((eh484.2.1 0 (by decide)).trans A3)))
                  have A500 := ((eh496.2.1 115 (by decide)).trans eh487.1)
                  have A501 := ((eh496.2.1 66 (by decide)).trans ((eh487.2.1 66 (by decide)).trans ((eh484.2.1 66 (by decide)).trans A20)))
                  have A502 := ((eh496.2.1 71 (by decide)).trans ((eh487.2.1 71 (by decide)).trans ((eh484.2.1 71 (by decide)).trans A21)))
                  have A503 := ((eh496.2.1 132 (by decide)).trans A491)
                  exact kk v498 hh496 (by omega) K497 ⟨(xGR_kept I.1 (fun c hc => ((eh496.2.1 c (Ne.symm (xk_nc hc rfl))).trans ((eh487.2.1 c (Ne.symm (xk_nc hc rfl))).trans (eh484.2.1 c (Ne.symm (xk_nc hc rfl)))))) ((eh496.2.1 125 (by decide)).trans ((eh487.2.1 125 (by decide)).trans (eh484.2.1 125 (by decide))))), ((xl_of A499 rfl).trans (xl_of A500 rfl).symm), ((xl_of A501 rfl).trans (xl_of A500 rfl).symm), ((xl_arr A502).trans (xl_arr A503).symm)⟩
            · refine xi_cmf (pc' := 31) kc_114_28 rfl (xc_ge_f (X := a26.toInt) (Y := v316.toInt) rfl rfl (by omega)) ?_
              refine xi_iconst (pc' := 32) (v := 1) kc_114_31 rfl rfl ?_
              refine xi_goto (pc' := 36) kc_114_32 rfl ?_
              refine xi_ireturn kc_114_36 mr_114 rfl ?_
              show xw J ov 99 113 (33, [(0, .ref 0), (1, .int a24), (2, .int a26), (3, .int a28), (4, .int a30)], [.int 1], h) _
              refine xi_iff (pc' := 36) kc_113_33 rfl rfl ?_
              refine xi_aload_n (pc' := 37) (x := 0) kc_113_36 rfl rfl ?_
              refine xi_bipush (pc' := 39) (v := (-3)) kc_113_37 rfl rfl ?_
              refine xi_virtual (mj := 90) (as := [.int (-3)]) (st1 := []) (lv0 := [(0, .ref 0), (1, .int (-3))]) kc_113_39 rfl rfl rfl rfl rfl A3 (Nat.le_of_ble_eq_true rfl) (hJ _ _ _ _ (by decide)) (xm_le ml_90 rfl) rfl ?_
              refine xi_iload_n (pc' := 1) (x := (-3)) kc_90_0 rfl rfl ?_
              refine xi_ineg (pc' := 2) (v := 3) kc_90_1 rfl rfl ?_
              refine xi_istore_n (pc' := 3) (lv' := [(2, .int 3), (0, .ref 0), (1, .int (-3))]) kc_90_2 rfl rfl (xm_lt ml_90 rfl) ?_
              refine xi_iload_n (pc' := 4) (x := 3) kc_90_3 rfl rfl ?_
              refine xi_iff (pc' := 7) kc_90_4 rfl rfl ?_
              refine xi_iload_n (pc' := 8) (x := 3) kc_90_7 rfl rfl ?_
              refine xi_aload_n (pc' := 9) (x := 0) kc_90_8 rfl rfl ?_
              refine xi_getfield (pc' := 12) (v := .ref 94) kc_90_9 rfl rfl rfl A3 rfl ?_
              obtain ⟨y504, A504, hy504, ry504⟩ := xk_arr K.1 xD_94
              refine xi_arraylength (pc' := 13) (n := 7) (v := 7) kc_90_12 rfl (xl_lenI (by decide) (by decide) A504 hy504) rfl ?_
              refine xi_cmf (pc' := 16) kc_90_13 rfl rfl ?_
              refine xi_aload_n (pc' := 17) (x := 0) kc_90_16 rfl rfl ?_
              refine xi_getfield (pc' := 20) (v := .ref 94) kc_90_17 rfl rfl rfl A3 rfl ?_
              refine xi_iload_n (pc' := 21) (x := 3) kc_90_20 rfl rfl ?_
              refine xi_dup2 (pc' := 22) kc_90_21 rfl ⟨rfl, rfl⟩ ?_
              obtain ⟨v505, ev505, bv505, dv505⟩ := xj_get hy504 ry504 (i := 3) (by decide) (by decide)
              refine xi_iaload (pc' := 23) (v := v505) kc_90_22 rfl A504 (by decide) rfl (xi_in (by decide) (by rw [hy504]; decide)) ev505 ?_
              refine xi_iconst (pc' := 24) (v := 1) kc_90_23 rfl rfl ?_
              obtain ⟨v506, ev506⟩ : ∃ q : Int32, (v505 : Int32) + 1 = q := ⟨_, rfl⟩
              have rv506 := xc_rng v506
              refine xi_iadd (pc' := 25) (v := v506) kc_90_24 rfl ev506 ?_
              obtain ⟨y507, s507, hy507, ry507⟩ := xj_set (v := v506) hy504 ry504 3 (by first | omega | decide) (by first | omega | decide)
              refine xi_iastore (pc' := 26) (x' := y507) kc_90_25 rfl A504 rfl (xi_in (by decide) (by rw [hy504]; decide)) s507 (fun hh507 eh507 => ?_)
              have K508 := xk_pa K (xk_wa rfl) xD_94 hy507 ry507 eh507
              refine xi_iload_n (pc' := 27) (x := (-3)) kc_90_26 rfl rfl ?_
              refine xi_ireturn kc_90_27 mr_90 rfl ?_
              show xw J ov 99 113 (42, [(0, .ref 0), (1, .int a24), (2, .int a26), (3, .int a28), (4, .int a30)], [.int (-3)], hh507) _
              refine xi_ireturn kc_113_42 mr_113 rfl ?_
              show xw J ov 100 195 (618, [(4, .int x4), (3, .ref 167), (2, .ref 115), (1, .ref 0), (0, .ref 1000000)], [.int (-3)], hh507) _
              refine xi_aload_n (pc' := 619) (x := 115) kc_195_618 rfl rfl ?_
              refine xi_aload_n (pc' := 620) (x := 1000000) kc_195_619 rfl rfl ?_
              refine xi_iload (pc' := 622) (x := x4) kc_195_620 rfl rfl ?_
              refine xi_iconst (pc' := 623) (v := 1) kc_195_622 rfl rfl ?_
              refine xi_iadd (pc' := 624) (v := v23) kc_195_623 rfl ev23 ?_
              refine xi_ialoadO (pc' := 625) (v := a24) kc_195_624 rfl (by decide) hov0 (xi_in (by omega) (by omega)) ea24 ?_
              refine xi_aload_n (pc' := 626) (x := 1000000) kc_195_625 rfl rfl ?_
              refine xi_iload (pc' := 628) (x := x4) kc_195_626 rfl rfl ?_
              refine xi_iconst (pc' := 629) (v := 2) kc_195_628 rfl rfl ?_
              refine xi_iadd (pc' := 630) (v := v25) kc_195_629 rfl ev25 ?_
              refine xi_ialoadO (pc' := 631) (v := a26) kc_195_630 rfl (by decide) hov0 (xi_in (by omega) (by omega)) ea26 ?_
              refine xi_aload_n (pc' := 632) (x := 1000000) kc_195_631 rfl rfl ?_
              refine xi_iload (pc' := 634) (x := x4) kc_195_632 rfl rfl ?_
              refine xi_iconst (pc' := 635) (v := 3) kc_195_634 rfl rfl ?_
              refine xi_iadd (pc' := 636) (v := v27) kc_195_635 rfl ev27 ?_
              refine xi_ialoadO (pc' := 637) (v := a28) kc_195_636 rfl (by decide) hov0 (xi_in (by omega) (by omega)) ea28 ?_
              refine xi_aload_n (pc' := 638) (x := 1000000) kc_195_637 rfl rfl ?_
              refine xi_iload (pc' := 640) (x := x4) kc_195_638 rfl rfl ?_
              refine xi_iconst (pc' := 641) (v := 4) kc_195_640 rfl rfl ?_
              refine xi_iadd (pc' := 642) (v := v29) kc_195_641 rfl ev29 ?_
              refine xi_ialoadO (pc' := 643) (v := a30) kc_195_642 rfl (by decide) hov0 (xi_in (by omega) (by omega)) ea30 ?_
              have A509 := ((eh507.2.1 115 (by decide)).trans A17)
              refine xi_virtual (mj := 30) (as := [.int a24, .int a26, .int a28, .int a30]) (st1 := [.int (-3)]) (lv0 := [(0, .ref 115), (1, .int a24), (2, .int a26), (3, .int a28), (4, .int a30)]) kc_195_643 rfl rfl rfl rfl rfl A509 (Nat.le_of_ble_eq_true rfl) (hJ _ _ _ _ (by decide)) (xm_le ml_30 rfl) rfl ?_
              refine xi_aload_n (pc' := 1) (x := 115) kc_30_0 rfl rfl ?_
              refine xi_iconst (pc' := 2) (v := 0) kc_30_1 rfl rfl ?_
              refine xi_putfield (pc' := 5) (fs' := [.int 0, .int u2, .ref 116, .ref 117, .ref 118, .ref 119, .ref 120, .ref 121, .ref 122, .ref 123, .ref 124, .ref 125, .ref 126, .ref 127, .ref 128, .ref 129, .int u6, .ref 130, .int u19, .ref 131, .ref 132, .ref 133, .ref 134, .int u8, .ref 135, .ref 136, .ref 137, .ref 138, .ref 139, .ref 140, .ref 141, .ref 142, .int u9, .int u10, .int u11, .ref 143, .ref 144, .ref 145, .ref 146, .ref 147, .ref 148, .int u12, .ref 149, .ref 150, .ref 151, .int u13, .ref 152, .ref 153, .ref 154, .ref 155, .ref 156, .ref 157, .ref 158, .ref 159, .int u14, .ref 160, .int u15, .ref 161, .ref 162, .ref 163, .ref 164, .int u16, .ref 165, .ref 166]) kc_30_2 rfl rfl rfl A509 rfl rfl rfl (Nat.le_of_ble_eq_true rfl) rfl (fun hh511 eh510 => ?_)
              have K512 := xk_pf (k := 0) (v := 0) K508 (xk_wf rfl) xD_115 A509 rfl (by first | omega | decide) (by first | omega | decide) eh510 rfl
              refine xi_aload_n (pc' := 6) (x := 115) kc_30_5 rfl rfl ?_
              refine xi_iload_n (pc' := 7) (x := a24) kc_30_6 rfl rfl ?_
              refine xi_virtual (mj := 31) (as := [.int a24]) (st1 := []) (lv0 := [(0, .ref 115), (1, .int a24)]) kc_30_7 rfl rfl rfl rfl rfl eh510.1 (Nat.le_of_ble_eq_true rfl) (hJ _ _ _ _ (by decide)) (xm_le ml_31 rfl) rfl ?_
              refine xi_iload_n (pc' := 1) (x := a24) kc_31_0 rfl rfl ?_
              refine xi_static (mj := 24) (as := [.int a24]) (st1 := []) (lv0 := [(0, .int a24)]) kc_31_1 rfl rfl (Nat.le_of_ble_eq_true rfl) rfl rfl (Nat.le_of_ble_eq_true rfl) (hJ _ _ _ _ (by decide)) (xm_le ml_24 rfl) rfl ?_
              refine xi_iload_n (pc' := 1) (x := a24) kc_24_0 rfl rfl ?_
              refine xi_iconst (pc' := 2) (v := 0) kc_24_1 rfl rfl ?_
              refine xi_bipush (pc' := 4) (v := 11) kc_24_2 rfl rfl ?_
              refine xi_static (mj := 11) (as := [.int a24, .int 0, .int 11]) (st1 := []) (lv0 := [(0, .int a24), (1, .int 0), (2, .int 11)]) kc_24_4 rfl rfl (Nat.le_of_ble_eq_true rfl) rfl rfl (Nat.le_of_ble_eq_true rfl) (hJ _ _ _ _ (by decide)) (xm_le ml_11 rfl) rfl ?_
              refine xi_iload_n (pc' := 1) (x := a24) kc_11_0 rfl rfl ?_
              refine xi_iload_n (pc' := 2) (x := 0) kc_11_1 rfl rfl ?_
              refine xi_cmf (pc' := 5) kc_11_2 rfl (xc_lt_f (X := a24.toInt) (Y := 0) rfl (by decide) (by omega)) ?_
              refine xi_iload_n (pc' := 6) (x := a24) kc_11_5 rfl rfl ?_
              refine xi_iload_n (pc' := 7) (x := 11) kc_11_6 rfl rfl ?_
              refine xi_cmf (pc' := 10) kc_11_7 rfl (xc_gt_f (X := a24.toInt) (Y := 11) rfl (by decide) (by omega)) ?_
              refine xi_iconst (pc' := 11) (v := 1) kc_11_10 rfl rfl ?_
              refine xi_goto (pc' := 15) kc_11_11 rfl ?_
              refine xi_ireturn kc_11_15 mr_11 rfl ?_
              show xw J ov 97 24 (7, [(0, .int a24)], [.int 1], hh511) _
              refine xi_ireturn kc_24_7 mr_24 rfl ?_
              show xw J ov 98 31 (4, [(0, .ref 115), (1, .int a24)], [.int 1], hh511) _
              refine xi_iff (pc' := 7) kc_31_4 rfl rfl ?_
              refine xi_aload_n (pc' := 8) (x := 115) kc_31_7 rfl rfl ?_
              refine xi_getfield (pc' := 11) (v := .ref 125) kc_31_8 rfl rfl rfl eh510.1 rfl ?_
              refine xi_iload_n (pc' := 12) (x := a24) kc_31_11 rfl rfl ?_
              have A513 := ((eh510.2.1 125 (by decide)).trans ((eh507.2.1 125 (by decide)).trans A86))
              refine xi_iaload (pc' := 13) (v := u80) kc_31_12 rfl A513 (by decide) rfl (xi_in (by omega) (by rw [hy86]; omega)) HG87 ?_
              refine xi_iff (pc' := 16) kc_31_13 rfl (xc_lt_f (X := u80.toInt) (Y := 0) rfl (by decide) (by omega)) ?_
              refine xi_iconst (pc' := 17) (v := 1) kc_31_16 rfl rfl ?_
              refine xi_goto (pc' := 21) kc_31_17 rfl ?_
              refine xi_ireturn kc_31_21 mr_31 rfl ?_
              show xw J ov 99 30 (10, [(0, .ref 115), (1, .int a24), (2, .int a26), (3, .int a28), (4, .int a30)], [.int 1], hh511) _
              refine xi_ift (pc' := 19) kc_30_10 rfl rfl ?_
              refine xi_iload_n (pc' := 20) (x := a26) kc_30_19 rfl rfl ?_
              refine xi_aload_n (pc' := 21) (x := 115) kc_30_20 rfl rfl ?_
              refine xi_getfield (pc' := 24) (v := .int u2) kc_30_21 rfl rfl rfl eh510.1 rfl ?_
              refine xi_cmf (pc' := 27) kc_30_24 rfl (xc_gt_f (X := a26.toInt) (Y := u2.toInt) rfl rfl (by omega)) ?_
              refine xi_aload_n (pc' := 28) (x := 115) kc_30_27 rfl rfl ?_
              refine xi_getfield (pc' := 31) (v := .int u19) kc_30_28 rfl rfl rfl eh510.1 rfl ?_
              refine xi_iff (pc' := 34) kc_30_31 rfl (xc_le_f (X := u19.toInt) (Y := 0) rfl (by decide) (by omega)) ?_
              refine xi_iload_n (pc' := 35) (x := a26) kc_30_34 rfl rfl ?_
              refine xi_aload_n (pc' := 36) (x := 115) kc_30_35 rfl rfl ?_
              refine xi_getfield (pc' := 39) (v := .ref 132) kc_30_36 rfl rfl rfl eh510.1 rfl ?_
              refine xi_aload_n (pc' := 40) (x := 115) kc_30_39 rfl rfl ?_
              refine xi_getfield (pc' := 43) (v := .int u19) kc_30_40 rfl rfl rfl eh510.1 rfl ?_
              refine xi_iconst (pc' := 44) (v := 1) kc_30_43 rfl rfl ?_
              refine xi_isub (pc' := 45) (v := v315) kc_30_44 rfl ev315 ?_
              have A514 := ((eh510.2.1 132 (by decide)).trans ((eh507.2.1 132 (by decide)).trans A22))
              refine xi_iaload (pc' := 46) (v := v316) kc_30_45 rfl A514 (by decide) rfl (xi_in (by rw [zv315]; omega) (by rw [hy22]; rw [zv315]; omega)) ev316 ?_
              refine xi_cmf (pc' := 49) kc_30_46 rfl (xc_ge_f (X := a26.toInt) (Y := v316.toInt) rfl rfl (by omega)) ?_
              refine xi_aload_n (pc' := 50) (x := 115) kc_30_49 rfl rfl ?_
              refine xi_bipush (pc' := 52) (v := (-3)) kc_30_50 rfl rfl ?_
              refine xi_virtual (mj := 12) (as := [.int (-3)]) (st1 := []) (lv0 := [(0, .ref 115), (1, .int (-3))]) kc_30_52 rfl rfl rfl rfl rfl eh510.1 (Nat.le_of_ble_eq_true rfl) (hJ _ _ _ _ (by decide)) (xm_le ml_12 rfl) rfl ?_
              refine xi_aload_n (pc' := 1) (x := 115) kc_12_0 rfl rfl ?_
              refine xi_getfield (pc' := 4) (v := .ref 140) kc_12_1 rfl rfl rfl eh510.1 rfl ?_
              refine xi_iload_n (pc' := 5) (x := (-3)) kc_12_4 rfl rfl ?_
              refine xi_ineg (pc' := 6) (v := 3) kc_12_5 rfl rfl ?_
              refine xi_dup2 (pc' := 7) kc_12_6 rfl ⟨rfl, rfl⟩ ?_
              obtain ⟨y515, A515, hy515, ry515⟩ := xk_arr K.1 xD_140
              obtain ⟨v516, ev516, bv516, dv516⟩ := xj_get hy515 ry515 (i := 3) (by decide) (by decide)
              have A517 := ((eh510.2.1 140 (by decide)).trans ((eh507.2.1 140 (by decide)).trans A515))
              refine xi_iaload (pc' := 8) (v := v516) kc_12_7 rfl A517 (by decide) rfl (xi_in (by decide) (by rw [hy515]; decide)) ev516 ?_
              refine xi_iconst (pc' := 9) (v := 1) kc_12_8 rfl rfl ?_
              obtain ⟨v518, ev518⟩ : ∃ q : Int32, (v516 : Int32) + 1 = q := ⟨_, rfl⟩
              have rv518 := xc_rng v518
              refine xi_iadd (pc' := 10) (v := v518) kc_12_9 rfl ev518 ?_
              obtain ⟨y519, s519, hy519, ry519⟩ := xj_set (v := v518) hy515 ry515 3 (by first | omega | decide) (by first | omega | decide)
              refine xi_iastore (pc' := 11) (x' := y519) kc_12_10 rfl A517 rfl (xi_in (by decide) (by rw [hy515]; decide)) s519 (fun hh519 eh519 => ?_)
              have K520 := xk_pa K512 (xk_wa rfl) xD_140 hy519 ry519 eh519
              refine xi_iload_n (pc' := 12) (x := (-3)) kc_12_11 rfl rfl ?_
              refine xi_ireturn kc_12_12 mr_12 rfl ?_
              show xw J ov 99 30 (55, [(0, .ref 115), (1, .int a24), (2, .int a26), (3, .int a28), (4, .int a30)], [.int (-3)], hh519) _
              refine xi_ireturn kc_30_55 mr_30 rfl ?_
              show xw J ov 100 195 (646, [(4, .int x4), (3, .ref 167), (2, .ref 115), (1, .ref 0), (0, .ref 1000000)], [.int (-3), .int (-3)], hh519) _
              refine xi_cmt (pc' := 1501) kc_195_646 rfl rfl ?_
              obtain ⟨v521, ev521⟩ : ∃ q : Int32, x4 + 6 = q := ⟨_, rfl⟩
              have zv521 : v521.toInt = (x4.toInt + 6) := by rw [← ev521]; exact (xz_add (X := x4.toInt) (Y := 6) rfl (by decide) (by omega) (by omega)).trans (by omega)
              refine xi_iinc (pc' := 1504) (x := x4) (v := v521) (lv' := [(4, .int v521), (3, .ref 167), (2, .ref 115), (1, .ref 0), (0, .ref 1000000)]) kc_195_1501 rfl rfl ev521 rfl (xm_lt ml_195 rfl) ?_
              refine xi_goto (pc' := 23) kc_195_1504 rfl ?_
              have A522 := ((eh519.2.1 0 (by decide)).trans ((eh510.2.1 0 (by decide)).trans ((eh507.2.1 0 (by decide)).trans A3)))
              have A523 := ((eh519.2.1 115 (by decide)).trans eh510.1)
              have A524 := ((eh519.2.1 66 (by decide)).trans ((eh510.2.1 66 (by decide)).trans ((eh507.2.1 66 (by decide)).trans A20)))
              have A525 := ((eh519.2.1 71 (by decide)).trans ((eh510.2.1 71 (by decide)).trans ((eh507.2.1 71 (by decide)).trans A21)))
              have A526 := ((eh519.2.1 132 (by decide)).trans A514)
              exact kk v521 hh519 (by omega) K520 ⟨(xGR_kept I.1 (fun c hc => ((eh519.2.1 c (Ne.symm (xk_nc hc rfl))).trans ((eh510.2.1 c (Ne.symm (xk_nc hc rfl))).trans (eh507.2.1 c (Ne.symm (xk_nc hc rfl)))))) ((eh519.2.1 125 (by decide)).trans ((eh510.2.1 125 (by decide)).trans (eh507.2.1 125 (by decide))))), ((xl_of A522 rfl).trans (xl_of A523 rfl).symm), ((xl_of A524 rfl).trans (xl_of A523 rfl).symm), ((xl_arr A525).trans (xl_arr A526).symm)⟩
set_option maxHeartbeats 8000000 in
theorem lc_11 {J : xe_J} {ov : List (List Int32)} (hJ : ∀ d mj as h, mj ≠ xe_loff → J d mj as h = none) (hov1 : ov[1]? = some [10, 0, 0, 0, 0, 0]) (hov2 : ov[2]? = some [99, 30, 50, 50, 1, 99999]) {xs : List Int32} (hov0 : ov[0]? = some xs) {Q : Option Value → xe_H → Prop} {h : xe_H} {x4 : Int32} (hi0 : 0 ≤ x4.toInt) (hi1 : x4.toInt + 6 ≤ xs.length) (hi2 : x4.toInt ≤ 3066) (T : xt h) (kk : ∀ (i : Int32) (h' : xe_H), i.toInt = x4.toInt + 6 → xk [(29, 0), (31, 0), (33, 0), (35, 0), (37, 0), (39, 0), (41, 0), (43, 0), (45, 0), (47, 0), (49, 0), (51, 0), (125, 0), (0, 9), (115, 1), (66, 8), (115, 18), (71, 0), (132, 0)] h h' → xw J ov 100 195 (23, [(4, .int i), (3, .ref 167), (2, .ref 115), (1, .ref 0), (0, .ref 1000000)], [], h') Q) : xw J ov 100 195 (651, [(4, .int x4), (3, .ref 167), (2, .ref 115), (1, .ref 0), (0, .ref 1000000)], [], h) Q := by
  have K : xk [(29, 0), (31, 0), (33, 0), (35, 0), (37, 0), (39, 0), (41, 0), (43, 0), (45, 0), (47, 0), (49, 0), (51, 0), (125, 0), (0, 9), (115, 1), (66, 8), (115, 18), (71, 0), (132, 0)] h h := xk_re T
  refine xi_aload_n (pc' := 652) (x := 0) kc_195_651 rfl rfl ?_
  refine xi_aload_n (pc' := 653) (x := 1000000) kc_195_652 rfl rfl ?_
  refine xi_iload (pc' := 655) (x := x4) kc_195_653 rfl rfl ?_
  refine xi_iconst (pc' := 656) (v := 1) kc_195_655 rfl rfl ?_
  obtain ⟨v1, ev1⟩ : ∃ q : Int32, x4 + 1 = q := ⟨_, rfl⟩
  have zv1 : v1.toInt = (x4.toInt + 1) := by rw [← ev1]; exact (xz_add (X := x4.toInt) (Y := 1) rfl (by decide) (by omega) (by omega)).trans (by omega)
  refine xi_iadd (pc' := 657) (v := v1) kc_195_656 rfl ev1 ?_
  obtain ⟨a2, ea2⟩ : ∃ q : Int32, xs.getD (Int32.toNatClampNeg v1) 0 = q := ⟨_, rfl⟩
  have ra2 := xc_rng a2
  refine xi_ialoadO (pc' := 658) (v := a2) kc_195_657 rfl (by decide) hov0 (xi_in (by omega) (by omega)) ea2 ?_
  refine xi_aload_n (pc' := 659) (x := 1000000) kc_195_658 rfl rfl ?_
  refine xi_iload (pc' := 661) (x := x4) kc_195_659 rfl rfl ?_
  refine xi_iconst (pc' := 662) (v := 2) kc_195_661 rfl rfl ?_
  obtain ⟨v3, ev3⟩ : ∃ q : Int32, x4 + 2 = q := ⟨_, rfl⟩
  have zv3 : v3.toInt = (x4.toInt + 2) := by rw [← ev3]; exact (xz_add (X := x4.toInt) (Y := 2) rfl (by decide) (by omega) (by omega)).trans (by omega)
  refine xi_iadd (pc' := 663) (v := v3) kc_195_662 rfl ev3 ?_
  obtain ⟨a4, ea4⟩ : ∃ q : Int32, xs.getD (Int32.toNatClampNeg v3) 0 = q := ⟨_, rfl⟩
  have ra4 := xc_rng a4
  refine xi_ialoadO (pc' := 664) (v := a4) kc_195_663 rfl (by decide) hov0 (xi_in (by omega) (by omega)) ea4 ?_
  refine xi_aload_n (pc' := 665) (x := 1000000) kc_195_664 rfl rfl ?_
  refine xi_iload (pc' := 667) (x := x4) kc_195_665 rfl rfl ?_
  refine xi_iconst (pc' := 668) (v := 3) kc_195_667 rfl rfl ?_
  obtain ⟨v5, ev5⟩ : ∃ q : Int32, x4 + 3 = q := ⟨_, rfl⟩
  have zv5 : v5.toInt = (x4.toInt + 3) := by rw [← ev5]; exact (xz_add (X := x4.toInt) (Y := 3) rfl (by decide) (by omega) (by omega)).trans (by omega)
  refine xi_iadd (pc' := 669) (v := v5) kc_195_668 rfl ev5 ?_
  obtain ⟨a6, ea6⟩ : ∃ q : Int32, xs.getD (Int32.toNatClampNeg v5) 0 = q := ⟨_, rfl⟩
  have ra6 := xc_rng a6
  refine xi_ialoadO (pc' := 670) (v := a6) kc_195_669 rfl (by decide) hov0 (xi_in (by omega) (by omega)) ea6 ?_
  refine xi_aload_n (pc' := 671) (x := 1000000) kc_195_670 rfl rfl ?_
  refine xi_iload (pc' := 673) (x := x4) kc_195_671 rfl rfl ?_
  refine xi_iconst (pc' := 674) (v := 4) kc_195_673 rfl rfl ?_
  obtain ⟨v7, ev7⟩ : ∃ q : Int32, x4 + 4 = q := ⟨_, rfl⟩
  have zv7 : v7.toInt = (x4.toInt + 4) := by rw [← ev7]; exact (xz_add (X := x4.toInt) (Y := 4) rfl (by decide) (by omega) (by omega)).trans (by omega)
  refine xi_iadd (pc' := 675) (v := v7) kc_195_674 rfl ev7 ?_
  obtain ⟨a8, ea8⟩ : ∃ q : Int32, xs.getD (Int32.toNatClampNeg v7) 0 = q := ⟨_, rfl⟩
  have ra8 := xc_rng a8
  refine xi_ialoadO (pc' := 676) (v := a8) kc_195_675 rfl (by decide) hov0 (xi_in (by omega) (by omega)) ea8 ?_
  obtain ⟨u9, u10, bu9, bu10, A11⟩ := xq_0 K.1
  refine xi_virtual (mj := 116) (as := [.int a2, .int a4, .int a6, .int a8]) (st1 := []) (lv0 := [(0, .ref 0), (1, .int a2), (2, .int a4), (3, .int a6), (4, .int a8)]) kc_195_676 rfl rfl rfl rfl rfl A11 (Nat.le_of_ble_eq_true rfl) (hJ _ _ _ _ (by decide)) (xm_le ml_116 rfl) rfl ?_
  refine mt_116_0 hJ hov1 hov2 (d := 95) (x1 := a2) (x2 := a4) (x3 := a6) (x4 := a8) K.1 (fun r12 hh13 br12 K14 => ?_)
  have K15 := xk_tr K K14 rfl
  obtain ⟨u16, u17, bu16, bu17, A18⟩ := xq_0 K15.1
  have e19 : u10 = u17 := xk_eqi (q := 9) K14 rfl A11 A18 rfl rfl
  subst e19
  show xw J ov 100 195 (679, [(4, .int x4), (3, .ref 167), (2, .ref 115), (1, .ref 0), (0, .ref 1000000)], [.int r12], hh13) _
  refine xi_pop (pc' := 680) kc_195_679 rfl rfl ?_
  refine xi_aload_n (pc' := 681) (x := 115) kc_195_680 rfl rfl ?_
  refine xi_aload_n (pc' := 682) (x := 1000000) kc_195_681 rfl rfl ?_
  refine xi_iload (pc' := 684) (x := x4) kc_195_682 rfl rfl ?_
  refine xi_iconst (pc' := 685) (v := 1) kc_195_684 rfl rfl ?_
  refine xi_iadd (pc' := 686) (v := v1) kc_195_685 rfl ev1 ?_
  refine xi_ialoadO (pc' := 687) (v := a2) kc_195_686 rfl (by decide) hov0 (xi_in (by omega) (by omega)) ea2 ?_
  refine xi_aload_n (pc' := 688) (x := 1000000) kc_195_687 rfl rfl ?_
  refine xi_iload (pc' := 690) (x := x4) kc_195_688 rfl rfl ?_
  refine xi_iconst (pc' := 691) (v := 2) kc_195_690 rfl rfl ?_
  refine xi_iadd (pc' := 692) (v := v3) kc_195_691 rfl ev3 ?_
  refine xi_ialoadO (pc' := 693) (v := a4) kc_195_692 rfl (by decide) hov0 (xi_in (by omega) (by omega)) ea4 ?_
  refine xi_aload_n (pc' := 694) (x := 1000000) kc_195_693 rfl rfl ?_
  refine xi_iload (pc' := 696) (x := x4) kc_195_694 rfl rfl ?_
  refine xi_iconst (pc' := 697) (v := 3) kc_195_696 rfl rfl ?_
  refine xi_iadd (pc' := 698) (v := v5) kc_195_697 rfl ev5 ?_
  refine xi_ialoadO (pc' := 699) (v := a6) kc_195_698 rfl (by decide) hov0 (xi_in (by omega) (by omega)) ea6 ?_
  refine xi_aload_n (pc' := 700) (x := 1000000) kc_195_699 rfl rfl ?_
  refine xi_iload (pc' := 702) (x := x4) kc_195_700 rfl rfl ?_
  refine xi_iconst (pc' := 703) (v := 4) kc_195_702 rfl rfl ?_
  refine xi_iadd (pc' := 704) (v := v7) kc_195_703 rfl ev7 ?_
  refine xi_ialoadO (pc' := 705) (v := a8) kc_195_704 rfl (by decide) hov0 (xi_in (by omega) (by omega)) ea8 ?_
  obtain ⟨u20, u21, u22, u23, u24, u25, u26, u27, u28, u29, u30, u31, u32, bu20, bu21, bu22, bu23, bu24, bu25, bu26, bu27, bu28, bu29, bu30, bu31, bu32, A33⟩ := xq_115 K15.1
  refine xi_virtual (mj := 32) (as := [.int a2, .int a4, .int a6, .int a8]) (st1 := []) (lv0 := [(0, .ref 115), (1, .int a2), (2, .int a4), (3, .int a6), (4, .int a8)]) kc_195_705 rfl rfl rfl rfl rfl A33 (Nat.le_of_ble_eq_true rfl) (hJ _ _ _ _ (by decide)) (xm_le ml_32 rfl) rfl ?_
  refine mt_32_0 hJ hov1 hov2 (d := 96) (x1 := a2) (x2 := a4) (x3 := a6) (x4 := a8) K15.1 (fun r34 hh35 br34 K36 => ?_)
  have K37 := xk_tr K15 K36 rfl
  obtain ⟨u38, u39, bu38, bu39, A40⟩ := xq_0 K37.1
  have e41 : u10 = u39 := xk_eqi (q := 9) K36 rfl A18 A40 rfl rfl
  subst e41
  obtain ⟨u42, u43, u44, u45, u46, u47, u48, u49, u50, u51, u52, u53, u54, bu42, bu43, bu44, bu45, bu46, bu47, bu48, bu49, bu50, bu51, bu52, bu53, bu54, A55⟩ := xq_115 K37.1
  have e56 : u21 = u43 := xk_eqi (q := 1) K36 rfl A33 A55 rfl rfl
  subst e56
  have e57 : u23 = u45 := xk_eqi (q := 18) K36 rfl A33 A55 rfl rfl
  subst e57
  show xw J ov 100 195 (708, [(4, .int x4), (3, .ref 167), (2, .ref 115), (1, .ref 0), (0, .ref 1000000)], [.int r34], hh35) _
  refine xi_pop (pc' := 709) kc_195_708 rfl rfl ?_
  refine xi_goto (pc' := 1501) kc_195_709 rfl ?_
  obtain ⟨v58, ev58⟩ : ∃ q : Int32, x4 + 6 = q := ⟨_, rfl⟩
  have zv58 : v58.toInt = (x4.toInt + 6) := by rw [← ev58]; exact (xz_add (X := x4.toInt) (Y := 6) rfl (by decide) (by omega) (by omega)).trans (by omega)
  refine xi_iinc (pc' := 1504) (x := x4) (v := v58) (lv' := [(4, .int v58), (3, .ref 167), (2, .ref 115), (1, .ref 0), (0, .ref 1000000)]) kc_195_1501 rfl rfl ev58 rfl (xm_lt ml_195 rfl) ?_
  refine xi_goto (pc' := 23) kc_195_1504 rfl ?_
  exact kk v58 hh35 (by omega) K37
set_option maxHeartbeats 8000000 in
theorem lc_12 {J : xe_J} {ov : List (List Int32)} (hJ : ∀ d mj as h, mj ≠ xe_loff → J d mj as h = none) (hov1 : ov[1]? = some [10, 0, 0, 0, 0, 0]) (hov2 : ov[2]? = some [99, 30, 50, 50, 1, 99999]) {xs : List Int32} (hov0 : ov[0]? = some xs) {Q : Option Value → xe_H → Prop} {h : xe_H} {x4 : Int32} (hi0 : 0 ≤ x4.toInt) (hi1 : x4.toInt + 6 ≤ xs.length) (hi2 : x4.toInt ≤ 3066) (T : xt h) (kk : ∀ (i : Int32) (h' : xe_H), i.toInt = x4.toInt + 6 → xk [(29, 0), (31, 0), (33, 0), (35, 0), (37, 0), (39, 0), (41, 0), (43, 0), (45, 0), (47, 0), (49, 0), (51, 0), (125, 0), (0, 9), (115, 1), (66, 8), (115, 18), (71, 0), (132, 0)] h h' → xw J ov 100 195 (23, [(4, .int i), (3, .ref 167), (2, .ref 115), (1, .ref 0), (0, .ref 1000000)], [], h') Q) : xw J ov 100 195 (712, [(4, .int x4), (3, .ref 167), (2, .ref 115), (1, .ref 0), (0, .ref 1000000)], [], h) Q := by
  have K : xk [(29, 0), (31, 0), (33, 0), (35, 0), (37, 0), (39, 0), (41, 0), (43, 0), (45, 0), (47, 0), (49, 0), (51, 0), (125, 0), (0, 9), (115, 1), (66, 8), (115, 18), (71, 0), (132, 0)] h h := xk_re T
  refine xi_aload_n (pc' := 713) (x := 0) kc_195_712 rfl rfl ?_
  refine xi_aload_n (pc' := 714) (x := 1000000) kc_195_713 rfl rfl ?_
  refine xi_iload (pc' := 716) (x := x4) kc_195_714 rfl rfl ?_
  refine xi_iconst (pc' := 717) (v := 1) kc_195_716 rfl rfl ?_
  obtain ⟨v1, ev1⟩ : ∃ q : Int32, x4 + 1 = q := ⟨_, rfl⟩
  have zv1 : v1.toInt = (x4.toInt + 1) := by rw [← ev1]; exact (xz_add (X := x4.toInt) (Y := 1) rfl (by decide) (by omega) (by omega)).trans (by omega)
  refine xi_iadd (pc' := 718) (v := v1) kc_195_717 rfl ev1 ?_
  obtain ⟨a2, ea2⟩ : ∃ q : Int32, xs.getD (Int32.toNatClampNeg v1) 0 = q := ⟨_, rfl⟩
  have ra2 := xc_rng a2
  refine xi_ialoadO (pc' := 719) (v := a2) kc_195_718 rfl (by decide) hov0 (xi_in (by omega) (by omega)) ea2 ?_
  refine xi_aload_n (pc' := 720) (x := 1000000) kc_195_719 rfl rfl ?_
  refine xi_iload (pc' := 722) (x := x4) kc_195_720 rfl rfl ?_
  refine xi_iconst (pc' := 723) (v := 2) kc_195_722 rfl rfl ?_
  obtain ⟨v3, ev3⟩ : ∃ q : Int32, x4 + 2 = q := ⟨_, rfl⟩
  have zv3 : v3.toInt = (x4.toInt + 2) := by rw [← ev3]; exact (xz_add (X := x4.toInt) (Y := 2) rfl (by decide) (by omega) (by omega)).trans (by omega)
  refine xi_iadd (pc' := 724) (v := v3) kc_195_723 rfl ev3 ?_
  obtain ⟨a4, ea4⟩ : ∃ q : Int32, xs.getD (Int32.toNatClampNeg v3) 0 = q := ⟨_, rfl⟩
  have ra4 := xc_rng a4
  refine xi_ialoadO (pc' := 725) (v := a4) kc_195_724 rfl (by decide) hov0 (xi_in (by omega) (by omega)) ea4 ?_
  by_cases c5 : a4.toInt = 0
  · refine xi_ift (pc' := 732) kc_195_725 rfl (xc_eq_t (X := a4.toInt) (Y := 0) rfl (by decide) (by omega)) ?_
    refine xi_iconst (pc' := 733) (v := 0) kc_195_732 rfl rfl ?_
    obtain ⟨u6, u7, bu6, bu7, A8⟩ := xq_0 K.1
    refine xi_virtual (mj := 120) (as := [.int a2, .int 0]) (st1 := []) (lv0 := [(0, .ref 0), (1, .int a2), (2, .int 0)]) kc_195_733 rfl rfl rfl rfl rfl A8 (Nat.le_of_ble_eq_true rfl) (hJ _ _ _ _ (by decide)) (xm_le ml_120 rfl) rfl ?_
    have zc0 : (0 : Int32).toInt = 0 := by decide
    refine mt_120_0 hJ hov1 hov2 (d := 98) (x1 := a2) (x2 := 0) K.1 (by first | omega | decide) (fun r9 hh10 br9 K11 => ?_)
    have K12 := xk_tr K K11 rfl
    obtain ⟨u13, u14, bu13, bu14, A15⟩ := xq_0 K12.1
    have e16 : u7 = u14 := xk_eqi (q := 9) K11 rfl A8 A15 rfl rfl
    subst e16
    show xw J ov 100 195 (736, [(4, .int x4), (3, .ref 167), (2, .ref 115), (1, .ref 0), (0, .ref 1000000)], [.int r9], hh10) _
    refine xi_pop (pc' := 737) kc_195_736 rfl rfl ?_
    refine xi_aload_n (pc' := 738) (x := 115) kc_195_737 rfl rfl ?_
    refine xi_aload_n (pc' := 739) (x := 1000000) kc_195_738 rfl rfl ?_
    refine xi_iload (pc' := 741) (x := x4) kc_195_739 rfl rfl ?_
    refine xi_iconst (pc' := 742) (v := 1) kc_195_741 rfl rfl ?_
    refine xi_iadd (pc' := 743) (v := v1) kc_195_742 rfl ev1 ?_
    refine xi_ialoadO (pc' := 744) (v := a2) kc_195_743 rfl (by decide) hov0 (xi_in (by omega) (by omega)) ea2 ?_
    refine xi_aload_n (pc' := 745) (x := 1000000) kc_195_744 rfl rfl ?_
    refine xi_iload (pc' := 747) (x := x4) kc_195_745 rfl rfl ?_
    refine xi_iconst (pc' := 748) (v := 2) kc_195_747 rfl rfl ?_
    refine xi_iadd (pc' := 749) (v := v3) kc_195_748 rfl ev3 ?_
    refine xi_ialoadO (pc' := 750) (v := a4) kc_195_749 rfl (by decide) hov0 (xi_in (by omega) (by omega)) ea4 ?_
    refine xi_ift (pc' := 757) kc_195_750 rfl (xc_eq_t (X := a4.toInt) (Y := 0) rfl (by decide) (by omega)) ?_
    refine xi_iconst (pc' := 758) (v := 0) kc_195_757 rfl rfl ?_
    obtain ⟨u17, u18, u19, u20, u21, u22, u23, u24, u25, u26, u27, u28, u29, bu17, bu18, bu19, bu20, bu21, bu22, bu23, bu24, bu25, bu26, bu27, bu28, bu29, A30⟩ := xq_115 K12.1
    refine xi_virtual (mj := 33) (as := [.int a2, .int 0]) (st1 := []) (lv0 := [(0, .ref 115), (1, .int a2), (2, .int 0)]) kc_195_758 rfl rfl rfl rfl rfl A30 (Nat.le_of_ble_eq_true rfl) (hJ _ _ _ _ (by decide)) (xm_le ml_33 rfl) rfl ?_
    have zc0 : (0 : Int32).toInt = 0 := by decide
    refine mt_33_0 hJ hov1 hov2 (d := 98) (x1 := a2) (x2 := 0) K12.1 (by first | omega | decide) (fun r31 hh32 br31 K33 => ?_)
    have K34 := xk_tr K12 K33 rfl
    obtain ⟨u35, u36, bu35, bu36, A37⟩ := xq_0 K34.1
    have e38 : u7 = u36 := xk_eqi (q := 9) K33 rfl A15 A37 rfl rfl
    subst e38
    obtain ⟨u39, u40, u41, u42, u43, u44, u45, u46, u47, u48, u49, u50, u51, bu39, bu40, bu41, bu42, bu43, bu44, bu45, bu46, bu47, bu48, bu49, bu50, bu51, A52⟩ := xq_115 K34.1
    have e53 : u18 = u40 := xk_eqi (q := 1) K33 rfl A30 A52 rfl rfl
    subst e53
    have e54 : u20 = u42 := xk_eqi (q := 18) K33 rfl A30 A52 rfl rfl
    subst e54
    show xw J ov 100 195 (761, [(4, .int x4), (3, .ref 167), (2, .ref 115), (1, .ref 0), (0, .ref 1000000)], [.int r31], hh32) _
    refine xi_pop (pc' := 762) kc_195_761 rfl rfl ?_
    refine xi_goto (pc' := 1501) kc_195_762 rfl ?_
    obtain ⟨v55, ev55⟩ : ∃ q : Int32, x4 + 6 = q := ⟨_, rfl⟩
    have zv55 : v55.toInt = (x4.toInt + 6) := by rw [← ev55]; exact (xz_add (X := x4.toInt) (Y := 6) rfl (by decide) (by omega) (by omega)).trans (by omega)
    refine xi_iinc (pc' := 1504) (x := x4) (v := v55) (lv' := [(4, .int v55), (3, .ref 167), (2, .ref 115), (1, .ref 0), (0, .ref 1000000)]) kc_195_1501 rfl rfl ev55 rfl (xm_lt ml_195 rfl) ?_
    refine xi_goto (pc' := 23) kc_195_1504 rfl ?_
    exact kk v55 hh32 (by omega) K34
  · refine xi_iff (pc' := 728) kc_195_725 rfl (xc_eq_f (X := a4.toInt) (Y := 0) rfl (by decide) (by omega)) ?_
    refine xi_iconst (pc' := 729) (v := 1) kc_195_728 rfl rfl ?_
    refine xi_goto (pc' := 733) kc_195_729 rfl ?_
    obtain ⟨u56, u57, bu56, bu57, A58⟩ := xq_0 K.1
    refine xi_virtual (mj := 120) (as := [.int a2, .int 1]) (st1 := []) (lv0 := [(0, .ref 0), (1, .int a2), (2, .int 1)]) kc_195_733 rfl rfl rfl rfl rfl A58 (Nat.le_of_ble_eq_true rfl) (hJ _ _ _ _ (by decide)) (xm_le ml_120 rfl) rfl ?_
    have zc1 : (1 : Int32).toInt = 1 := by decide
    refine mt_120_0 hJ hov1 hov2 (d := 98) (x1 := a2) (x2 := 1) K.1 (by first | omega | decide) (fun r59 hh60 br59 K61 => ?_)
    have K62 := xk_tr K K61 rfl
    obtain ⟨u63, u64, bu63, bu64, A65⟩ := xq_0 K62.1
    have e66 : u57 = u64 := xk_eqi (q := 9) K61 rfl A58 A65 rfl rfl
    subst e66
    show xw J ov 100 195 (736, [(4, .int x4), (3, .ref 167), (2, .ref 115), (1, .ref 0), (0, .ref 1000000)], [.int r59], hh60) _
    refine xi_pop (pc' := 737) kc_195_736 rfl rfl ?_
    refine xi_aload_n (pc' := 738) (x := 115) kc_195_737 rfl rfl ?_
    refine xi_aload_n (pc' := 739) (x := 1000000) kc_195_738 rfl rfl ?_
    refine xi_iload (pc' := 741) (x := x4) kc_195_739 rfl rfl ?_
    refine xi_iconst (pc' := 742) (v := 1) kc_195_741 rfl rfl ?_
    refine xi_iadd (pc' := 743) (v := v1) kc_195_742 rfl ev1 ?_
    refine xi_ialoadO (pc' := 744) (v := a2) kc_195_743 rfl (by decide) hov0 (xi_in (by omega) (by omega)) ea2 ?_
    refine xi_aload_n (pc' := 745) (x := 1000000) kc_195_744 rfl rfl ?_
    refine xi_iload (pc' := 747) (x := x4) kc_195_745 rfl rfl ?_
    refine xi_iconst (pc' := 748) (v := 2) kc_195_747 rfl rfl ?_
    refine xi_iadd (pc' := 749) (v := v3) kc_195_748 rfl ev3 ?_
    refine xi_ialoadO (pc' := 750) (v := a4) kc_195_749 rfl (by decide) hov0 (xi_in (by omega) (by omega)) ea4 ?_
    refine xi_iff (pc' := 753) kc_195_750 rfl (xc_eq_f (X := a4.toInt) (Y := 0) rfl (by decide) (by omega)) ?_
    refine xi_iconst (pc' := 754) (v := 1) kc_195_753 rfl rfl ?_
    refine xi_goto (pc' := 758) kc_195_754 rfl ?_
    obtain ⟨u67, u68, u69, u70, u71, u72, u73, u74, u75, u76, u77, u78, u79, bu67, bu68, bu69, bu70, bu71, bu72, bu73, bu74, bu75, bu76, bu77, bu78, bu79, A80⟩ := xq_115 K62.1
    refine xi_virtual (mj := 33) (as := [.int a2, .int 1]) (st1 := []) (lv0 := [(0, .ref 115), (1, .int a2), (2, .int 1)]) kc_195_758 rfl rfl rfl rfl rfl A80 (Nat.le_of_ble_eq_true rfl) (hJ _ _ _ _ (by decide)) (xm_le ml_33 rfl) rfl ?_
    have zc1 : (1 : Int32).toInt = 1 := by decide
    refine mt_33_0 hJ hov1 hov2 (d := 98) (x1 := a2) (x2 := 1) K62.1 (by first | omega | decide) (fun r81 hh82 br81 K83 => ?_)
    have K84 := xk_tr K62 K83 rfl
    obtain ⟨u85, u86, bu85, bu86, A87⟩ := xq_0 K84.1
    have e88 : u57 = u86 := xk_eqi (q := 9) K83 rfl A65 A87 rfl rfl
    subst e88
    obtain ⟨u89, u90, u91, u92, u93, u94, u95, u96, u97, u98, u99, u100, u101, bu89, bu90, bu91, bu92, bu93, bu94, bu95, bu96, bu97, bu98, bu99, bu100, bu101, A102⟩ := xq_115 K84.1
    have e103 : u68 = u90 := xk_eqi (q := 1) K83 rfl A80 A102 rfl rfl
    subst e103
    have e104 : u70 = u92 := xk_eqi (q := 18) K83 rfl A80 A102 rfl rfl
    subst e104
    show xw J ov 100 195 (761, [(4, .int x4), (3, .ref 167), (2, .ref 115), (1, .ref 0), (0, .ref 1000000)], [.int r81], hh82) _
    refine xi_pop (pc' := 762) kc_195_761 rfl rfl ?_
    refine xi_goto (pc' := 1501) kc_195_762 rfl ?_
    obtain ⟨v105, ev105⟩ : ∃ q : Int32, x4 + 6 = q := ⟨_, rfl⟩
    have zv105 : v105.toInt = (x4.toInt + 6) := by rw [← ev105]; exact (xz_add (X := x4.toInt) (Y := 6) rfl (by decide) (by omega) (by omega)).trans (by omega)
    refine xi_iinc (pc' := 1504) (x := x4) (v := v105) (lv' := [(4, .int v105), (3, .ref 167), (2, .ref 115), (1, .ref 0), (0, .ref 1000000)]) kc_195_1501 rfl rfl ev105 rfl (xm_lt ml_195 rfl) ?_
    refine xi_goto (pc' := 23) kc_195_1504 rfl ?_
    exact kk v105 hh82 (by omega) K84
set_option maxHeartbeats 8000000 in
theorem lc_13 {J : xe_J} {ov : List (List Int32)} (hJ : ∀ d mj as h, mj ≠ xe_loff → J d mj as h = none) (hov1 : ov[1]? = some [10, 0, 0, 0, 0, 0]) (hov2 : ov[2]? = some [99, 30, 50, 50, 1, 99999]) {xs : List Int32} (hov0 : ov[0]? = some xs) {Q : Option Value → xe_H → Prop} {h : xe_H} {x4 : Int32} (hi0 : 0 ≤ x4.toInt) (hi1 : x4.toInt + 6 ≤ xs.length) (hi2 : x4.toInt ≤ 3066) (T : xt h) (I : xI h) (kk : ∀ (i : Int32) (h' : xe_H), i.toInt = x4.toInt + 6 → xk [] h h' → xI h' → xw J ov 100 195 (23, [(4, .int i), (3, .ref 167), (2, .ref 115), (1, .ref 0), (0, .ref 1000000)], [], h') Q) : xw J ov 100 195 (765, [(4, .int x4), (3, .ref 167), (2, .ref 115), (1, .ref 0), (0, .ref 1000000)], [], h) Q := by
  have K : xk [] h h := xk_re T
  obtain ⟨u1, u2, bu1, bu2, A3⟩ := xq_0 K.1
  obtain ⟨u4, u5, u6, u7, u8, u9, u10, u11, u12, u13, u14, u15, u16, bu4, bu5, bu6, bu7, bu8, bu9, bu10, bu11, bu12, bu13, bu14, bu15, bu16, A17⟩ := xq_115 K.1
  have ee1 : u2 = u5 := xl_eqf I.2.1 A3 A17 rfl rfl
  subst ee1
  obtain ⟨u19, wl18, bu19, A20⟩ := xq_66 K.1
  have ee2 : u19 = u7 := xl_eqf I.2.2.1 A20 A17 rfl rfl
  subst ee2
  obtain ⟨y21, A21, hy21, ry21⟩ := xk_arr K.1 xD_71
  obtain ⟨y22, A22, hy22, ry22⟩ := xk_arr K.1 xD_132
  have ee3 : y21 = y22 := xl_eqa I.2.2.2 A21 A22
  subst ee3
  refine xi_aload_n (pc' := 766) (x := 0) kc_195_765 rfl rfl ?_
  refine xi_aload_n (pc' := 767) (x := 1000000) kc_195_766 rfl rfl ?_
  refine xi_iload (pc' := 769) (x := x4) kc_195_767 rfl rfl ?_
  refine xi_iconst (pc' := 770) (v := 1) kc_195_769 rfl rfl ?_
  obtain ⟨v23, ev23⟩ : ∃ q : Int32, x4 + 1 = q := ⟨_, rfl⟩
  have zv23 : v23.toInt = (x4.toInt + 1) := by rw [← ev23]; exact (xz_add (X := x4.toInt) (Y := 1) rfl (by decide) (by omega) (by omega)).trans (by omega)
  refine xi_iadd (pc' := 771) (v := v23) kc_195_770 rfl ev23 ?_
  obtain ⟨a24, ea24⟩ : ∃ q : Int32, xs.getD (Int32.toNatClampNeg v23) 0 = q := ⟨_, rfl⟩
  have ra24 := xc_rng a24
  refine xi_ialoadO (pc' := 772) (v := a24) kc_195_771 rfl (by decide) hov0 (xi_in (by omega) (by omega)) ea24 ?_
  refine xi_virtual (mj := 121) (as := [.int a24]) (st1 := []) (lv0 := [(0, .ref 0), (1, .int a24)]) kc_195_772 rfl rfl rfl rfl rfl A3 (Nat.le_of_ble_eq_true rfl) (hJ _ _ _ _ (by decide)) (xm_le ml_121 rfl) rfl ?_
  refine mt_121_0 hJ hov1 hov2 (d := 93) (x1 := a24) (u0 := u2) K.1 (by omega) (fun v e => by have e2 := xl_val (u := u2) A3 rfl e; subst e2; omega) (fun r25 hh26 br25 o28 K27 => ?_)
  have K29 := xk_tr K K27 rfl
  obtain ⟨u30, u31, u32, u33, u34, u35, u36, u37, u38, u39, u40, u41, u42, bu30, bu31, bu32, bu33, bu34, bu35, bu36, bu37, bu38, bu39, bu40, bu41, bu42, A43⟩ := xq_115 K29.1
  have e44 : u2 = u31 := xk_eqi (q := 1) K27 rfl A17 A43 rfl rfl
  subst e44
  have e45 : u19 = u33 := xk_eqi (q := 18) K27 rfl A17 A43 rfl rfl
  subst e45
  obtain ⟨u47, wl46, bu47, A48⟩ := xq_66 K29.1
  have e49 : u19 = u47 := xk_eqi (q := 8) K27 rfl A20 A48 rfl rfl
  subst e49
  have A50 := xk_eqa (q := 0) K27 rfl A21
  have A51 := xk_eqa (q := 0) K27 rfl A22
  obtain ⟨u52, u53, bu52, bu53, A54⟩ := xq_0 K29.1
  have o28' := o28 _ (xl_of A54 rfl)
  show xw J ov 100 195 (775, [(4, .int x4), (3, .ref 167), (2, .ref 115), (1, .ref 0), (0, .ref 1000000)], [.int r25], hh26) _
  refine xi_pop (pc' := 776) kc_195_775 rfl rfl ?_
  refine xi_aload_n (pc' := 777) (x := 115) kc_195_776 rfl rfl ?_
  refine xi_aload_n (pc' := 778) (x := 1000000) kc_195_777 rfl rfl ?_
  refine xi_iload (pc' := 780) (x := x4) kc_195_778 rfl rfl ?_
  refine xi_iconst (pc' := 781) (v := 1) kc_195_780 rfl rfl ?_
  refine xi_iadd (pc' := 782) (v := v23) kc_195_781 rfl ev23 ?_
  refine xi_ialoadO (pc' := 783) (v := a24) kc_195_782 rfl (by decide) hov0 (xi_in (by omega) (by omega)) ea24 ?_
  refine xi_virtual (mj := 34) (as := [.int a24]) (st1 := []) (lv0 := [(0, .ref 115), (1, .int a24)]) kc_195_783 rfl rfl rfl rfl rfl A43 (Nat.le_of_ble_eq_true rfl) (hJ _ _ _ _ (by decide)) (xm_le ml_34 rfl) rfl ?_
  refine mt_34_0 hJ hov1 hov2 (d := 93) (x1 := a24) (u0 := u2) K29.1 (by omega) (fun v e => by have e2 := xl_val (u := u2) A43 rfl e; subst e2; omega) (fun r55 hh56 br55 o58 K57 => ?_)
  have K59 := xk_tr K29 K57 rfl
  obtain ⟨u60, u61, u62, u63, u64, u65, u66, u67, u68, u69, u70, u71, u72, bu60, bu61, bu62, bu63, bu64, bu65, bu66, bu67, bu68, bu69, bu70, bu71, bu72, A73⟩ := xq_115 K59.1
  have e74 : u19 = u63 := xk_eqi (q := 18) K57 rfl A43 A73 rfl rfl
  subst e74
  obtain ⟨u76, wl75, bu76, A77⟩ := xq_66 K59.1
  have e78 : u19 = u76 := xk_eqi (q := 8) K57 rfl A48 A77 rfl rfl
  subst e78
  have A79 := xk_eqa (q := 0) K57 rfl A50
  have A80 := xk_eqa (q := 0) K57 rfl A51
  obtain ⟨u81, u82, bu81, bu82, A83⟩ := xq_0 K59.1
  have e84 : u53 = u82 := xk_eqi (q := 9) K57 rfl A54 A83 rfl rfl
  subst e84
  have o58' := o58 _ (xl_of A73 rfl)
  show xw J ov 100 195 (786, [(4, .int x4), (3, .ref 167), (2, .ref 115), (1, .ref 0), (0, .ref 1000000)], [.int r55], hh56) _
  refine xi_pop (pc' := 787) kc_195_786 rfl rfl ?_
  refine xi_goto (pc' := 1501) kc_195_787 rfl ?_
  obtain ⟨v85, ev85⟩ : ∃ q : Int32, x4 + 6 = q := ⟨_, rfl⟩
  have zv85 : v85.toInt = (x4.toInt + 6) := by rw [← ev85]; exact (xz_add (X := x4.toInt) (Y := 6) rfl (by decide) (by omega) (by omega)).trans (by omega)
  refine xi_iinc (pc' := 1504) (x := x4) (v := v85) (lv' := [(4, .int v85), (3, .ref 167), (2, .ref 115), (1, .ref 0), (0, .ref 1000000)]) kc_195_1501 rfl rfl ev85 rfl (xm_lt ml_195 rfl) ?_
  refine xi_goto (pc' := 23) kc_195_1504 rfl ?_
  exact kk v85 hh56 (by omega) K59 ⟨(xGR_fr I.1 (xk_tr (xk_tr (xk_re (P := [(29, 0), (31, 0), (33, 0), (35, 0), (37, 0), (39, 0), (41, 0), (43, 0), (45, 0), (47, 0), (49, 0), (51, 0), (125, 0)]) T) K27 rfl) K57 rfl).2.1 rfl rfl), ((xl_of A83 rfl).trans ((congrArg (fun q : Int32 => some (Sum.inl (Value.int q))) (xc_of (by omega) : (u53 : Int32) = u61)).trans (xl_of A73 rfl).symm)), ((xl_of A77 rfl).trans (xl_of A73 rfl).symm), ((xl_arr A79).trans (xl_arr A80).symm)⟩
set_option maxHeartbeats 8000000 in
theorem lc_14 {J : xe_J} {ov : List (List Int32)} (hJ : ∀ d mj as h, mj ≠ xe_loff → J d mj as h = none) (hov1 : ov[1]? = some [10, 0, 0, 0, 0, 0]) (hov2 : ov[2]? = some [99, 30, 50, 50, 1, 99999]) {xs : List Int32} (hov0 : ov[0]? = some xs) (hoff : ∀ (v : Int32) (h : xe_H), xt h → h.length < xe_o → ∃ (r : Int32) (h' : xe_H), J 99 194 [.ref 0, .int v, .ref 167] h = some (some (.int r), h') ∧ xt h' ∧ (∀ l : Nat × Nat, List.elem l [(29, 0), (31, 0), (33, 0), (35, 0), (37, 0), (39, 0), (41, 0), (43, 0), (45, 0), (47, 0), (49, 0), (51, 0), (125, 0), (0, 9), (115, 1), (66, 8), (115, 18), (71, 0), (132, 0)] = true → xl h' l = xl h l) ∧ h'.length ≤ h.length + 1 ∧ xe_sz h' ≤ xe_sz h + 6) {Q : Option Value → xe_H → Prop} {h : xe_H} {x4 : Int32} (hi0 : 0 ≤ x4.toInt) (hi1 : x4.toInt + 6 ≤ xs.length) (hi2 : x4.toInt ≤ 3066) (T : xt h) (hn : h.length < xe_o) (kk : ∀ (i : Int32) (h' : xe_H), i.toInt = x4.toInt + 6 → xt h' → (∀ l : Nat × Nat, List.elem l [(29, 0), (31, 0), (33, 0), (35, 0), (37, 0), (39, 0), (41, 0), (43, 0), (45, 0), (47, 0), (49, 0), (51, 0), (125, 0), (0, 9), (115, 1), (66, 8), (115, 18), (71, 0), (132, 0)] = true → xl h' l = xl h l) → h'.length ≤ h.length + 1 → xe_sz h' ≤ xe_sz h + 6 → xw J ov 100 195 (23, [(4, .int i), (3, .ref 167), (2, .ref 115), (1, .ref 0), (0, .ref 1000000)], [], h') Q) : xw J ov 100 195 (790, [(4, .int x4), (3, .ref 167), (2, .ref 115), (1, .ref 0), (0, .ref 1000000)], [], h) Q := by
  have K : xk [(29, 0), (31, 0), (33, 0), (35, 0), (37, 0), (39, 0), (41, 0), (43, 0), (45, 0), (47, 0), (49, 0), (51, 0), (125, 0), (0, 9), (115, 1), (66, 8), (115, 18), (71, 0), (132, 0)] h h := xk_re T
  refine xi_aload_n (pc' := 791) (x := 0) kc_195_790 rfl rfl ?_
  refine xi_aload_n (pc' := 792) (x := 1000000) kc_195_791 rfl rfl ?_
  refine xi_iload (pc' := 794) (x := x4) kc_195_792 rfl rfl ?_
  refine xi_iconst (pc' := 795) (v := 1) kc_195_794 rfl rfl ?_
  obtain ⟨v1, ev1⟩ : ∃ q : Int32, x4 + 1 = q := ⟨_, rfl⟩
  have zv1 : v1.toInt = (x4.toInt + 1) := by rw [← ev1]; exact (xz_add (X := x4.toInt) (Y := 1) rfl (by decide) (by omega) (by omega)).trans (by omega)
  refine xi_iadd (pc' := 796) (v := v1) kc_195_795 rfl ev1 ?_
  obtain ⟨a2, ea2⟩ : ∃ q : Int32, xs.getD (Int32.toNatClampNeg v1) 0 = q := ⟨_, rfl⟩
  have ra2 := xc_rng a2
  refine xi_ialoadO (pc' := 797) (v := a2) kc_195_796 rfl (by decide) hov0 (xi_in (by omega) (by omega)) ea2 ?_
  refine xi_aload_n (pc' := 798) (x := 167) kc_195_797 rfl rfl ?_
  obtain ⟨r9, h9, j9, T9, f9, l9, z9⟩ := hoff a2 h T hn
  refine xi_staticJ (mj := 194) (as := [.ref 0, .int a2, .ref 167]) (st1 := []) (r := some (.int r9)) (h' := h9) kc_195_798 rfl rfl (Nat.le_of_ble_eq_true rfl) rfl rfl (Nat.le_of_ble_eq_true rfl) j9 ?_
  have K9 : xk [(29, 0), (31, 0), (33, 0), (35, 0), (37, 0), (39, 0), (41, 0), (43, 0), (45, 0), (47, 0), (49, 0), (51, 0), (125, 0), (0, 9), (115, 1), (66, 8), (115, 18), (71, 0), (132, 0)] h9 h9 := xk_re T9
  have rr9 := xc_rng r9
  show xw J ov 100 195 (801, [(4, .int x4), (3, .ref 167), (2, .ref 115), (1, .ref 0), (0, .ref 1000000)], [.int r9], h9) _
  refine xi_istore (pc' := 803) (lv' := [(5, .int r9), (4, .int x4), (3, .ref 167), (2, .ref 115), (1, .ref 0), (0, .ref 1000000)]) kc_195_801 rfl rfl (xm_lt ml_195 rfl) ?_
  refine xi_aload_n (pc' := 804) (x := 115) kc_195_803 rfl rfl ?_
  refine xi_aload_n (pc' := 805) (x := 1000000) kc_195_804 rfl rfl ?_
  refine xi_iload (pc' := 807) (x := x4) kc_195_805 rfl rfl ?_
  refine xi_iconst (pc' := 808) (v := 1) kc_195_807 rfl rfl ?_
  refine xi_iadd (pc' := 809) (v := v1) kc_195_808 rfl ev1 ?_
  refine xi_ialoadO (pc' := 810) (v := a2) kc_195_809 rfl (by decide) hov0 (xi_in (by omega) (by omega)) ea2 ?_
  obtain ⟨u101, u102, u103, u104, u105, u106, u107, u108, u109, u110, u111, u112, u113, bu101, bu102, bu103, bu104, bu105, bu106, bu107, bu108, bu109, bu110, bu111, bu112, bu113, A114⟩ := xq_115 K9.1
  refine xi_virtual (mj := 41) (as := [.int a2]) (st1 := []) (lv0 := [(0, .ref 115), (1, .int a2)]) kc_195_810 rfl rfl rfl rfl rfl A114 (Nat.le_of_ble_eq_true rfl) (hJ _ _ _ _ (by decide)) (xm_le ml_41 rfl) rfl ?_
  refine mt_41_0 hJ hov1 hov2 (d := 92) (x1 := a2) K9.1 (fun r115 hh116 K117 => ?_)
  have K118 := xk_tr K9 K117 rfl
  obtain ⟨u119, u120, u121, u122, u123, u124, u125, u126, u127, u128, u129, u130, u131, bu119, bu120, bu121, bu122, bu123, bu124, bu125, bu126, bu127, bu128, bu129, bu130, bu131, A132⟩ := xq_115 K118.1
  have e133 : u102 = u120 := xk_eqi (q := 1) K117 rfl A114 A132 rfl rfl
  subst e133
  have e134 : u104 = u122 := xk_eqi (q := 18) K117 rfl A114 A132 rfl rfl
  subst e134
  show xw J ov 100 195 (813, [(5, .int r9), (4, .int x4), (3, .ref 167), (2, .ref 115), (1, .ref 0), (0, .ref 1000000)], [.long r115], hh116) _
  refine xi_lstore (pc' := 815) (lv' := [(6, .long r115), (5, .int r9), (4, .int x4), (3, .ref 167), (2, .ref 115), (1, .ref 0), (0, .ref 1000000)]) kc_195_813 rfl rfl (xm_lt ml_195 rfl) ?_
  refine xi_goto (pc' := 1501) kc_195_815 rfl ?_
  obtain ⟨v135, ev135⟩ : ∃ q : Int32, x4 + 6 = q := ⟨_, rfl⟩
  have zv135 : v135.toInt = (x4.toInt + 6) := by rw [← ev135]; exact (xz_add (X := x4.toInt) (Y := 6) rfl (by decide) (by omega) (by omega)).trans (by omega)
  refine xi_iinc (pc' := 1504) (x := x4) (v := v135) (lv' := [(4, .int v135), (6, .long r115), (5, .int r9), (3, .ref 167), (2, .ref 115), (1, .ref 0), (0, .ref 1000000)]) kc_195_1501 rfl rfl ev135 rfl (xm_lt ml_195 rfl) ?_
  refine xi_goto (pc' := 23) kc_195_1504 rfl ?_
  refine xw_lv (b := [(4, .int v135), (3, .ref 167), (2, .ref 115), (1, .ref 0), (0, .ref 1000000)]) (lvS_cons (lvS_cons (lvS_cons (lvS_cons (lvS_cons (lvS_nil (show ([4, 6, 5, 3, 2, 1, 0] : List Nat).Nodup by decide)) rfl) rfl) rfl) rfl) rfl) ?_
  exact kk v135 hh116 (by omega) K118.1 (fun l hl => (K118.2.1 l hl).trans (f9 l hl)) (by rw [K118.2.2.1]; exact l9) (by rw [K118.2.2.2]; exact z9)
set_option maxHeartbeats 8000000 in
theorem lc_15 {J : xe_J} {ov : List (List Int32)} (hJ : ∀ d mj as h, mj ≠ xe_loff → J d mj as h = none) (hov1 : ov[1]? = some [10, 0, 0, 0, 0, 0]) (hov2 : ov[2]? = some [99, 30, 50, 50, 1, 99999]) {xs : List Int32} (hov0 : ov[0]? = some xs) {Q : Option Value → xe_H → Prop} {h : xe_H} {x4 : Int32} (hi0 : 0 ≤ x4.toInt) (hi1 : x4.toInt + 6 ≤ xs.length) (hi2 : x4.toInt ≤ 3066) (T : xt h) (kk : ∀ (i : Int32) (h' : xe_H), i.toInt = x4.toInt + 6 → xk [(29, 0), (31, 0), (33, 0), (35, 0), (37, 0), (39, 0), (41, 0), (43, 0), (45, 0), (47, 0), (49, 0), (51, 0), (125, 0), (0, 9), (115, 1), (66, 8), (115, 18), (71, 0), (132, 0)] h h' → xw J ov 100 195 (23, [(4, .int i), (3, .ref 167), (2, .ref 115), (1, .ref 0), (0, .ref 1000000)], [], h') Q) : xw J ov 100 195 (818, [(4, .int x4), (3, .ref 167), (2, .ref 115), (1, .ref 0), (0, .ref 1000000)], [], h) Q := by
  have K : xk [(29, 0), (31, 0), (33, 0), (35, 0), (37, 0), (39, 0), (41, 0), (43, 0), (45, 0), (47, 0), (49, 0), (51, 0), (125, 0), (0, 9), (115, 1), (66, 8), (115, 18), (71, 0), (132, 0)] h h := xk_re T
  refine xi_aload_n (pc' := 819) (x := 0) kc_195_818 rfl rfl ?_
  refine xi_aload_n (pc' := 820) (x := 1000000) kc_195_819 rfl rfl ?_
  refine xi_iload (pc' := 822) (x := x4) kc_195_820 rfl rfl ?_
  refine xi_iconst (pc' := 823) (v := 1) kc_195_822 rfl rfl ?_
  obtain ⟨v1, ev1⟩ : ∃ q : Int32, x4 + 1 = q := ⟨_, rfl⟩
  have zv1 : v1.toInt = (x4.toInt + 1) := by rw [← ev1]; exact (xz_add (X := x4.toInt) (Y := 1) rfl (by decide) (by omega) (by omega)).trans (by omega)
  refine xi_iadd (pc' := 824) (v := v1) kc_195_823 rfl ev1 ?_
  obtain ⟨a2, ea2⟩ : ∃ q : Int32, xs.getD (Int32.toNatClampNeg v1) 0 = q := ⟨_, rfl⟩
  have ra2 := xc_rng a2
  refine xi_ialoadO (pc' := 825) (v := a2) kc_195_824 rfl (by decide) hov0 (xi_in (by omega) (by omega)) ea2 ?_
  refine xi_aload_n (pc' := 826) (x := 1000000) kc_195_825 rfl rfl ?_
  refine xi_iload (pc' := 828) (x := x4) kc_195_826 rfl rfl ?_
  refine xi_iconst (pc' := 829) (v := 2) kc_195_828 rfl rfl ?_
  obtain ⟨v3, ev3⟩ : ∃ q : Int32, x4 + 2 = q := ⟨_, rfl⟩
  have zv3 : v3.toInt = (x4.toInt + 2) := by rw [← ev3]; exact (xz_add (X := x4.toInt) (Y := 2) rfl (by decide) (by omega) (by omega)).trans (by omega)
  refine xi_iadd (pc' := 830) (v := v3) kc_195_829 rfl ev3 ?_
  obtain ⟨a4, ea4⟩ : ∃ q : Int32, xs.getD (Int32.toNatClampNeg v3) 0 = q := ⟨_, rfl⟩
  have ra4 := xc_rng a4
  refine xi_ialoadO (pc' := 831) (v := a4) kc_195_830 rfl (by decide) hov0 (xi_in (by omega) (by omega)) ea4 ?_
  obtain ⟨u5, u6, bu5, bu6, A7⟩ := xq_0 K.1
  refine xi_virtual (mj := 137) (as := [.int a2, .int a4]) (st1 := []) (lv0 := [(0, .ref 0), (1, .int a2), (2, .int a4)]) kc_195_831 rfl rfl rfl rfl rfl A7 (Nat.le_of_ble_eq_true rfl) (hJ _ _ _ _ (by decide)) (xm_le ml_137 rfl) rfl ?_
  refine mt_137_0 hJ hov1 hov2 (d := 93) (x1 := a2) (x2 := a4) K.1 (fun r8 hh9 K10 => ?_)
  have br8 := xc_rng r8
  have K11 := xk_tr K K10 rfl
  obtain ⟨u12, u13, bu12, bu13, A14⟩ := xq_0 K11.1
  have e15 : u6 = u13 := xk_eqi (q := 9) K10 rfl A7 A14 rfl rfl
  subst e15
  show xw J ov 100 195 (834, [(4, .int x4), (3, .ref 167), (2, .ref 115), (1, .ref 0), (0, .ref 1000000)], [.int r8], hh9) _
  refine xi_pop (pc' := 835) kc_195_834 rfl rfl ?_
  refine xi_aload_n (pc' := 836) (x := 115) kc_195_835 rfl rfl ?_
  refine xi_aload_n (pc' := 837) (x := 1000000) kc_195_836 rfl rfl ?_
  refine xi_iload (pc' := 839) (x := x4) kc_195_837 rfl rfl ?_
  refine xi_iconst (pc' := 840) (v := 1) kc_195_839 rfl rfl ?_
  refine xi_iadd (pc' := 841) (v := v1) kc_195_840 rfl ev1 ?_
  refine xi_ialoadO (pc' := 842) (v := a2) kc_195_841 rfl (by decide) hov0 (xi_in (by omega) (by omega)) ea2 ?_
  refine xi_aload_n (pc' := 843) (x := 1000000) kc_195_842 rfl rfl ?_
  refine xi_iload (pc' := 845) (x := x4) kc_195_843 rfl rfl ?_
  refine xi_iconst (pc' := 846) (v := 2) kc_195_845 rfl rfl ?_
  refine xi_iadd (pc' := 847) (v := v3) kc_195_846 rfl ev3 ?_
  refine xi_ialoadO (pc' := 848) (v := a4) kc_195_847 rfl (by decide) hov0 (xi_in (by omega) (by omega)) ea4 ?_
  obtain ⟨u16, u17, u18, u19, u20, u21, u22, u23, u24, u25, u26, u27, u28, bu16, bu17, bu18, bu19, bu20, bu21, bu22, bu23, bu24, bu25, bu26, bu27, bu28, A29⟩ := xq_115 K11.1
  refine xi_virtual (mj := 46) (as := [.int a2, .int a4]) (st1 := []) (lv0 := [(0, .ref 115), (1, .int a2), (2, .int a4)]) kc_195_848 rfl rfl rfl rfl rfl A29 (Nat.le_of_ble_eq_true rfl) (hJ _ _ _ _ (by decide)) (xm_le ml_46 rfl) rfl ?_
  refine mt_46_0 hJ hov1 hov2 (d := 93) (x1 := a2) (x2 := a4) K11.1 (fun r30 hh31 K32 => ?_)
  have br30 := xc_rng r30
  have K33 := xk_tr K11 K32 rfl
  obtain ⟨u34, u35, bu34, bu35, A36⟩ := xq_0 K33.1
  have e37 : u6 = u35 := xk_eqi (q := 9) K32 rfl A14 A36 rfl rfl
  subst e37
  obtain ⟨u38, u39, u40, u41, u42, u43, u44, u45, u46, u47, u48, u49, u50, bu38, bu39, bu40, bu41, bu42, bu43, bu44, bu45, bu46, bu47, bu48, bu49, bu50, A51⟩ := xq_115 K33.1
  have e52 : u17 = u39 := xk_eqi (q := 1) K32 rfl A29 A51 rfl rfl
  subst e52
  have e53 : u19 = u41 := xk_eqi (q := 18) K32 rfl A29 A51 rfl rfl
  subst e53
  show xw J ov 100 195 (851, [(4, .int x4), (3, .ref 167), (2, .ref 115), (1, .ref 0), (0, .ref 1000000)], [.int r30], hh31) _
  refine xi_pop (pc' := 852) kc_195_851 rfl rfl ?_
  refine xi_goto (pc' := 1501) kc_195_852 rfl ?_
  obtain ⟨v54, ev54⟩ : ∃ q : Int32, x4 + 6 = q := ⟨_, rfl⟩
  have zv54 : v54.toInt = (x4.toInt + 6) := by rw [← ev54]; exact (xz_add (X := x4.toInt) (Y := 6) rfl (by decide) (by omega) (by omega)).trans (by omega)
  refine xi_iinc (pc' := 1504) (x := x4) (v := v54) (lv' := [(4, .int v54), (3, .ref 167), (2, .ref 115), (1, .ref 0), (0, .ref 1000000)]) kc_195_1501 rfl rfl ev54 rfl (xm_lt ml_195 rfl) ?_
  refine xi_goto (pc' := 23) kc_195_1504 rfl ?_
  exact kk v54 hh31 (by omega) K33
set_option maxHeartbeats 8000000 in
theorem lc_16 {J : xe_J} {ov : List (List Int32)} (hJ : ∀ d mj as h, mj ≠ xe_loff → J d mj as h = none) (hov1 : ov[1]? = some [10, 0, 0, 0, 0, 0]) (hov2 : ov[2]? = some [99, 30, 50, 50, 1, 99999]) {xs : List Int32} (hov0 : ov[0]? = some xs) {Q : Option Value → xe_H → Prop} {h : xe_H} {x4 : Int32} (hi0 : 0 ≤ x4.toInt) (hi1 : x4.toInt + 6 ≤ xs.length) (hi2 : x4.toInt ≤ 3066) (T : xt h) (kk : ∀ (i : Int32) (h' : xe_H), i.toInt = x4.toInt + 6 → xk [(29, 0), (31, 0), (33, 0), (35, 0), (37, 0), (39, 0), (41, 0), (43, 0), (45, 0), (47, 0), (49, 0), (51, 0), (125, 0), (0, 9), (115, 1), (66, 8), (115, 18), (71, 0), (132, 0)] h h' → xw J ov 100 195 (23, [(4, .int i), (3, .ref 167), (2, .ref 115), (1, .ref 0), (0, .ref 1000000)], [], h') Q) : xw J ov 100 195 (855, [(4, .int x4), (3, .ref 167), (2, .ref 115), (1, .ref 0), (0, .ref 1000000)], [], h) Q := by
  have K : xk [(29, 0), (31, 0), (33, 0), (35, 0), (37, 0), (39, 0), (41, 0), (43, 0), (45, 0), (47, 0), (49, 0), (51, 0), (125, 0), (0, 9), (115, 1), (66, 8), (115, 18), (71, 0), (132, 0)] h h := xk_re T
  refine xi_aload_n (pc' := 856) (x := 0) kc_195_855 rfl rfl ?_
  obtain ⟨u1, u2, bu1, bu2, A3⟩ := xq_0 K.1
  refine xi_virtual (mj := 144) (as := []) (st1 := []) (lv0 := [(0, .ref 0)]) kc_195_856 rfl rfl rfl rfl rfl A3 (Nat.le_of_ble_eq_true rfl) (hJ _ _ _ _ (by decide)) (xm_le ml_144 rfl) rfl ?_
  refine mt_144_0 hJ hov1 hov2 (d := 92)  K.1 (fun r4 hh5 br4 K6 => ?_)
  have K7 := xk_tr K K6 rfl
  obtain ⟨u8, u9, bu8, bu9, A10⟩ := xq_0 K7.1
  have e11 : u2 = u9 := xk_eqi (q := 9) K6 rfl A3 A10 rfl rfl
  subst e11
  show xw J ov 100 195 (859, [(4, .int x4), (3, .ref 167), (2, .ref 115), (1, .ref 0), (0, .ref 1000000)], [.int r4], hh5) _
  refine xi_pop (pc' := 860) kc_195_859 rfl rfl ?_
  refine xi_aload_n (pc' := 861) (x := 115) kc_195_860 rfl rfl ?_
  obtain ⟨u12, u13, u14, u15, u16, u17, u18, u19, u20, u21, u22, u23, u24, bu12, bu13, bu14, bu15, bu16, bu17, bu18, bu19, bu20, bu21, bu22, bu23, bu24, A25⟩ := xq_115 K7.1
  refine xi_virtual (mj := 47) (as := []) (st1 := []) (lv0 := [(0, .ref 115)]) kc_195_861 rfl rfl rfl rfl rfl A25 (Nat.le_of_ble_eq_true rfl) (hJ _ _ _ _ (by decide)) (xm_le ml_47 rfl) rfl ?_
  refine mt_47_0 hJ hov1 hov2 (d := 91)  K7.1 (fun r26 hh27 br26 K28 => ?_)
  have K29 := xk_tr K7 K28 rfl
  obtain ⟨u30, u31, bu30, bu31, A32⟩ := xq_0 K29.1
  have e33 : u2 = u31 := xk_eqi (q := 9) K28 rfl A10 A32 rfl rfl
  subst e33
  obtain ⟨u34, u35, u36, u37, u38, u39, u40, u41, u42, u43, u44, u45, u46, bu34, bu35, bu36, bu37, bu38, bu39, bu40, bu41, bu42, bu43, bu44, bu45, bu46, A47⟩ := xq_115 K29.1
  have e48 : u13 = u35 := xk_eqi (q := 1) K28 rfl A25 A47 rfl rfl
  subst e48
  have e49 : u15 = u37 := xk_eqi (q := 18) K28 rfl A25 A47 rfl rfl
  subst e49
  show xw J ov 100 195 (864, [(4, .int x4), (3, .ref 167), (2, .ref 115), (1, .ref 0), (0, .ref 1000000)], [.int r26], hh27) _
  refine xi_pop (pc' := 865) kc_195_864 rfl rfl ?_
  refine xi_goto (pc' := 1501) kc_195_865 rfl ?_
  obtain ⟨v50, ev50⟩ : ∃ q : Int32, x4 + 6 = q := ⟨_, rfl⟩
  have zv50 : v50.toInt = (x4.toInt + 6) := by rw [← ev50]; exact (xz_add (X := x4.toInt) (Y := 6) rfl (by decide) (by omega) (by omega)).trans (by omega)
  refine xi_iinc (pc' := 1504) (x := x4) (v := v50) (lv' := [(4, .int v50), (3, .ref 167), (2, .ref 115), (1, .ref 0), (0, .ref 1000000)]) kc_195_1501 rfl rfl ev50 rfl (xm_lt ml_195 rfl) ?_
  refine xi_goto (pc' := 23) kc_195_1504 rfl ?_
  exact kk v50 hh27 (by omega) K29
set_option maxHeartbeats 8000000 in
theorem lc_17 {J : xe_J} {ov : List (List Int32)} (hJ : ∀ d mj as h, mj ≠ xe_loff → J d mj as h = none) (hov1 : ov[1]? = some [10, 0, 0, 0, 0, 0]) (hov2 : ov[2]? = some [99, 30, 50, 50, 1, 99999]) {xs : List Int32} (hov0 : ov[0]? = some xs) {Q : Option Value → xe_H → Prop} {h : xe_H} {x4 : Int32} (hi0 : 0 ≤ x4.toInt) (hi1 : x4.toInt + 6 ≤ xs.length) (hi2 : x4.toInt ≤ 3066) (T : xt h) (kk : ∀ (i : Int32) (h' : xe_H), i.toInt = x4.toInt + 6 → xk [(29, 0), (31, 0), (33, 0), (35, 0), (37, 0), (39, 0), (41, 0), (43, 0), (45, 0), (47, 0), (49, 0), (51, 0), (125, 0), (0, 9), (115, 1), (66, 8), (115, 18), (71, 0), (132, 0)] h h' → xw J ov 100 195 (23, [(4, .int i), (3, .ref 167), (2, .ref 115), (1, .ref 0), (0, .ref 1000000)], [], h') Q) : xw J ov 100 195 (868, [(4, .int x4), (3, .ref 167), (2, .ref 115), (1, .ref 0), (0, .ref 1000000)], [], h) Q := by
  have K : xk [(29, 0), (31, 0), (33, 0), (35, 0), (37, 0), (39, 0), (41, 0), (43, 0), (45, 0), (47, 0), (49, 0), (51, 0), (125, 0), (0, 9), (115, 1), (66, 8), (115, 18), (71, 0), (132, 0)] h h := xk_re T
  refine xi_aload_n (pc' := 869) (x := 0) kc_195_868 rfl rfl ?_
  refine xi_aload_n (pc' := 870) (x := 1000000) kc_195_869 rfl rfl ?_
  refine xi_iload (pc' := 872) (x := x4) kc_195_870 rfl rfl ?_
  refine xi_iconst (pc' := 873) (v := 1) kc_195_872 rfl rfl ?_
  obtain ⟨v1, ev1⟩ : ∃ q : Int32, x4 + 1 = q := ⟨_, rfl⟩
  have zv1 : v1.toInt = (x4.toInt + 1) := by rw [← ev1]; exact (xz_add (X := x4.toInt) (Y := 1) rfl (by decide) (by omega) (by omega)).trans (by omega)
  refine xi_iadd (pc' := 874) (v := v1) kc_195_873 rfl ev1 ?_
  obtain ⟨a2, ea2⟩ : ∃ q : Int32, xs.getD (Int32.toNatClampNeg v1) 0 = q := ⟨_, rfl⟩
  have ra2 := xc_rng a2
  refine xi_ialoadO (pc' := 875) (v := a2) kc_195_874 rfl (by decide) hov0 (xi_in (by omega) (by omega)) ea2 ?_
  obtain ⟨u3, u4, bu3, bu4, A5⟩ := xq_0 K.1
  refine xi_virtual (mj := 148) (as := [.int a2]) (st1 := []) (lv0 := [(0, .ref 0), (1, .int a2)]) kc_195_875 rfl rfl rfl rfl rfl A5 (Nat.le_of_ble_eq_true rfl) (hJ _ _ _ _ (by decide)) (xm_le ml_148 rfl) rfl ?_
  refine mt_148_0 hJ hov1 hov2 (d := 92) (x1 := a2) K.1 (fun r6 hh7 K8 => ?_)
  have br6 := xc_rng r6
  have K9 := xk_tr K K8 rfl
  obtain ⟨u10, u11, bu10, bu11, A12⟩ := xq_0 K9.1
  have e13 : u4 = u11 := xk_eqi (q := 9) K8 rfl A5 A12 rfl rfl
  subst e13
  show xw J ov 100 195 (878, [(4, .int x4), (3, .ref 167), (2, .ref 115), (1, .ref 0), (0, .ref 1000000)], [.int r6], hh7) _
  refine xi_pop (pc' := 879) kc_195_878 rfl rfl ?_
  refine xi_aload_n (pc' := 880) (x := 115) kc_195_879 rfl rfl ?_
  refine xi_aload_n (pc' := 881) (x := 1000000) kc_195_880 rfl rfl ?_
  refine xi_iload (pc' := 883) (x := x4) kc_195_881 rfl rfl ?_
  refine xi_iconst (pc' := 884) (v := 1) kc_195_883 rfl rfl ?_
  refine xi_iadd (pc' := 885) (v := v1) kc_195_884 rfl ev1 ?_
  refine xi_ialoadO (pc' := 886) (v := a2) kc_195_885 rfl (by decide) hov0 (xi_in (by omega) (by omega)) ea2 ?_
  obtain ⟨u14, u15, u16, u17, u18, u19, u20, u21, u22, u23, u24, u25, u26, bu14, bu15, bu16, bu17, bu18, bu19, bu20, bu21, bu22, bu23, bu24, bu25, bu26, A27⟩ := xq_115 K9.1
  refine xi_virtual (mj := 50) (as := [.int a2]) (st1 := []) (lv0 := [(0, .ref 115), (1, .int a2)]) kc_195_886 rfl rfl rfl rfl rfl A27 (Nat.le_of_ble_eq_true rfl) (hJ _ _ _ _ (by decide)) (xm_le ml_50 rfl) rfl ?_
  refine mt_50_0 hJ hov1 hov2 (d := 92) (x1 := a2) K9.1 (fun r28 hh29 K30 => ?_)
  have br28 := xc_rng r28
  have K31 := xk_tr K9 K30 rfl
  obtain ⟨u32, u33, bu32, bu33, A34⟩ := xq_0 K31.1
  have e35 : u4 = u33 := xk_eqi (q := 9) K30 rfl A12 A34 rfl rfl
  subst e35
  obtain ⟨u36, u37, u38, u39, u40, u41, u42, u43, u44, u45, u46, u47, u48, bu36, bu37, bu38, bu39, bu40, bu41, bu42, bu43, bu44, bu45, bu46, bu47, bu48, A49⟩ := xq_115 K31.1
  have e50 : u15 = u37 := xk_eqi (q := 1) K30 rfl A27 A49 rfl rfl
  subst e50
  have e51 : u17 = u39 := xk_eqi (q := 18) K30 rfl A27 A49 rfl rfl
  subst e51
  show xw J ov 100 195 (889, [(4, .int x4), (3, .ref 167), (2, .ref 115), (1, .ref 0), (0, .ref 1000000)], [.int r28], hh29) _
  refine xi_pop (pc' := 890) kc_195_889 rfl rfl ?_
  refine xi_goto (pc' := 1501) kc_195_890 rfl ?_
  obtain ⟨v52, ev52⟩ : ∃ q : Int32, x4 + 6 = q := ⟨_, rfl⟩
  have zv52 : v52.toInt = (x4.toInt + 6) := by rw [← ev52]; exact (xz_add (X := x4.toInt) (Y := 6) rfl (by decide) (by omega) (by omega)).trans (by omega)
  refine xi_iinc (pc' := 1504) (x := x4) (v := v52) (lv' := [(4, .int v52), (3, .ref 167), (2, .ref 115), (1, .ref 0), (0, .ref 1000000)]) kc_195_1501 rfl rfl ev52 rfl (xm_lt ml_195 rfl) ?_
  refine xi_goto (pc' := 23) kc_195_1504 rfl ?_
  exact kk v52 hh29 (by omega) K31
set_option maxHeartbeats 8000000 in
theorem lc_18 {J : xe_J} {ov : List (List Int32)} (hJ : ∀ d mj as h, mj ≠ xe_loff → J d mj as h = none) (hov1 : ov[1]? = some [10, 0, 0, 0, 0, 0]) (hov2 : ov[2]? = some [99, 30, 50, 50, 1, 99999]) {xs : List Int32} (hov0 : ov[0]? = some xs) {Q : Option Value → xe_H → Prop} {h : xe_H} {x4 : Int32} (hi0 : 0 ≤ x4.toInt) (hi1 : x4.toInt + 6 ≤ xs.length) (hi2 : x4.toInt ≤ 3066) (T : xt h) (kk : ∀ (i : Int32) (h' : xe_H), i.toInt = x4.toInt + 6 → xk [(29, 0), (31, 0), (33, 0), (35, 0), (37, 0), (39, 0), (41, 0), (43, 0), (45, 0), (47, 0), (49, 0), (51, 0), (125, 0), (0, 9), (115, 1), (66, 8), (115, 18), (71, 0), (132, 0)] h h' → xw J ov 100 195 (23, [(4, .int i), (3, .ref 167), (2, .ref 115), (1, .ref 0), (0, .ref 1000000)], [], h') Q) : xw J ov 100 195 (893, [(4, .int x4), (3, .ref 167), (2, .ref 115), (1, .ref 0), (0, .ref 1000000)], [], h) Q := by
  have K : xk [(29, 0), (31, 0), (33, 0), (35, 0), (37, 0), (39, 0), (41, 0), (43, 0), (45, 0), (47, 0), (49, 0), (51, 0), (125, 0), (0, 9), (115, 1), (66, 8), (115, 18), (71, 0), (132, 0)] h h := xk_re T
  refine xi_aload_n (pc' := 894) (x := 0) kc_195_893 rfl rfl ?_
  obtain ⟨u1, u2, bu1, bu2, A3⟩ := xq_0 K.1
  refine xi_virtual (mj := 151) (as := []) (st1 := []) (lv0 := [(0, .ref 0)]) kc_195_894 rfl rfl rfl rfl rfl A3 (Nat.le_of_ble_eq_true rfl) (hJ _ _ _ _ (by decide)) (xm_le ml_151 rfl) rfl ?_
  refine mt_151_0 hJ hov1 hov2 (d := 91)  K.1 (fun r4 hh5 K6 => ?_)
  have br4 := xc_rng r4
  have K7 := xk_tr K K6 rfl
  obtain ⟨u8, u9, bu8, bu9, A10⟩ := xq_0 K7.1
  have e11 : u2 = u9 := xk_eqi (q := 9) K6 rfl A3 A10 rfl rfl
  subst e11
  show xw J ov 100 195 (897, [(4, .int x4), (3, .ref 167), (2, .ref 115), (1, .ref 0), (0, .ref 1000000)], [.int r4], hh5) _
  refine xi_pop (pc' := 898) kc_195_897 rfl rfl ?_
  refine xi_aload_n (pc' := 899) (x := 115) kc_195_898 rfl rfl ?_
  obtain ⟨u12, u13, u14, u15, u16, u17, u18, u19, u20, u21, u22, u23, u24, bu12, bu13, bu14, bu15, bu16, bu17, bu18, bu19, bu20, bu21, bu22, bu23, bu24, A25⟩ := xq_115 K7.1
  refine xi_virtual (mj := 51) (as := []) (st1 := []) (lv0 := [(0, .ref 115)]) kc_195_899 rfl rfl rfl rfl rfl A25 (Nat.le_of_ble_eq_true rfl) (hJ _ _ _ _ (by decide)) (xm_le ml_51 rfl) rfl ?_
  refine mt_51_0 hJ hov1 hov2 (d := 91)  K7.1 (fun r26 hh27 K28 => ?_)
  have br26 := xc_rng r26
  have K29 := xk_tr K7 K28 rfl
  obtain ⟨u30, u31, bu30, bu31, A32⟩ := xq_0 K29.1
  have e33 : u2 = u31 := xk_eqi (q := 9) K28 rfl A10 A32 rfl rfl
  subst e33
  obtain ⟨u34, u35, u36, u37, u38, u39, u40, u41, u42, u43, u44, u45, u46, bu34, bu35, bu36, bu37, bu38, bu39, bu40, bu41, bu42, bu43, bu44, bu45, bu46, A47⟩ := xq_115 K29.1
  have e48 : u13 = u35 := xk_eqi (q := 1) K28 rfl A25 A47 rfl rfl
  subst e48
  have e49 : u15 = u37 := xk_eqi (q := 18) K28 rfl A25 A47 rfl rfl
  subst e49
  show xw J ov 100 195 (902, [(4, .int x4), (3, .ref 167), (2, .ref 115), (1, .ref 0), (0, .ref 1000000)], [.int r26], hh27) _
  refine xi_pop (pc' := 903) kc_195_902 rfl rfl ?_
  refine xi_goto (pc' := 1501) kc_195_903 rfl ?_
  obtain ⟨v50, ev50⟩ : ∃ q : Int32, x4 + 6 = q := ⟨_, rfl⟩
  have zv50 : v50.toInt = (x4.toInt + 6) := by rw [← ev50]; exact (xz_add (X := x4.toInt) (Y := 6) rfl (by decide) (by omega) (by omega)).trans (by omega)
  refine xi_iinc (pc' := 1504) (x := x4) (v := v50) (lv' := [(4, .int v50), (3, .ref 167), (2, .ref 115), (1, .ref 0), (0, .ref 1000000)]) kc_195_1501 rfl rfl ev50 rfl (xm_lt ml_195 rfl) ?_
  refine xi_goto (pc' := 23) kc_195_1504 rfl ?_
  exact kk v50 hh27 (by omega) K29
set_option maxHeartbeats 8000000 in
theorem lc_19 {J : xe_J} {ov : List (List Int32)} (hJ : ∀ d mj as h, mj ≠ xe_loff → J d mj as h = none) (hov1 : ov[1]? = some [10, 0, 0, 0, 0, 0]) (hov2 : ov[2]? = some [99, 30, 50, 50, 1, 99999]) {xs : List Int32} (hov0 : ov[0]? = some xs) {Q : Option Value → xe_H → Prop} {h : xe_H} {x4 : Int32} (hi0 : 0 ≤ x4.toInt) (hi1 : x4.toInt + 6 ≤ xs.length) (hi2 : x4.toInt ≤ 3066) (T : xt h) (kk : ∀ (i : Int32) (h' : xe_H), i.toInt = x4.toInt + 6 → xk [(29, 0), (31, 0), (33, 0), (35, 0), (37, 0), (39, 0), (41, 0), (43, 0), (45, 0), (47, 0), (49, 0), (51, 0), (125, 0), (0, 9), (115, 1), (66, 8), (115, 18), (71, 0), (132, 0)] h h' → xw J ov 100 195 (23, [(4, .int i), (3, .ref 167), (2, .ref 115), (1, .ref 0), (0, .ref 1000000)], [], h') Q) : xw J ov 100 195 (906, [(4, .int x4), (3, .ref 167), (2, .ref 115), (1, .ref 0), (0, .ref 1000000)], [], h) Q := by
  have K : xk [(29, 0), (31, 0), (33, 0), (35, 0), (37, 0), (39, 0), (41, 0), (43, 0), (45, 0), (47, 0), (49, 0), (51, 0), (125, 0), (0, 9), (115, 1), (66, 8), (115, 18), (71, 0), (132, 0)] h h := xk_re T
  refine xi_aload_n (pc' := 907) (x := 0) kc_195_906 rfl rfl ?_
  refine xi_aload_n (pc' := 908) (x := 1000000) kc_195_907 rfl rfl ?_
  refine xi_iload (pc' := 910) (x := x4) kc_195_908 rfl rfl ?_
  refine xi_iconst (pc' := 911) (v := 1) kc_195_910 rfl rfl ?_
  obtain ⟨v1, ev1⟩ : ∃ q : Int32, x4 + 1 = q := ⟨_, rfl⟩
  have zv1 : v1.toInt = (x4.toInt + 1) := by rw [← ev1]; exact (xz_add (X := x4.toInt) (Y := 1) rfl (by decide) (by omega) (by omega)).trans (by omega)
  refine xi_iadd (pc' := 912) (v := v1) kc_195_911 rfl ev1 ?_
  obtain ⟨a2, ea2⟩ : ∃ q : Int32, xs.getD (Int32.toNatClampNeg v1) 0 = q := ⟨_, rfl⟩
  have ra2 := xc_rng a2
  refine xi_ialoadO (pc' := 913) (v := a2) kc_195_912 rfl (by decide) hov0 (xi_in (by omega) (by omega)) ea2 ?_
  refine xi_aload_n (pc' := 914) (x := 1000000) kc_195_913 rfl rfl ?_
  refine xi_iload (pc' := 916) (x := x4) kc_195_914 rfl rfl ?_
  refine xi_iconst (pc' := 917) (v := 2) kc_195_916 rfl rfl ?_
  obtain ⟨v3, ev3⟩ : ∃ q : Int32, x4 + 2 = q := ⟨_, rfl⟩
  have zv3 : v3.toInt = (x4.toInt + 2) := by rw [← ev3]; exact (xz_add (X := x4.toInt) (Y := 2) rfl (by decide) (by omega) (by omega)).trans (by omega)
  refine xi_iadd (pc' := 918) (v := v3) kc_195_917 rfl ev3 ?_
  obtain ⟨a4, ea4⟩ : ∃ q : Int32, xs.getD (Int32.toNatClampNeg v3) 0 = q := ⟨_, rfl⟩
  have ra4 := xc_rng a4
  refine xi_ialoadO (pc' := 919) (v := a4) kc_195_918 rfl (by decide) hov0 (xi_in (by omega) (by omega)) ea4 ?_
  obtain ⟨u5, u6, bu5, bu6, A7⟩ := xq_0 K.1
  refine xi_virtual (mj := 155) (as := [.int a2, .int a4]) (st1 := []) (lv0 := [(0, .ref 0), (1, .int a2), (2, .int a4)]) kc_195_919 rfl rfl rfl rfl rfl A7 (Nat.le_of_ble_eq_true rfl) (hJ _ _ _ _ (by decide)) (xm_le ml_155 rfl) rfl ?_
  refine mt_155_0 hJ hov1 hov2 (d := 97) (x1 := a2) (x2 := a4) K.1 (fun r8 hh9 br8 K10 => ?_)
  have K11 := xk_tr K K10 rfl
  obtain ⟨u12, u13, bu12, bu13, A14⟩ := xq_0 K11.1
  have e15 : u6 = u13 := xk_eqi (q := 9) K10 rfl A7 A14 rfl rfl
  subst e15
  show xw J ov 100 195 (922, [(4, .int x4), (3, .ref 167), (2, .ref 115), (1, .ref 0), (0, .ref 1000000)], [.int r8], hh9) _
  refine xi_pop (pc' := 923) kc_195_922 rfl rfl ?_
  refine xi_aload_n (pc' := 924) (x := 115) kc_195_923 rfl rfl ?_
  refine xi_aload_n (pc' := 925) (x := 1000000) kc_195_924 rfl rfl ?_
  refine xi_iload (pc' := 927) (x := x4) kc_195_925 rfl rfl ?_
  refine xi_iconst (pc' := 928) (v := 1) kc_195_927 rfl rfl ?_
  refine xi_iadd (pc' := 929) (v := v1) kc_195_928 rfl ev1 ?_
  refine xi_ialoadO (pc' := 930) (v := a2) kc_195_929 rfl (by decide) hov0 (xi_in (by omega) (by omega)) ea2 ?_
  refine xi_aload_n (pc' := 931) (x := 1000000) kc_195_930 rfl rfl ?_
  refine xi_iload (pc' := 933) (x := x4) kc_195_931 rfl rfl ?_
  refine xi_iconst (pc' := 934) (v := 2) kc_195_933 rfl rfl ?_
  refine xi_iadd (pc' := 935) (v := v3) kc_195_934 rfl ev3 ?_
  refine xi_ialoadO (pc' := 936) (v := a4) kc_195_935 rfl (by decide) hov0 (xi_in (by omega) (by omega)) ea4 ?_
  obtain ⟨u16, u17, u18, u19, u20, u21, u22, u23, u24, u25, u26, u27, u28, bu16, bu17, bu18, bu19, bu20, bu21, bu22, bu23, bu24, bu25, bu26, bu27, bu28, A29⟩ := xq_115 K11.1
  refine xi_virtual (mj := 55) (as := [.int a2, .int a4]) (st1 := []) (lv0 := [(0, .ref 115), (1, .int a2), (2, .int a4)]) kc_195_936 rfl rfl rfl rfl rfl A29 (Nat.le_of_ble_eq_true rfl) (hJ _ _ _ _ (by decide)) (xm_le ml_55 rfl) rfl ?_
  refine mt_55_0 hJ hov1 hov2 (d := 98) (x1 := a2) (x2 := a4) K11.1 (fun r30 hh31 br30 K32 => ?_)
  have K33 := xk_tr K11 K32 rfl
  obtain ⟨u34, u35, bu34, bu35, A36⟩ := xq_0 K33.1
  have e37 : u6 = u35 := xk_eqi (q := 9) K32 rfl A14 A36 rfl rfl
  subst e37
  obtain ⟨u38, u39, u40, u41, u42, u43, u44, u45, u46, u47, u48, u49, u50, bu38, bu39, bu40, bu41, bu42, bu43, bu44, bu45, bu46, bu47, bu48, bu49, bu50, A51⟩ := xq_115 K33.1
  have e52 : u17 = u39 := xk_eqi (q := 1) K32 rfl A29 A51 rfl rfl
  subst e52
  have e53 : u19 = u41 := xk_eqi (q := 18) K32 rfl A29 A51 rfl rfl
  subst e53
  show xw J ov 100 195 (939, [(4, .int x4), (3, .ref 167), (2, .ref 115), (1, .ref 0), (0, .ref 1000000)], [.int r30], hh31) _
  refine xi_pop (pc' := 940) kc_195_939 rfl rfl ?_
  refine xi_goto (pc' := 1501) kc_195_940 rfl ?_
  obtain ⟨v54, ev54⟩ : ∃ q : Int32, x4 + 6 = q := ⟨_, rfl⟩
  have zv54 : v54.toInt = (x4.toInt + 6) := by rw [← ev54]; exact (xz_add (X := x4.toInt) (Y := 6) rfl (by decide) (by omega) (by omega)).trans (by omega)
  refine xi_iinc (pc' := 1504) (x := x4) (v := v54) (lv' := [(4, .int v54), (3, .ref 167), (2, .ref 115), (1, .ref 0), (0, .ref 1000000)]) kc_195_1501 rfl rfl ev54 rfl (xm_lt ml_195 rfl) ?_
  refine xi_goto (pc' := 23) kc_195_1504 rfl ?_
  exact kk v54 hh31 (by omega) K33
set_option maxHeartbeats 8000000 in
theorem lc_20 {J : xe_J} {ov : List (List Int32)} (hJ : ∀ d mj as h, mj ≠ xe_loff → J d mj as h = none) (hov1 : ov[1]? = some [10, 0, 0, 0, 0, 0]) (hov2 : ov[2]? = some [99, 30, 50, 50, 1, 99999]) {xs : List Int32} (hov0 : ov[0]? = some xs) {Q : Option Value → xe_H → Prop} {h : xe_H} {x4 : Int32} (hi0 : 0 ≤ x4.toInt) (hi1 : x4.toInt + 6 ≤ xs.length) (hi2 : x4.toInt ≤ 3066) (T : xt h) (kk : ∀ (i : Int32) (h' : xe_H), i.toInt = x4.toInt + 6 → xk [(29, 0), (31, 0), (33, 0), (35, 0), (37, 0), (39, 0), (41, 0), (43, 0), (45, 0), (47, 0), (49, 0), (51, 0), (125, 0), (0, 9), (115, 1), (66, 8), (115, 18), (71, 0), (132, 0)] h h' → xw J ov 100 195 (23, [(4, .int i), (3, .ref 167), (2, .ref 115), (1, .ref 0), (0, .ref 1000000)], [], h') Q) : xw J ov 100 195 (943, [(4, .int x4), (3, .ref 167), (2, .ref 115), (1, .ref 0), (0, .ref 1000000)], [], h) Q := by
  have K : xk [(29, 0), (31, 0), (33, 0), (35, 0), (37, 0), (39, 0), (41, 0), (43, 0), (45, 0), (47, 0), (49, 0), (51, 0), (125, 0), (0, 9), (115, 1), (66, 8), (115, 18), (71, 0), (132, 0)] h h := xk_re T
  refine xi_aload_n (pc' := 944) (x := 0) kc_195_943 rfl rfl ?_
  refine xi_aload_n (pc' := 945) (x := 1000000) kc_195_944 rfl rfl ?_
  refine xi_iload (pc' := 947) (x := x4) kc_195_945 rfl rfl ?_
  refine xi_iconst (pc' := 948) (v := 1) kc_195_947 rfl rfl ?_
  obtain ⟨v1, ev1⟩ : ∃ q : Int32, x4 + 1 = q := ⟨_, rfl⟩
  have zv1 : v1.toInt = (x4.toInt + 1) := by rw [← ev1]; exact (xz_add (X := x4.toInt) (Y := 1) rfl (by decide) (by omega) (by omega)).trans (by omega)
  refine xi_iadd (pc' := 949) (v := v1) kc_195_948 rfl ev1 ?_
  obtain ⟨a2, ea2⟩ : ∃ q : Int32, xs.getD (Int32.toNatClampNeg v1) 0 = q := ⟨_, rfl⟩
  have ra2 := xc_rng a2
  refine xi_ialoadO (pc' := 950) (v := a2) kc_195_949 rfl (by decide) hov0 (xi_in (by omega) (by omega)) ea2 ?_
  refine xi_aload_n (pc' := 951) (x := 1000000) kc_195_950 rfl rfl ?_
  refine xi_iload (pc' := 953) (x := x4) kc_195_951 rfl rfl ?_
  refine xi_iconst (pc' := 954) (v := 2) kc_195_953 rfl rfl ?_
  obtain ⟨v3, ev3⟩ : ∃ q : Int32, x4 + 2 = q := ⟨_, rfl⟩
  have zv3 : v3.toInt = (x4.toInt + 2) := by rw [← ev3]; exact (xz_add (X := x4.toInt) (Y := 2) rfl (by decide) (by omega) (by omega)).trans (by omega)
  refine xi_iadd (pc' := 955) (v := v3) kc_195_954 rfl ev3 ?_
  obtain ⟨a4, ea4⟩ : ∃ q : Int32, xs.getD (Int32.toNatClampNeg v3) 0 = q := ⟨_, rfl⟩
  have ra4 := xc_rng a4
  refine xi_ialoadO (pc' := 956) (v := a4) kc_195_955 rfl (by decide) hov0 (xi_in (by omega) (by omega)) ea4 ?_
  by_cases c5 : a4.toInt = 0
  · refine xi_ift (pc' := 963) kc_195_956 rfl (xc_eq_t (X := a4.toInt) (Y := 0) rfl (by decide) (by omega)) ?_
    refine xi_iconst (pc' := 964) (v := 0) kc_195_963 rfl rfl ?_
    obtain ⟨u6, u7, bu6, bu7, A8⟩ := xq_0 K.1
    refine xi_virtual (mj := 157) (as := [.int a2, .int 0]) (st1 := []) (lv0 := [(0, .ref 0), (1, .int a2), (2, .int 0)]) kc_195_964 rfl rfl rfl rfl rfl A8 (Nat.le_of_ble_eq_true rfl) (hJ _ _ _ _ (by decide)) (xm_le ml_157 rfl) rfl ?_
    have zc0 : (0 : Int32).toInt = 0 := by decide
    refine mt_157_0 hJ hov1 hov2 (d := 91) (x1 := a2) (x2 := 0) K.1 (by first | omega | decide) (fun r9 hh10 K11 => ?_)
    have br9 := xc_rng r9
    have K12 := xk_tr K K11 rfl
    obtain ⟨u13, u14, bu13, bu14, A15⟩ := xq_0 K12.1
    have e16 : u7 = u14 := xk_eqi (q := 9) K11 rfl A8 A15 rfl rfl
    subst e16
    show xw J ov 100 195 (967, [(4, .int x4), (3, .ref 167), (2, .ref 115), (1, .ref 0), (0, .ref 1000000)], [.int r9], hh10) _
    refine xi_pop (pc' := 968) kc_195_967 rfl rfl ?_
    refine xi_aload_n (pc' := 969) (x := 115) kc_195_968 rfl rfl ?_
    refine xi_aload_n (pc' := 970) (x := 1000000) kc_195_969 rfl rfl ?_
    refine xi_iload (pc' := 972) (x := x4) kc_195_970 rfl rfl ?_
    refine xi_iconst (pc' := 973) (v := 1) kc_195_972 rfl rfl ?_
    refine xi_iadd (pc' := 974) (v := v1) kc_195_973 rfl ev1 ?_
    refine xi_ialoadO (pc' := 975) (v := a2) kc_195_974 rfl (by decide) hov0 (xi_in (by omega) (by omega)) ea2 ?_
    refine xi_aload_n (pc' := 976) (x := 1000000) kc_195_975 rfl rfl ?_
    refine xi_iload (pc' := 978) (x := x4) kc_195_976 rfl rfl ?_
    refine xi_iconst (pc' := 979) (v := 2) kc_195_978 rfl rfl ?_
    refine xi_iadd (pc' := 980) (v := v3) kc_195_979 rfl ev3 ?_
    refine xi_ialoadO (pc' := 981) (v := a4) kc_195_980 rfl (by decide) hov0 (xi_in (by omega) (by omega)) ea4 ?_
    refine xi_ift (pc' := 988) kc_195_981 rfl (xc_eq_t (X := a4.toInt) (Y := 0) rfl (by decide) (by omega)) ?_
    refine xi_iconst (pc' := 989) (v := 0) kc_195_988 rfl rfl ?_
    obtain ⟨u17, u18, u19, u20, u21, u22, u23, u24, u25, u26, u27, u28, u29, bu17, bu18, bu19, bu20, bu21, bu22, bu23, bu24, bu25, bu26, bu27, bu28, bu29, A30⟩ := xq_115 K12.1
    refine xi_virtual (mj := 56) (as := [.int a2, .int 0]) (st1 := []) (lv0 := [(0, .ref 115), (1, .int a2), (2, .int 0)]) kc_195_989 rfl rfl rfl rfl rfl A30 (Nat.le_of_ble_eq_true rfl) (hJ _ _ _ _ (by decide)) (xm_le ml_56 rfl) rfl ?_
    have zc0 : (0 : Int32).toInt = 0 := by decide
    refine mt_56_0 hJ hov1 hov2 (d := 91) (x1 := a2) (x2 := 0) K12.1 (by first | omega | decide) (fun r31 hh32 K33 => ?_)
    have br31 := xc_rng r31
    have K34 := xk_tr K12 K33 rfl
    obtain ⟨u35, u36, bu35, bu36, A37⟩ := xq_0 K34.1
    have e38 : u7 = u36 := xk_eqi (q := 9) K33 rfl A15 A37 rfl rfl
    subst e38
    obtain ⟨u39, u40, u41, u42, u43, u44, u45, u46, u47, u48, u49, u50, u51, bu39, bu40, bu41, bu42, bu43, bu44, bu45, bu46, bu47, bu48, bu49, bu50, bu51, A52⟩ := xq_115 K34.1
    have e53 : u18 = u40 := xk_eqi (q := 1) K33 rfl A30 A52 rfl rfl
    subst e53
    have e54 : u20 = u42 := xk_eqi (q := 18) K33 rfl A30 A52 rfl rfl
    subst e54
    show xw J ov 100 195 (992, [(4, .int x4), (3, .ref 167), (2, .ref 115), (1, .ref 0), (0, .ref 1000000)], [.int r31], hh32) _
    refine xi_pop (pc' := 993) kc_195_992 rfl rfl ?_
    refine xi_goto (pc' := 1501) kc_195_993 rfl ?_
    obtain ⟨v55, ev55⟩ : ∃ q : Int32, x4 + 6 = q := ⟨_, rfl⟩
    have zv55 : v55.toInt = (x4.toInt + 6) := by rw [← ev55]; exact (xz_add (X := x4.toInt) (Y := 6) rfl (by decide) (by omega) (by omega)).trans (by omega)
    refine xi_iinc (pc' := 1504) (x := x4) (v := v55) (lv' := [(4, .int v55), (3, .ref 167), (2, .ref 115), (1, .ref 0), (0, .ref 1000000)]) kc_195_1501 rfl rfl ev55 rfl (xm_lt ml_195 rfl) ?_
    refine xi_goto (pc' := 23) kc_195_1504 rfl ?_
    exact kk v55 hh32 (by omega) K34
  · refine xi_iff (pc' := 959) kc_195_956 rfl (xc_eq_f (X := a4.toInt) (Y := 0) rfl (by decide) (by omega)) ?_
    refine xi_iconst (pc' := 960) (v := 1) kc_195_959 rfl rfl ?_
    refine xi_goto (pc' := 964) kc_195_960 rfl ?_
    obtain ⟨u56, u57, bu56, bu57, A58⟩ := xq_0 K.1
    refine xi_virtual (mj := 157) (as := [.int a2, .int 1]) (st1 := []) (lv0 := [(0, .ref 0), (1, .int a2), (2, .int 1)]) kc_195_964 rfl rfl rfl rfl rfl A58 (Nat.le_of_ble_eq_true rfl) (hJ _ _ _ _ (by decide)) (xm_le ml_157 rfl) rfl ?_
    have zc1 : (1 : Int32).toInt = 1 := by decide
    refine mt_157_0 hJ hov1 hov2 (d := 91) (x1 := a2) (x2 := 1) K.1 (by first | omega | decide) (fun r59 hh60 K61 => ?_)
    have br59 := xc_rng r59
    have K62 := xk_tr K K61 rfl
    obtain ⟨u63, u64, bu63, bu64, A65⟩ := xq_0 K62.1
    have e66 : u57 = u64 := xk_eqi (q := 9) K61 rfl A58 A65 rfl rfl
    subst e66
    show xw J ov 100 195 (967, [(4, .int x4), (3, .ref 167), (2, .ref 115), (1, .ref 0), (0, .ref 1000000)], [.int r59], hh60) _
    refine xi_pop (pc' := 968) kc_195_967 rfl rfl ?_
    refine xi_aload_n (pc' := 969) (x := 115) kc_195_968 rfl rfl ?_
    refine xi_aload_n (pc' := 970) (x := 1000000) kc_195_969 rfl rfl ?_
    refine xi_iload (pc' := 972) (x := x4) kc_195_970 rfl rfl ?_
    refine xi_iconst (pc' := 973) (v := 1) kc_195_972 rfl rfl ?_
    refine xi_iadd (pc' := 974) (v := v1) kc_195_973 rfl ev1 ?_
    refine xi_ialoadO (pc' := 975) (v := a2) kc_195_974 rfl (by decide) hov0 (xi_in (by omega) (by omega)) ea2 ?_
    refine xi_aload_n (pc' := 976) (x := 1000000) kc_195_975 rfl rfl ?_
    refine xi_iload (pc' := 978) (x := x4) kc_195_976 rfl rfl ?_
    refine xi_iconst (pc' := 979) (v := 2) kc_195_978 rfl rfl ?_
    refine xi_iadd (pc' := 980) (v := v3) kc_195_979 rfl ev3 ?_
    refine xi_ialoadO (pc' := 981) (v := a4) kc_195_980 rfl (by decide) hov0 (xi_in (by omega) (by omega)) ea4 ?_
    refine xi_iff (pc' := 984) kc_195_981 rfl (xc_eq_f (X := a4.toInt) (Y := 0) rfl (by decide) (by omega)) ?_
    refine xi_iconst (pc' := 985) (v := 1) kc_195_984 rfl rfl ?_
    refine xi_goto (pc' := 989) kc_195_985 rfl ?_
    obtain ⟨u67, u68, u69, u70, u71, u72, u73, u74, u75, u76, u77, u78, u79, bu67, bu68, bu69, bu70, bu71, bu72, bu73, bu74, bu75, bu76, bu77, bu78, bu79, A80⟩ := xq_115 K62.1
    refine xi_virtual (mj := 56) (as := [.int a2, .int 1]) (st1 := []) (lv0 := [(0, .ref 115), (1, .int a2), (2, .int 1)]) kc_195_989 rfl rfl rfl rfl rfl A80 (Nat.le_of_ble_eq_true rfl) (hJ _ _ _ _ (by decide)) (xm_le ml_56 rfl) rfl ?_
    have zc1 : (1 : Int32).toInt = 1 := by decide
    refine mt_56_0 hJ hov1 hov2 (d := 91) (x1 := a2) (x2 := 1) K62.1 (by first | omega | decide) (fun r81 hh82 K83 => ?_)
    have br81 := xc_rng r81
    have K84 := xk_tr K62 K83 rfl
    obtain ⟨u85, u86, bu85, bu86, A87⟩ := xq_0 K84.1
    have e88 : u57 = u86 := xk_eqi (q := 9) K83 rfl A65 A87 rfl rfl
    subst e88
    obtain ⟨u89, u90, u91, u92, u93, u94, u95, u96, u97, u98, u99, u100, u101, bu89, bu90, bu91, bu92, bu93, bu94, bu95, bu96, bu97, bu98, bu99, bu100, bu101, A102⟩ := xq_115 K84.1
    have e103 : u68 = u90 := xk_eqi (q := 1) K83 rfl A80 A102 rfl rfl
    subst e103
    have e104 : u70 = u92 := xk_eqi (q := 18) K83 rfl A80 A102 rfl rfl
    subst e104
    show xw J ov 100 195 (992, [(4, .int x4), (3, .ref 167), (2, .ref 115), (1, .ref 0), (0, .ref 1000000)], [.int r81], hh82) _
    refine xi_pop (pc' := 993) kc_195_992 rfl rfl ?_
    refine xi_goto (pc' := 1501) kc_195_993 rfl ?_
    obtain ⟨v105, ev105⟩ : ∃ q : Int32, x4 + 6 = q := ⟨_, rfl⟩
    have zv105 : v105.toInt = (x4.toInt + 6) := by rw [← ev105]; exact (xz_add (X := x4.toInt) (Y := 6) rfl (by decide) (by omega) (by omega)).trans (by omega)
    refine xi_iinc (pc' := 1504) (x := x4) (v := v105) (lv' := [(4, .int v105), (3, .ref 167), (2, .ref 115), (1, .ref 0), (0, .ref 1000000)]) kc_195_1501 rfl rfl ev105 rfl (xm_lt ml_195 rfl) ?_
    refine xi_goto (pc' := 23) kc_195_1504 rfl ?_
    exact kk v105 hh82 (by omega) K84
set_option maxHeartbeats 8000000 in
theorem lc_21 {J : xe_J} {ov : List (List Int32)} (hJ : ∀ d mj as h, mj ≠ xe_loff → J d mj as h = none) (hov1 : ov[1]? = some [10, 0, 0, 0, 0, 0]) (hov2 : ov[2]? = some [99, 30, 50, 50, 1, 99999]) {xs : List Int32} (hov0 : ov[0]? = some xs) {Q : Option Value → xe_H → Prop} {h : xe_H} {x4 : Int32} (hi0 : 0 ≤ x4.toInt) (hi1 : x4.toInt + 6 ≤ xs.length) (hi2 : x4.toInt ≤ 3066) (T : xt h) (kk : ∀ (i : Int32) (h' : xe_H), i.toInt = x4.toInt + 6 → xk [(29, 0), (31, 0), (33, 0), (35, 0), (37, 0), (39, 0), (41, 0), (43, 0), (45, 0), (47, 0), (49, 0), (51, 0), (125, 0), (0, 9), (115, 1), (66, 8), (115, 18), (71, 0), (132, 0)] h h' → xw J ov 100 195 (23, [(4, .int i), (3, .ref 167), (2, .ref 115), (1, .ref 0), (0, .ref 1000000)], [], h') Q) : xw J ov 100 195 (996, [(4, .int x4), (3, .ref 167), (2, .ref 115), (1, .ref 0), (0, .ref 1000000)], [], h) Q := by
  have K : xk [(29, 0), (31, 0), (33, 0), (35, 0), (37, 0), (39, 0), (41, 0), (43, 0), (45, 0), (47, 0), (49, 0), (51, 0), (125, 0), (0, 9), (115, 1), (66, 8), (115, 18), (71, 0), (132, 0)] h h := xk_re T
  refine xi_aload_n (pc' := 997) (x := 0) kc_195_996 rfl rfl ?_
  obtain ⟨u1, u2, bu1, bu2, A3⟩ := xq_0 K.1
  refine xi_virtual (mj := 158) (as := []) (st1 := []) (lv0 := [(0, .ref 0)]) kc_195_997 rfl rfl rfl rfl rfl A3 (Nat.le_of_ble_eq_true rfl) (hJ _ _ _ _ (by decide)) (xm_le ml_158 rfl) rfl ?_
  refine mt_158_0 hJ hov1 hov2 (d := 91)  K.1 (fun r4 hh5 br4 K6 => ?_)
  have K7 := xk_tr K K6 rfl
  obtain ⟨u8, u9, bu8, bu9, A10⟩ := xq_0 K7.1
  have e11 : u2 = u9 := xk_eqi (q := 9) K6 rfl A3 A10 rfl rfl
  subst e11
  show xw J ov 100 195 (1000, [(4, .int x4), (3, .ref 167), (2, .ref 115), (1, .ref 0), (0, .ref 1000000)], [.int r4], hh5) _
  refine xi_pop (pc' := 1001) kc_195_1000 rfl rfl ?_
  refine xi_aload_n (pc' := 1002) (x := 115) kc_195_1001 rfl rfl ?_
  obtain ⟨u12, u13, u14, u15, u16, u17, u18, u19, u20, u21, u22, u23, u24, bu12, bu13, bu14, bu15, bu16, bu17, bu18, bu19, bu20, bu21, bu22, bu23, bu24, A25⟩ := xq_115 K7.1
  refine xi_virtual (mj := 57) (as := []) (st1 := []) (lv0 := [(0, .ref 115)]) kc_195_1002 rfl rfl rfl rfl rfl A25 (Nat.le_of_ble_eq_true rfl) (hJ _ _ _ _ (by decide)) (xm_le ml_57 rfl) rfl ?_
  refine mt_57_0 hJ hov1 hov2 (d := 91)  K7.1 (fun r26 hh27 br26 K28 => ?_)
  have K29 := xk_tr K7 K28 rfl
  obtain ⟨u30, u31, bu30, bu31, A32⟩ := xq_0 K29.1
  have e33 : u2 = u31 := xk_eqi (q := 9) K28 rfl A10 A32 rfl rfl
  subst e33
  obtain ⟨u34, u35, u36, u37, u38, u39, u40, u41, u42, u43, u44, u45, u46, bu34, bu35, bu36, bu37, bu38, bu39, bu40, bu41, bu42, bu43, bu44, bu45, bu46, A47⟩ := xq_115 K29.1
  have e48 : u13 = u35 := xk_eqi (q := 1) K28 rfl A25 A47 rfl rfl
  subst e48
  have e49 : u15 = u37 := xk_eqi (q := 18) K28 rfl A25 A47 rfl rfl
  subst e49
  show xw J ov 100 195 (1005, [(4, .int x4), (3, .ref 167), (2, .ref 115), (1, .ref 0), (0, .ref 1000000)], [.int r26], hh27) _
  refine xi_pop (pc' := 1006) kc_195_1005 rfl rfl ?_
  refine xi_goto (pc' := 1501) kc_195_1006 rfl ?_
  obtain ⟨v50, ev50⟩ : ∃ q : Int32, x4 + 6 = q := ⟨_, rfl⟩
  have zv50 : v50.toInt = (x4.toInt + 6) := by rw [← ev50]; exact (xz_add (X := x4.toInt) (Y := 6) rfl (by decide) (by omega) (by omega)).trans (by omega)
  refine xi_iinc (pc' := 1504) (x := x4) (v := v50) (lv' := [(4, .int v50), (3, .ref 167), (2, .ref 115), (1, .ref 0), (0, .ref 1000000)]) kc_195_1501 rfl rfl ev50 rfl (xm_lt ml_195 rfl) ?_
  refine xi_goto (pc' := 23) kc_195_1504 rfl ?_
  exact kk v50 hh27 (by omega) K29
set_option maxHeartbeats 8000000 in
theorem lc_22 {J : xe_J} {ov : List (List Int32)} (hJ : ∀ d mj as h, mj ≠ xe_loff → J d mj as h = none) (hov1 : ov[1]? = some [10, 0, 0, 0, 0, 0]) (hov2 : ov[2]? = some [99, 30, 50, 50, 1, 99999]) {xs : List Int32} (hov0 : ov[0]? = some xs) {Q : Option Value → xe_H → Prop} {h : xe_H} {x4 : Int32} (hi0 : 0 ≤ x4.toInt) (hi1 : x4.toInt + 6 ≤ xs.length) (hi2 : x4.toInt ≤ 3066) (T : xt h) (kk : ∀ (i : Int32) (h' : xe_H), i.toInt = x4.toInt + 6 → xk [(29, 0), (31, 0), (33, 0), (35, 0), (37, 0), (39, 0), (41, 0), (43, 0), (45, 0), (47, 0), (49, 0), (51, 0), (125, 0), (0, 9), (115, 1), (66, 8), (115, 18), (71, 0), (132, 0)] h h' → xw J ov 100 195 (23, [(4, .int i), (3, .ref 167), (2, .ref 115), (1, .ref 0), (0, .ref 1000000)], [], h') Q) : xw J ov 100 195 (1009, [(4, .int x4), (3, .ref 167), (2, .ref 115), (1, .ref 0), (0, .ref 1000000)], [], h) Q := by
  have K : xk [(29, 0), (31, 0), (33, 0), (35, 0), (37, 0), (39, 0), (41, 0), (43, 0), (45, 0), (47, 0), (49, 0), (51, 0), (125, 0), (0, 9), (115, 1), (66, 8), (115, 18), (71, 0), (132, 0)] h h := xk_re T
  refine xi_aload_n (pc' := 1010) (x := 0) kc_195_1009 rfl rfl ?_
  obtain ⟨u1, u2, bu1, bu2, A3⟩ := xq_0 K.1
  refine xi_virtual (mj := 160) (as := []) (st1 := []) (lv0 := [(0, .ref 0)]) kc_195_1010 rfl rfl rfl rfl rfl A3 (Nat.le_of_ble_eq_true rfl) (hJ _ _ _ _ (by decide)) (xm_le ml_160 rfl) rfl ?_
  refine mt_160_0 hJ hov1 hov2 (d := 86)  K.1 (fun r4 hh5 K6 => ?_)
  have br4 := xc_rng r4
  have K7 := xk_tr K K6 rfl
  obtain ⟨u8, u9, bu8, bu9, A10⟩ := xq_0 K7.1
  have e11 : u2 = u9 := xk_eqi (q := 9) K6 rfl A3 A10 rfl rfl
  subst e11
  show xw J ov 100 195 (1013, [(4, .int x4), (3, .ref 167), (2, .ref 115), (1, .ref 0), (0, .ref 1000000)], [.int r4], hh5) _
  refine xi_pop (pc' := 1014) kc_195_1013 rfl rfl ?_
  refine xi_aload_n (pc' := 1015) (x := 115) kc_195_1014 rfl rfl ?_
  obtain ⟨u12, u13, u14, u15, u16, u17, u18, u19, u20, u21, u22, u23, u24, bu12, bu13, bu14, bu15, bu16, bu17, bu18, bu19, bu20, bu21, bu22, bu23, bu24, A25⟩ := xq_115 K7.1
  refine xi_virtual (mj := 58) (as := []) (st1 := []) (lv0 := [(0, .ref 115)]) kc_195_1015 rfl rfl rfl rfl rfl A25 (Nat.le_of_ble_eq_true rfl) (hJ _ _ _ _ (by decide)) (xm_le ml_58 rfl) rfl ?_
  refine mt_58_0 hJ hov1 hov2 (d := 92)  K7.1 (fun r26 hh27 K28 => ?_)
  have br26 := xc_rng r26
  have K29 := xk_tr K7 K28 rfl
  obtain ⟨u30, u31, bu30, bu31, A32⟩ := xq_0 K29.1
  have e33 : u2 = u31 := xk_eqi (q := 9) K28 rfl A10 A32 rfl rfl
  subst e33
  obtain ⟨u34, u35, u36, u37, u38, u39, u40, u41, u42, u43, u44, u45, u46, bu34, bu35, bu36, bu37, bu38, bu39, bu40, bu41, bu42, bu43, bu44, bu45, bu46, A47⟩ := xq_115 K29.1
  have e48 : u13 = u35 := xk_eqi (q := 1) K28 rfl A25 A47 rfl rfl
  subst e48
  have e49 : u15 = u37 := xk_eqi (q := 18) K28 rfl A25 A47 rfl rfl
  subst e49
  show xw J ov 100 195 (1018, [(4, .int x4), (3, .ref 167), (2, .ref 115), (1, .ref 0), (0, .ref 1000000)], [.int r26], hh27) _
  refine xi_pop (pc' := 1019) kc_195_1018 rfl rfl ?_
  refine xi_goto (pc' := 1501) kc_195_1019 rfl ?_
  obtain ⟨v50, ev50⟩ : ∃ q : Int32, x4 + 6 = q := ⟨_, rfl⟩
  have zv50 : v50.toInt = (x4.toInt + 6) := by rw [← ev50]; exact (xz_add (X := x4.toInt) (Y := 6) rfl (by decide) (by omega) (by omega)).trans (by omega)
  refine xi_iinc (pc' := 1504) (x := x4) (v := v50) (lv' := [(4, .int v50), (3, .ref 167), (2, .ref 115), (1, .ref 0), (0, .ref 1000000)]) kc_195_1501 rfl rfl ev50 rfl (xm_lt ml_195 rfl) ?_
  refine xi_goto (pc' := 23) kc_195_1504 rfl ?_
  exact kk v50 hh27 (by omega) K29
set_option maxHeartbeats 8000000 in
theorem lc_23 {J : xe_J} {ov : List (List Int32)} (hJ : ∀ d mj as h, mj ≠ xe_loff → J d mj as h = none) (hov1 : ov[1]? = some [10, 0, 0, 0, 0, 0]) (hov2 : ov[2]? = some [99, 30, 50, 50, 1, 99999]) {xs : List Int32} (hov0 : ov[0]? = some xs) {Q : Option Value → xe_H → Prop} {h : xe_H} {x4 : Int32} (hi0 : 0 ≤ x4.toInt) (hi1 : x4.toInt + 6 ≤ xs.length) (hi2 : x4.toInt ≤ 3066) (T : xt h) (kk : ∀ (i : Int32) (h' : xe_H), i.toInt = x4.toInt + 6 → xk [(29, 0), (31, 0), (33, 0), (35, 0), (37, 0), (39, 0), (41, 0), (43, 0), (45, 0), (47, 0), (49, 0), (51, 0), (125, 0), (0, 9), (115, 1), (66, 8), (115, 18), (71, 0), (132, 0)] h h' → xw J ov 100 195 (23, [(4, .int i), (3, .ref 167), (2, .ref 115), (1, .ref 0), (0, .ref 1000000)], [], h') Q) : xw J ov 100 195 (1022, [(4, .int x4), (3, .ref 167), (2, .ref 115), (1, .ref 0), (0, .ref 1000000)], [], h) Q := by
  have K : xk [(29, 0), (31, 0), (33, 0), (35, 0), (37, 0), (39, 0), (41, 0), (43, 0), (45, 0), (47, 0), (49, 0), (51, 0), (125, 0), (0, 9), (115, 1), (66, 8), (115, 18), (71, 0), (132, 0)] h h := xk_re T
  refine xi_aload_n (pc' := 1023) (x := 0) kc_195_1022 rfl rfl ?_
  refine xi_aload_n (pc' := 1024) (x := 1000000) kc_195_1023 rfl rfl ?_
  refine xi_iload (pc' := 1026) (x := x4) kc_195_1024 rfl rfl ?_
  refine xi_iconst (pc' := 1027) (v := 1) kc_195_1026 rfl rfl ?_
  obtain ⟨v1, ev1⟩ : ∃ q : Int32, x4 + 1 = q := ⟨_, rfl⟩
  have zv1 : v1.toInt = (x4.toInt + 1) := by rw [← ev1]; exact (xz_add (X := x4.toInt) (Y := 1) rfl (by decide) (by omega) (by omega)).trans (by omega)
  refine xi_iadd (pc' := 1028) (v := v1) kc_195_1027 rfl ev1 ?_
  obtain ⟨a2, ea2⟩ : ∃ q : Int32, xs.getD (Int32.toNatClampNeg v1) 0 = q := ⟨_, rfl⟩
  have ra2 := xc_rng a2
  refine xi_ialoadO (pc' := 1029) (v := a2) kc_195_1028 rfl (by decide) hov0 (xi_in (by omega) (by omega)) ea2 ?_
  refine xi_aload_n (pc' := 1030) (x := 1000000) kc_195_1029 rfl rfl ?_
  refine xi_iload (pc' := 1032) (x := x4) kc_195_1030 rfl rfl ?_
  refine xi_iconst (pc' := 1033) (v := 2) kc_195_1032 rfl rfl ?_
  obtain ⟨v3, ev3⟩ : ∃ q : Int32, x4 + 2 = q := ⟨_, rfl⟩
  have zv3 : v3.toInt = (x4.toInt + 2) := by rw [← ev3]; exact (xz_add (X := x4.toInt) (Y := 2) rfl (by decide) (by omega) (by omega)).trans (by omega)
  refine xi_iadd (pc' := 1034) (v := v3) kc_195_1033 rfl ev3 ?_
  obtain ⟨a4, ea4⟩ : ∃ q : Int32, xs.getD (Int32.toNatClampNeg v3) 0 = q := ⟨_, rfl⟩
  have ra4 := xc_rng a4
  refine xi_ialoadO (pc' := 1035) (v := a4) kc_195_1034 rfl (by decide) hov0 (xi_in (by omega) (by omega)) ea4 ?_
  refine xi_aload_n (pc' := 1036) (x := 1000000) kc_195_1035 rfl rfl ?_
  refine xi_iload (pc' := 1038) (x := x4) kc_195_1036 rfl rfl ?_
  refine xi_iconst (pc' := 1039) (v := 3) kc_195_1038 rfl rfl ?_
  obtain ⟨v5, ev5⟩ : ∃ q : Int32, x4 + 3 = q := ⟨_, rfl⟩
  have zv5 : v5.toInt = (x4.toInt + 3) := by rw [← ev5]; exact (xz_add (X := x4.toInt) (Y := 3) rfl (by decide) (by omega) (by omega)).trans (by omega)
  refine xi_iadd (pc' := 1040) (v := v5) kc_195_1039 rfl ev5 ?_
  obtain ⟨a6, ea6⟩ : ∃ q : Int32, xs.getD (Int32.toNatClampNeg v5) 0 = q := ⟨_, rfl⟩
  have ra6 := xc_rng a6
  refine xi_ialoadO (pc' := 1041) (v := a6) kc_195_1040 rfl (by decide) hov0 (xi_in (by omega) (by omega)) ea6 ?_
  refine xi_aload_n (pc' := 1042) (x := 1000000) kc_195_1041 rfl rfl ?_
  refine xi_iload (pc' := 1044) (x := x4) kc_195_1042 rfl rfl ?_
  refine xi_iconst (pc' := 1045) (v := 4) kc_195_1044 rfl rfl ?_
  obtain ⟨v7, ev7⟩ : ∃ q : Int32, x4 + 4 = q := ⟨_, rfl⟩
  have zv7 : v7.toInt = (x4.toInt + 4) := by rw [← ev7]; exact (xz_add (X := x4.toInt) (Y := 4) rfl (by decide) (by omega) (by omega)).trans (by omega)
  refine xi_iadd (pc' := 1046) (v := v7) kc_195_1045 rfl ev7 ?_
  obtain ⟨a8, ea8⟩ : ∃ q : Int32, xs.getD (Int32.toNatClampNeg v7) 0 = q := ⟨_, rfl⟩
  have ra8 := xc_rng a8
  refine xi_ialoadO (pc' := 1047) (v := a8) kc_195_1046 rfl (by decide) hov0 (xi_in (by omega) (by omega)) ea8 ?_
  refine xi_aload_n (pc' := 1048) (x := 1000000) kc_195_1047 rfl rfl ?_
  refine xi_iload (pc' := 1050) (x := x4) kc_195_1048 rfl rfl ?_
  refine xi_iconst (pc' := 1051) (v := 5) kc_195_1050 rfl rfl ?_
  obtain ⟨v9, ev9⟩ : ∃ q : Int32, x4 + 5 = q := ⟨_, rfl⟩
  have zv9 : v9.toInt = (x4.toInt + 5) := by rw [← ev9]; exact (xz_add (X := x4.toInt) (Y := 5) rfl (by decide) (by omega) (by omega)).trans (by omega)
  refine xi_iadd (pc' := 1052) (v := v9) kc_195_1051 rfl ev9 ?_
  obtain ⟨a10, ea10⟩ : ∃ q : Int32, xs.getD (Int32.toNatClampNeg v9) 0 = q := ⟨_, rfl⟩
  have ra10 := xc_rng a10
  refine xi_ialoadO (pc' := 1053) (v := a10) kc_195_1052 rfl (by decide) hov0 (xi_in (by omega) (by omega)) ea10 ?_
  obtain ⟨u11, u12, bu11, bu12, A13⟩ := xq_0 K.1
  refine xi_virtual (mj := 163) (as := [.int a2, .int a4, .int a6, .int a8, .int a10]) (st1 := []) (lv0 := [(0, .ref 0), (1, .int a2), (2, .int a4), (3, .int a6), (4, .int a8), (5, .int a10)]) kc_195_1053 rfl rfl rfl rfl rfl A13 (Nat.le_of_ble_eq_true rfl) (hJ _ _ _ _ (by decide)) (xm_le ml_163 rfl) rfl ?_
  refine mt_163_0 hJ hov1 hov2 (d := 97) (x1 := a2) (x2 := a4) (x3 := a6) (x4 := a8) (x5 := a10) K.1 (fun r14 hh15 br14 K16 => ?_)
  have K17 := xk_tr K K16 rfl
  obtain ⟨u18, u19, bu18, bu19, A20⟩ := xq_0 K17.1
  have e21 : u12 = u19 := xk_eqi (q := 9) K16 rfl A13 A20 rfl rfl
  subst e21
  show xw J ov 100 195 (1056, [(4, .int x4), (3, .ref 167), (2, .ref 115), (1, .ref 0), (0, .ref 1000000)], [.int r14], hh15) _
  refine xi_pop (pc' := 1057) kc_195_1056 rfl rfl ?_
  refine xi_aload_n (pc' := 1058) (x := 115) kc_195_1057 rfl rfl ?_
  refine xi_aload_n (pc' := 1059) (x := 1000000) kc_195_1058 rfl rfl ?_
  refine xi_iload (pc' := 1061) (x := x4) kc_195_1059 rfl rfl ?_
  refine xi_iconst (pc' := 1062) (v := 1) kc_195_1061 rfl rfl ?_
  refine xi_iadd (pc' := 1063) (v := v1) kc_195_1062 rfl ev1 ?_
  refine xi_ialoadO (pc' := 1064) (v := a2) kc_195_1063 rfl (by decide) hov0 (xi_in (by omega) (by omega)) ea2 ?_
  refine xi_aload_n (pc' := 1065) (x := 1000000) kc_195_1064 rfl rfl ?_
  refine xi_iload (pc' := 1067) (x := x4) kc_195_1065 rfl rfl ?_
  refine xi_iconst (pc' := 1068) (v := 2) kc_195_1067 rfl rfl ?_
  refine xi_iadd (pc' := 1069) (v := v3) kc_195_1068 rfl ev3 ?_
  refine xi_ialoadO (pc' := 1070) (v := a4) kc_195_1069 rfl (by decide) hov0 (xi_in (by omega) (by omega)) ea4 ?_
  refine xi_aload_n (pc' := 1071) (x := 1000000) kc_195_1070 rfl rfl ?_
  refine xi_iload (pc' := 1073) (x := x4) kc_195_1071 rfl rfl ?_
  refine xi_iconst (pc' := 1074) (v := 3) kc_195_1073 rfl rfl ?_
  refine xi_iadd (pc' := 1075) (v := v5) kc_195_1074 rfl ev5 ?_
  refine xi_ialoadO (pc' := 1076) (v := a6) kc_195_1075 rfl (by decide) hov0 (xi_in (by omega) (by omega)) ea6 ?_
  refine xi_aload_n (pc' := 1077) (x := 1000000) kc_195_1076 rfl rfl ?_
  refine xi_iload (pc' := 1079) (x := x4) kc_195_1077 rfl rfl ?_
  refine xi_iconst (pc' := 1080) (v := 4) kc_195_1079 rfl rfl ?_
  refine xi_iadd (pc' := 1081) (v := v7) kc_195_1080 rfl ev7 ?_
  refine xi_ialoadO (pc' := 1082) (v := a8) kc_195_1081 rfl (by decide) hov0 (xi_in (by omega) (by omega)) ea8 ?_
  refine xi_aload_n (pc' := 1083) (x := 1000000) kc_195_1082 rfl rfl ?_
  refine xi_iload (pc' := 1085) (x := x4) kc_195_1083 rfl rfl ?_
  refine xi_iconst (pc' := 1086) (v := 5) kc_195_1085 rfl rfl ?_
  refine xi_iadd (pc' := 1087) (v := v9) kc_195_1086 rfl ev9 ?_
  refine xi_ialoadO (pc' := 1088) (v := a10) kc_195_1087 rfl (by decide) hov0 (xi_in (by omega) (by omega)) ea10 ?_
  obtain ⟨u22, u23, u24, u25, u26, u27, u28, u29, u30, u31, u32, u33, u34, bu22, bu23, bu24, bu25, bu26, bu27, bu28, bu29, bu30, bu31, bu32, bu33, bu34, A35⟩ := xq_115 K17.1
  refine xi_virtual (mj := 61) (as := [.int a2, .int a4, .int a6, .int a8, .int a10]) (st1 := []) (lv0 := [(0, .ref 115), (1, .int a2), (2, .int a4), (3, .int a6), (4, .int a8), (5, .int a10)]) kc_195_1088 rfl rfl rfl rfl rfl A35 (Nat.le_of_ble_eq_true rfl) (hJ _ _ _ _ (by decide)) (xm_le ml_61 rfl) rfl ?_
  refine mt_61_0 hJ hov1 hov2 (d := 97) (x1 := a2) (x2 := a4) (x3 := a6) (x4 := a8) (x5 := a10) K17.1 (fun r36 hh37 br36 K38 => ?_)
  have K39 := xk_tr K17 K38 rfl
  obtain ⟨u40, u41, bu40, bu41, A42⟩ := xq_0 K39.1
  have e43 : u12 = u41 := xk_eqi (q := 9) K38 rfl A20 A42 rfl rfl
  subst e43
  obtain ⟨u44, u45, u46, u47, u48, u49, u50, u51, u52, u53, u54, u55, u56, bu44, bu45, bu46, bu47, bu48, bu49, bu50, bu51, bu52, bu53, bu54, bu55, bu56, A57⟩ := xq_115 K39.1
  have e58 : u23 = u45 := xk_eqi (q := 1) K38 rfl A35 A57 rfl rfl
  subst e58
  have e59 : u25 = u47 := xk_eqi (q := 18) K38 rfl A35 A57 rfl rfl
  subst e59
  show xw J ov 100 195 (1091, [(4, .int x4), (3, .ref 167), (2, .ref 115), (1, .ref 0), (0, .ref 1000000)], [.int r36], hh37) _
  refine xi_pop (pc' := 1092) kc_195_1091 rfl rfl ?_
  refine xi_goto (pc' := 1501) kc_195_1092 rfl ?_
  obtain ⟨v60, ev60⟩ : ∃ q : Int32, x4 + 6 = q := ⟨_, rfl⟩
  have zv60 : v60.toInt = (x4.toInt + 6) := by rw [← ev60]; exact (xz_add (X := x4.toInt) (Y := 6) rfl (by decide) (by omega) (by omega)).trans (by omega)
  refine xi_iinc (pc' := 1504) (x := x4) (v := v60) (lv' := [(4, .int v60), (3, .ref 167), (2, .ref 115), (1, .ref 0), (0, .ref 1000000)]) kc_195_1501 rfl rfl ev60 rfl (xm_lt ml_195 rfl) ?_
  refine xi_goto (pc' := 23) kc_195_1504 rfl ?_
  exact kk v60 hh37 (by omega) K39
set_option maxHeartbeats 8000000 in
theorem lc_24 {J : xe_J} {ov : List (List Int32)} (hJ : ∀ d mj as h, mj ≠ xe_loff → J d mj as h = none) (hov1 : ov[1]? = some [10, 0, 0, 0, 0, 0]) (hov2 : ov[2]? = some [99, 30, 50, 50, 1, 99999]) {xs : List Int32} (hov0 : ov[0]? = some xs) {Q : Option Value → xe_H → Prop} {h : xe_H} {x4 : Int32} (hi0 : 0 ≤ x4.toInt) (hi1 : x4.toInt + 6 ≤ xs.length) (hi2 : x4.toInt ≤ 3066) (T : xt h) (kk : ∀ (i : Int32) (h' : xe_H), i.toInt = x4.toInt + 6 → xk [(29, 0), (31, 0), (33, 0), (35, 0), (37, 0), (39, 0), (41, 0), (43, 0), (45, 0), (47, 0), (49, 0), (51, 0), (125, 0), (0, 9), (115, 1), (66, 8), (115, 18), (71, 0), (132, 0)] h h' → xw J ov 100 195 (23, [(4, .int i), (3, .ref 167), (2, .ref 115), (1, .ref 0), (0, .ref 1000000)], [], h') Q) : xw J ov 100 195 (1095, [(4, .int x4), (3, .ref 167), (2, .ref 115), (1, .ref 0), (0, .ref 1000000)], [], h) Q := by
  have K : xk [(29, 0), (31, 0), (33, 0), (35, 0), (37, 0), (39, 0), (41, 0), (43, 0), (45, 0), (47, 0), (49, 0), (51, 0), (125, 0), (0, 9), (115, 1), (66, 8), (115, 18), (71, 0), (132, 0)] h h := xk_re T
  refine xi_aload_n (pc' := 1096) (x := 0) kc_195_1095 rfl rfl ?_
  refine xi_aload_n (pc' := 1097) (x := 1000000) kc_195_1096 rfl rfl ?_
  refine xi_iload (pc' := 1099) (x := x4) kc_195_1097 rfl rfl ?_
  refine xi_iconst (pc' := 1100) (v := 1) kc_195_1099 rfl rfl ?_
  obtain ⟨v1, ev1⟩ : ∃ q : Int32, x4 + 1 = q := ⟨_, rfl⟩
  have zv1 : v1.toInt = (x4.toInt + 1) := by rw [← ev1]; exact (xz_add (X := x4.toInt) (Y := 1) rfl (by decide) (by omega) (by omega)).trans (by omega)
  refine xi_iadd (pc' := 1101) (v := v1) kc_195_1100 rfl ev1 ?_
  obtain ⟨a2, ea2⟩ : ∃ q : Int32, xs.getD (Int32.toNatClampNeg v1) 0 = q := ⟨_, rfl⟩
  have ra2 := xc_rng a2
  refine xi_ialoadO (pc' := 1102) (v := a2) kc_195_1101 rfl (by decide) hov0 (xi_in (by omega) (by omega)) ea2 ?_
  refine xi_aload_n (pc' := 1103) (x := 1000000) kc_195_1102 rfl rfl ?_
  refine xi_iload (pc' := 1105) (x := x4) kc_195_1103 rfl rfl ?_
  refine xi_iconst (pc' := 1106) (v := 2) kc_195_1105 rfl rfl ?_
  obtain ⟨v3, ev3⟩ : ∃ q : Int32, x4 + 2 = q := ⟨_, rfl⟩
  have zv3 : v3.toInt = (x4.toInt + 2) := by rw [← ev3]; exact (xz_add (X := x4.toInt) (Y := 2) rfl (by decide) (by omega) (by omega)).trans (by omega)
  refine xi_iadd (pc' := 1107) (v := v3) kc_195_1106 rfl ev3 ?_
  obtain ⟨a4, ea4⟩ : ∃ q : Int32, xs.getD (Int32.toNatClampNeg v3) 0 = q := ⟨_, rfl⟩
  have ra4 := xc_rng a4
  refine xi_ialoadO (pc' := 1108) (v := a4) kc_195_1107 rfl (by decide) hov0 (xi_in (by omega) (by omega)) ea4 ?_
  obtain ⟨u5, u6, bu5, bu6, A7⟩ := xq_0 K.1
  refine xi_virtual (mj := 165) (as := [.int a2, .int a4]) (st1 := []) (lv0 := [(0, .ref 0), (1, .int a2), (2, .int a4)]) kc_195_1108 rfl rfl rfl rfl rfl A7 (Nat.le_of_ble_eq_true rfl) (hJ _ _ _ _ (by decide)) (xm_le ml_165 rfl) rfl ?_
  refine mt_165_0 hJ hov1 hov2 (d := 97) (x1 := a2) (x2 := a4) K.1 (fun r8 hh9 K10 => ?_)
  have br8 := xc_rng r8
  have K11 := xk_tr K K10 rfl
  obtain ⟨u12, u13, bu12, bu13, A14⟩ := xq_0 K11.1
  have e15 : u6 = u13 := xk_eqi (q := 9) K10 rfl A7 A14 rfl rfl
  subst e15
  show xw J ov 100 195 (1111, [(4, .int x4), (3, .ref 167), (2, .ref 115), (1, .ref 0), (0, .ref 1000000)], [.int r8], hh9) _
  refine xi_pop (pc' := 1112) kc_195_1111 rfl rfl ?_
  refine xi_aload_n (pc' := 1113) (x := 115) kc_195_1112 rfl rfl ?_
  refine xi_aload_n (pc' := 1114) (x := 1000000) kc_195_1113 rfl rfl ?_
  refine xi_iload (pc' := 1116) (x := x4) kc_195_1114 rfl rfl ?_
  refine xi_iconst (pc' := 1117) (v := 1) kc_195_1116 rfl rfl ?_
  refine xi_iadd (pc' := 1118) (v := v1) kc_195_1117 rfl ev1 ?_
  refine xi_ialoadO (pc' := 1119) (v := a2) kc_195_1118 rfl (by decide) hov0 (xi_in (by omega) (by omega)) ea2 ?_
  refine xi_aload_n (pc' := 1120) (x := 1000000) kc_195_1119 rfl rfl ?_
  refine xi_iload (pc' := 1122) (x := x4) kc_195_1120 rfl rfl ?_
  refine xi_iconst (pc' := 1123) (v := 2) kc_195_1122 rfl rfl ?_
  refine xi_iadd (pc' := 1124) (v := v3) kc_195_1123 rfl ev3 ?_
  refine xi_ialoadO (pc' := 1125) (v := a4) kc_195_1124 rfl (by decide) hov0 (xi_in (by omega) (by omega)) ea4 ?_
  obtain ⟨u16, u17, u18, u19, u20, u21, u22, u23, u24, u25, u26, u27, u28, bu16, bu17, bu18, bu19, bu20, bu21, bu22, bu23, bu24, bu25, bu26, bu27, bu28, A29⟩ := xq_115 K11.1
  refine xi_virtual (mj := 62) (as := [.int a2, .int a4]) (st1 := []) (lv0 := [(0, .ref 115), (1, .int a2), (2, .int a4)]) kc_195_1125 rfl rfl rfl rfl rfl A29 (Nat.le_of_ble_eq_true rfl) (hJ _ _ _ _ (by decide)) (xm_le ml_62 rfl) rfl ?_
  refine mt_62_0 hJ hov1 hov2 (d := 97) (x1 := a2) (x2 := a4) K11.1 (fun r30 hh31 K32 => ?_)
  have br30 := xc_rng r30
  have K33 := xk_tr K11 K32 rfl
  obtain ⟨u34, u35, bu34, bu35, A36⟩ := xq_0 K33.1
  have e37 : u6 = u35 := xk_eqi (q := 9) K32 rfl A14 A36 rfl rfl
  subst e37
  obtain ⟨u38, u39, u40, u41, u42, u43, u44, u45, u46, u47, u48, u49, u50, bu38, bu39, bu40, bu41, bu42, bu43, bu44, bu45, bu46, bu47, bu48, bu49, bu50, A51⟩ := xq_115 K33.1
  have e52 : u17 = u39 := xk_eqi (q := 1) K32 rfl A29 A51 rfl rfl
  subst e52
  have e53 : u19 = u41 := xk_eqi (q := 18) K32 rfl A29 A51 rfl rfl
  subst e53
  show xw J ov 100 195 (1128, [(4, .int x4), (3, .ref 167), (2, .ref 115), (1, .ref 0), (0, .ref 1000000)], [.int r30], hh31) _
  refine xi_pop (pc' := 1129) kc_195_1128 rfl rfl ?_
  refine xi_goto (pc' := 1501) kc_195_1129 rfl ?_
  obtain ⟨v54, ev54⟩ : ∃ q : Int32, x4 + 6 = q := ⟨_, rfl⟩
  have zv54 : v54.toInt = (x4.toInt + 6) := by rw [← ev54]; exact (xz_add (X := x4.toInt) (Y := 6) rfl (by decide) (by omega) (by omega)).trans (by omega)
  refine xi_iinc (pc' := 1504) (x := x4) (v := v54) (lv' := [(4, .int v54), (3, .ref 167), (2, .ref 115), (1, .ref 0), (0, .ref 1000000)]) kc_195_1501 rfl rfl ev54 rfl (xm_lt ml_195 rfl) ?_
  refine xi_goto (pc' := 23) kc_195_1504 rfl ?_
  exact kk v54 hh31 (by omega) K33
set_option maxHeartbeats 8000000 in
theorem lc_25 {J : xe_J} {ov : List (List Int32)} (hJ : ∀ d mj as h, mj ≠ xe_loff → J d mj as h = none) (hov1 : ov[1]? = some [10, 0, 0, 0, 0, 0]) (hov2 : ov[2]? = some [99, 30, 50, 50, 1, 99999]) {xs : List Int32} (hov0 : ov[0]? = some xs) {Q : Option Value → xe_H → Prop} {h : xe_H} {x4 : Int32} (hi0 : 0 ≤ x4.toInt) (hi1 : x4.toInt + 6 ≤ xs.length) (hi2 : x4.toInt ≤ 3066) (T : xt h) (kk : ∀ (i : Int32) (h' : xe_H), i.toInt = x4.toInt + 6 → xk [(29, 0), (31, 0), (33, 0), (35, 0), (37, 0), (39, 0), (41, 0), (43, 0), (45, 0), (47, 0), (49, 0), (51, 0), (125, 0), (0, 9), (115, 1), (66, 8), (115, 18), (71, 0), (132, 0)] h h' → xw J ov 100 195 (23, [(4, .int i), (3, .ref 167), (2, .ref 115), (1, .ref 0), (0, .ref 1000000)], [], h') Q) : xw J ov 100 195 (1132, [(4, .int x4), (3, .ref 167), (2, .ref 115), (1, .ref 0), (0, .ref 1000000)], [], h) Q := by
  have K : xk [(29, 0), (31, 0), (33, 0), (35, 0), (37, 0), (39, 0), (41, 0), (43, 0), (45, 0), (47, 0), (49, 0), (51, 0), (125, 0), (0, 9), (115, 1), (66, 8), (115, 18), (71, 0), (132, 0)] h h := xk_re T
  refine xi_aload_n (pc' := 1133) (x := 0) kc_195_1132 rfl rfl ?_
  refine xi_aload_n (pc' := 1134) (x := 1000000) kc_195_1133 rfl rfl ?_
  refine xi_iload (pc' := 1136) (x := x4) kc_195_1134 rfl rfl ?_
  refine xi_iconst (pc' := 1137) (v := 1) kc_195_1136 rfl rfl ?_
  obtain ⟨v1, ev1⟩ : ∃ q : Int32, x4 + 1 = q := ⟨_, rfl⟩
  have zv1 : v1.toInt = (x4.toInt + 1) := by rw [← ev1]; exact (xz_add (X := x4.toInt) (Y := 1) rfl (by decide) (by omega) (by omega)).trans (by omega)
  refine xi_iadd (pc' := 1138) (v := v1) kc_195_1137 rfl ev1 ?_
  obtain ⟨a2, ea2⟩ : ∃ q : Int32, xs.getD (Int32.toNatClampNeg v1) 0 = q := ⟨_, rfl⟩
  have ra2 := xc_rng a2
  refine xi_ialoadO (pc' := 1139) (v := a2) kc_195_1138 rfl (by decide) hov0 (xi_in (by omega) (by omega)) ea2 ?_
  refine xi_aload_n (pc' := 1140) (x := 1000000) kc_195_1139 rfl rfl ?_
  refine xi_iload (pc' := 1142) (x := x4) kc_195_1140 rfl rfl ?_
  refine xi_iconst (pc' := 1143) (v := 2) kc_195_1142 rfl rfl ?_
  obtain ⟨v3, ev3⟩ : ∃ q : Int32, x4 + 2 = q := ⟨_, rfl⟩
  have zv3 : v3.toInt = (x4.toInt + 2) := by rw [← ev3]; exact (xz_add (X := x4.toInt) (Y := 2) rfl (by decide) (by omega) (by omega)).trans (by omega)
  refine xi_iadd (pc' := 1144) (v := v3) kc_195_1143 rfl ev3 ?_
  obtain ⟨a4, ea4⟩ : ∃ q : Int32, xs.getD (Int32.toNatClampNeg v3) 0 = q := ⟨_, rfl⟩
  have ra4 := xc_rng a4
  refine xi_ialoadO (pc' := 1145) (v := a4) kc_195_1144 rfl (by decide) hov0 (xi_in (by omega) (by omega)) ea4 ?_
  refine xi_aload_n (pc' := 1146) (x := 1000000) kc_195_1145 rfl rfl ?_
  refine xi_iload (pc' := 1148) (x := x4) kc_195_1146 rfl rfl ?_
  refine xi_iconst (pc' := 1149) (v := 3) kc_195_1148 rfl rfl ?_
  obtain ⟨v5, ev5⟩ : ∃ q : Int32, x4 + 3 = q := ⟨_, rfl⟩
  have zv5 : v5.toInt = (x4.toInt + 3) := by rw [← ev5]; exact (xz_add (X := x4.toInt) (Y := 3) rfl (by decide) (by omega) (by omega)).trans (by omega)
  refine xi_iadd (pc' := 1150) (v := v5) kc_195_1149 rfl ev5 ?_
  obtain ⟨a6, ea6⟩ : ∃ q : Int32, xs.getD (Int32.toNatClampNeg v5) 0 = q := ⟨_, rfl⟩
  have ra6 := xc_rng a6
  refine xi_ialoadO (pc' := 1151) (v := a6) kc_195_1150 rfl (by decide) hov0 (xi_in (by omega) (by omega)) ea6 ?_
  refine xi_aload_n (pc' := 1152) (x := 1000000) kc_195_1151 rfl rfl ?_
  refine xi_iload (pc' := 1154) (x := x4) kc_195_1152 rfl rfl ?_
  refine xi_iconst (pc' := 1155) (v := 4) kc_195_1154 rfl rfl ?_
  obtain ⟨v7, ev7⟩ : ∃ q : Int32, x4 + 4 = q := ⟨_, rfl⟩
  have zv7 : v7.toInt = (x4.toInt + 4) := by rw [← ev7]; exact (xz_add (X := x4.toInt) (Y := 4) rfl (by decide) (by omega) (by omega)).trans (by omega)
  refine xi_iadd (pc' := 1156) (v := v7) kc_195_1155 rfl ev7 ?_
  obtain ⟨a8, ea8⟩ : ∃ q : Int32, xs.getD (Int32.toNatClampNeg v7) 0 = q := ⟨_, rfl⟩
  have ra8 := xc_rng a8
  refine xi_ialoadO (pc' := 1157) (v := a8) kc_195_1156 rfl (by decide) hov0 (xi_in (by omega) (by omega)) ea8 ?_
  obtain ⟨u9, u10, bu9, bu10, A11⟩ := xq_0 K.1
  refine xi_virtual (mj := 167) (as := [.int a2, .int a4, .int a6, .int a8]) (st1 := []) (lv0 := [(0, .ref 0), (1, .int a2), (2, .int a4), (3, .int a6), (4, .int a8)]) kc_195_1157 rfl rfl rfl rfl rfl A11 (Nat.le_of_ble_eq_true rfl) (hJ _ _ _ _ (by decide)) (xm_le ml_167 rfl) rfl ?_
  refine mt_167_0 hJ hov1 hov2 (d := 98) (x1 := a2) (x2 := a4) (x3 := a6) (x4 := a8) K.1 (fun r12 hh13 br12 K14 => ?_)
  have K15 := xk_tr K K14 rfl
  obtain ⟨u16, u17, bu16, bu17, A18⟩ := xq_0 K15.1
  have e19 : u10 = u17 := xk_eqi (q := 9) K14 rfl A11 A18 rfl rfl
  subst e19
  show xw J ov 100 195 (1160, [(4, .int x4), (3, .ref 167), (2, .ref 115), (1, .ref 0), (0, .ref 1000000)], [.int r12], hh13) _
  refine xi_pop (pc' := 1161) kc_195_1160 rfl rfl ?_
  refine xi_aload_n (pc' := 1162) (x := 115) kc_195_1161 rfl rfl ?_
  refine xi_aload_n (pc' := 1163) (x := 1000000) kc_195_1162 rfl rfl ?_
  refine xi_iload (pc' := 1165) (x := x4) kc_195_1163 rfl rfl ?_
  refine xi_iconst (pc' := 1166) (v := 1) kc_195_1165 rfl rfl ?_
  refine xi_iadd (pc' := 1167) (v := v1) kc_195_1166 rfl ev1 ?_
  refine xi_ialoadO (pc' := 1168) (v := a2) kc_195_1167 rfl (by decide) hov0 (xi_in (by omega) (by omega)) ea2 ?_
  refine xi_aload_n (pc' := 1169) (x := 1000000) kc_195_1168 rfl rfl ?_
  refine xi_iload (pc' := 1171) (x := x4) kc_195_1169 rfl rfl ?_
  refine xi_iconst (pc' := 1172) (v := 2) kc_195_1171 rfl rfl ?_
  refine xi_iadd (pc' := 1173) (v := v3) kc_195_1172 rfl ev3 ?_
  refine xi_ialoadO (pc' := 1174) (v := a4) kc_195_1173 rfl (by decide) hov0 (xi_in (by omega) (by omega)) ea4 ?_
  refine xi_aload_n (pc' := 1175) (x := 1000000) kc_195_1174 rfl rfl ?_
  refine xi_iload (pc' := 1177) (x := x4) kc_195_1175 rfl rfl ?_
  refine xi_iconst (pc' := 1178) (v := 3) kc_195_1177 rfl rfl ?_
  refine xi_iadd (pc' := 1179) (v := v5) kc_195_1178 rfl ev5 ?_
  refine xi_ialoadO (pc' := 1180) (v := a6) kc_195_1179 rfl (by decide) hov0 (xi_in (by omega) (by omega)) ea6 ?_
  refine xi_aload_n (pc' := 1181) (x := 1000000) kc_195_1180 rfl rfl ?_
  refine xi_iload (pc' := 1183) (x := x4) kc_195_1181 rfl rfl ?_
  refine xi_iconst (pc' := 1184) (v := 4) kc_195_1183 rfl rfl ?_
  refine xi_iadd (pc' := 1185) (v := v7) kc_195_1184 rfl ev7 ?_
  refine xi_ialoadO (pc' := 1186) (v := a8) kc_195_1185 rfl (by decide) hov0 (xi_in (by omega) (by omega)) ea8 ?_
  obtain ⟨u20, u21, u22, u23, u24, u25, u26, u27, u28, u29, u30, u31, u32, bu20, bu21, bu22, bu23, bu24, bu25, bu26, bu27, bu28, bu29, bu30, bu31, bu32, A33⟩ := xq_115 K15.1
  refine xi_virtual (mj := 64) (as := [.int a2, .int a4, .int a6, .int a8]) (st1 := []) (lv0 := [(0, .ref 115), (1, .int a2), (2, .int a4), (3, .int a6), (4, .int a8)]) kc_195_1186 rfl rfl rfl rfl rfl A33 (Nat.le_of_ble_eq_true rfl) (hJ _ _ _ _ (by decide)) (xm_le ml_64 rfl) rfl ?_
  refine mt_64_0 hJ hov1 hov2 (d := 98) (x1 := a2) (x2 := a4) (x3 := a6) (x4 := a8) K15.1 (fun r34 hh35 br34 K36 => ?_)
  have K37 := xk_tr K15 K36 rfl
  obtain ⟨u38, u39, bu38, bu39, A40⟩ := xq_0 K37.1
  have e41 : u10 = u39 := xk_eqi (q := 9) K36 rfl A18 A40 rfl rfl
  subst e41
  obtain ⟨u42, u43, u44, u45, u46, u47, u48, u49, u50, u51, u52, u53, u54, bu42, bu43, bu44, bu45, bu46, bu47, bu48, bu49, bu50, bu51, bu52, bu53, bu54, A55⟩ := xq_115 K37.1
  have e56 : u21 = u43 := xk_eqi (q := 1) K36 rfl A33 A55 rfl rfl
  subst e56
  have e57 : u23 = u45 := xk_eqi (q := 18) K36 rfl A33 A55 rfl rfl
  subst e57
  show xw J ov 100 195 (1189, [(4, .int x4), (3, .ref 167), (2, .ref 115), (1, .ref 0), (0, .ref 1000000)], [.int r34], hh35) _
  refine xi_pop (pc' := 1190) kc_195_1189 rfl rfl ?_
  refine xi_goto (pc' := 1501) kc_195_1190 rfl ?_
  obtain ⟨v58, ev58⟩ : ∃ q : Int32, x4 + 6 = q := ⟨_, rfl⟩
  have zv58 : v58.toInt = (x4.toInt + 6) := by rw [← ev58]; exact (xz_add (X := x4.toInt) (Y := 6) rfl (by decide) (by omega) (by omega)).trans (by omega)
  refine xi_iinc (pc' := 1504) (x := x4) (v := v58) (lv' := [(4, .int v58), (3, .ref 167), (2, .ref 115), (1, .ref 0), (0, .ref 1000000)]) kc_195_1501 rfl rfl ev58 rfl (xm_lt ml_195 rfl) ?_
  refine xi_goto (pc' := 23) kc_195_1504 rfl ?_
  exact kk v58 hh35 (by omega) K37
set_option maxHeartbeats 8000000 in
theorem lc_26 {J : xe_J} {ov : List (List Int32)} (hJ : ∀ d mj as h, mj ≠ xe_loff → J d mj as h = none) (hov1 : ov[1]? = some [10, 0, 0, 0, 0, 0]) (hov2 : ov[2]? = some [99, 30, 50, 50, 1, 99999]) {xs : List Int32} (hov0 : ov[0]? = some xs) {Q : Option Value → xe_H → Prop} {h : xe_H} {x4 : Int32} (hi0 : 0 ≤ x4.toInt) (hi1 : x4.toInt + 6 ≤ xs.length) (hi2 : x4.toInt ≤ 3066) (T : xt h) (kk : ∀ (i : Int32) (h' : xe_H), i.toInt = x4.toInt + 6 → xk [(29, 0), (31, 0), (33, 0), (35, 0), (37, 0), (39, 0), (41, 0), (43, 0), (45, 0), (47, 0), (49, 0), (51, 0), (125, 0), (0, 9), (115, 1), (66, 8), (115, 18), (71, 0), (132, 0)] h h' → xw J ov 100 195 (23, [(4, .int i), (3, .ref 167), (2, .ref 115), (1, .ref 0), (0, .ref 1000000)], [], h') Q) : xw J ov 100 195 (1193, [(4, .int x4), (3, .ref 167), (2, .ref 115), (1, .ref 0), (0, .ref 1000000)], [], h) Q := by
  have K : xk [(29, 0), (31, 0), (33, 0), (35, 0), (37, 0), (39, 0), (41, 0), (43, 0), (45, 0), (47, 0), (49, 0), (51, 0), (125, 0), (0, 9), (115, 1), (66, 8), (115, 18), (71, 0), (132, 0)] h h := xk_re T
  refine xi_aload_n (pc' := 1194) (x := 0) kc_195_1193 rfl rfl ?_
  obtain ⟨u1, u2, bu1, bu2, A3⟩ := xq_0 K.1
  refine xi_virtual (mj := 169) (as := []) (st1 := []) (lv0 := [(0, .ref 0)]) kc_195_1194 rfl rfl rfl rfl rfl A3 (Nat.le_of_ble_eq_true rfl) (hJ _ _ _ _ (by decide)) (xm_le ml_169 rfl) rfl ?_
  refine mt_169_0 hJ hov1 hov2 (d := 95)  K.1 (fun r4 hh5 K6 => ?_)
  have br4 := xc_rng r4
  have K7 := xk_tr K K6 rfl
  obtain ⟨u8, u9, bu8, bu9, A10⟩ := xq_0 K7.1
  have e11 : u2 = u9 := xk_eqi (q := 9) K6 rfl A3 A10 rfl rfl
  subst e11
  show xw J ov 100 195 (1197, [(4, .int x4), (3, .ref 167), (2, .ref 115), (1, .ref 0), (0, .ref 1000000)], [.int r4], hh5) _
  refine xi_pop (pc' := 1198) kc_195_1197 rfl rfl ?_
  refine xi_aload_n (pc' := 1199) (x := 115) kc_195_1198 rfl rfl ?_
  obtain ⟨u12, u13, u14, u15, u16, u17, u18, u19, u20, u21, u22, u23, u24, bu12, bu13, bu14, bu15, bu16, bu17, bu18, bu19, bu20, bu21, bu22, bu23, bu24, A25⟩ := xq_115 K7.1
  refine xi_virtual (mj := 65) (as := []) (st1 := []) (lv0 := [(0, .ref 115)]) kc_195_1199 rfl rfl rfl rfl rfl A25 (Nat.le_of_ble_eq_true rfl) (hJ _ _ _ _ (by decide)) (xm_le ml_65 rfl) rfl ?_
  refine mt_65_0 hJ hov1 hov2 (d := 97)  K7.1 (fun r26 hh27 K28 => ?_)
  have br26 := xc_rng r26
  have K29 := xk_tr K7 K28 rfl
  obtain ⟨u30, u31, bu30, bu31, A32⟩ := xq_0 K29.1
  have e33 : u2 = u31 := xk_eqi (q := 9) K28 rfl A10 A32 rfl rfl
  subst e33
  obtain ⟨u34, u35, u36, u37, u38, u39, u40, u41, u42, u43, u44, u45, u46, bu34, bu35, bu36, bu37, bu38, bu39, bu40, bu41, bu42, bu43, bu44, bu45, bu46, A47⟩ := xq_115 K29.1
  have e48 : u13 = u35 := xk_eqi (q := 1) K28 rfl A25 A47 rfl rfl
  subst e48
  have e49 : u15 = u37 := xk_eqi (q := 18) K28 rfl A25 A47 rfl rfl
  subst e49
  show xw J ov 100 195 (1202, [(4, .int x4), (3, .ref 167), (2, .ref 115), (1, .ref 0), (0, .ref 1000000)], [.int r26], hh27) _
  refine xi_pop (pc' := 1203) kc_195_1202 rfl rfl ?_
  refine xi_goto (pc' := 1501) kc_195_1203 rfl ?_
  obtain ⟨v50, ev50⟩ : ∃ q : Int32, x4 + 6 = q := ⟨_, rfl⟩
  have zv50 : v50.toInt = (x4.toInt + 6) := by rw [← ev50]; exact (xz_add (X := x4.toInt) (Y := 6) rfl (by decide) (by omega) (by omega)).trans (by omega)
  refine xi_iinc (pc' := 1504) (x := x4) (v := v50) (lv' := [(4, .int v50), (3, .ref 167), (2, .ref 115), (1, .ref 0), (0, .ref 1000000)]) kc_195_1501 rfl rfl ev50 rfl (xm_lt ml_195 rfl) ?_
  refine xi_goto (pc' := 23) kc_195_1504 rfl ?_
  exact kk v50 hh27 (by omega) K29
set_option maxHeartbeats 8000000 in
theorem lc_27 {J : xe_J} {ov : List (List Int32)} (hJ : ∀ d mj as h, mj ≠ xe_loff → J d mj as h = none) (hov1 : ov[1]? = some [10, 0, 0, 0, 0, 0]) (hov2 : ov[2]? = some [99, 30, 50, 50, 1, 99999]) {xs : List Int32} (hov0 : ov[0]? = some xs) {Q : Option Value → xe_H → Prop} {h : xe_H} {x4 : Int32} (hi0 : 0 ≤ x4.toInt) (hi1 : x4.toInt + 6 ≤ xs.length) (hi2 : x4.toInt ≤ 3066) (T : xt h) (kk : ∀ (i : Int32) (h' : xe_H), i.toInt = x4.toInt + 6 → xk [(29, 0), (31, 0), (33, 0), (35, 0), (37, 0), (39, 0), (41, 0), (43, 0), (45, 0), (47, 0), (49, 0), (51, 0), (125, 0), (0, 9), (115, 1), (66, 8), (115, 18), (71, 0), (132, 0)] h h' → xw J ov 100 195 (23, [(4, .int i), (3, .ref 167), (2, .ref 115), (1, .ref 0), (0, .ref 1000000)], [], h') Q) : xw J ov 100 195 (1206, [(4, .int x4), (3, .ref 167), (2, .ref 115), (1, .ref 0), (0, .ref 1000000)], [], h) Q := by
  have K : xk [(29, 0), (31, 0), (33, 0), (35, 0), (37, 0), (39, 0), (41, 0), (43, 0), (45, 0), (47, 0), (49, 0), (51, 0), (125, 0), (0, 9), (115, 1), (66, 8), (115, 18), (71, 0), (132, 0)] h h := xk_re T
  refine xi_aload_n (pc' := 1207) (x := 0) kc_195_1206 rfl rfl ?_
  refine xi_aload_n (pc' := 1208) (x := 1000000) kc_195_1207 rfl rfl ?_
  refine xi_iload (pc' := 1210) (x := x4) kc_195_1208 rfl rfl ?_
  refine xi_iconst (pc' := 1211) (v := 1) kc_195_1210 rfl rfl ?_
  obtain ⟨v1, ev1⟩ : ∃ q : Int32, x4 + 1 = q := ⟨_, rfl⟩
  have zv1 : v1.toInt = (x4.toInt + 1) := by rw [← ev1]; exact (xz_add (X := x4.toInt) (Y := 1) rfl (by decide) (by omega) (by omega)).trans (by omega)
  refine xi_iadd (pc' := 1212) (v := v1) kc_195_1211 rfl ev1 ?_
  obtain ⟨a2, ea2⟩ : ∃ q : Int32, xs.getD (Int32.toNatClampNeg v1) 0 = q := ⟨_, rfl⟩
  have ra2 := xc_rng a2
  refine xi_ialoadO (pc' := 1213) (v := a2) kc_195_1212 rfl (by decide) hov0 (xi_in (by omega) (by omega)) ea2 ?_
  obtain ⟨u3, u4, bu3, bu4, A5⟩ := xq_0 K.1
  refine xi_virtual (mj := 172) (as := [.int a2]) (st1 := []) (lv0 := [(0, .ref 0), (1, .int a2)]) kc_195_1213 rfl rfl rfl rfl rfl A5 (Nat.le_of_ble_eq_true rfl) (hJ _ _ _ _ (by decide)) (xm_le ml_172 rfl) rfl ?_
  refine mt_172_0 hJ hov1 hov2 (d := 79) (x1 := a2) K.1 (fun r6 hh7 K8 => ?_)
  have br6 := xc_rng r6
  have K9 := xk_tr K K8 rfl
  obtain ⟨u10, u11, bu10, bu11, A12⟩ := xq_0 K9.1
  have e13 : u4 = u11 := xk_eqi (q := 9) K8 rfl A5 A12 rfl rfl
  subst e13
  show xw J ov 100 195 (1216, [(4, .int x4), (3, .ref 167), (2, .ref 115), (1, .ref 0), (0, .ref 1000000)], [.int r6], hh7) _
  refine xi_pop (pc' := 1217) kc_195_1216 rfl rfl ?_
  refine xi_aload_n (pc' := 1218) (x := 115) kc_195_1217 rfl rfl ?_
  refine xi_aload_n (pc' := 1219) (x := 1000000) kc_195_1218 rfl rfl ?_
  refine xi_iload (pc' := 1221) (x := x4) kc_195_1219 rfl rfl ?_
  refine xi_iconst (pc' := 1222) (v := 1) kc_195_1221 rfl rfl ?_
  refine xi_iadd (pc' := 1223) (v := v1) kc_195_1222 rfl ev1 ?_
  refine xi_ialoadO (pc' := 1224) (v := a2) kc_195_1223 rfl (by decide) hov0 (xi_in (by omega) (by omega)) ea2 ?_
  obtain ⟨u14, u15, u16, u17, u18, u19, u20, u21, u22, u23, u24, u25, u26, bu14, bu15, bu16, bu17, bu18, bu19, bu20, bu21, bu22, bu23, bu24, bu25, bu26, A27⟩ := xq_115 K9.1
  refine xi_virtual (mj := 68) (as := [.int a2]) (st1 := []) (lv0 := [(0, .ref 115), (1, .int a2)]) kc_195_1224 rfl rfl rfl rfl rfl A27 (Nat.le_of_ble_eq_true rfl) (hJ _ _ _ _ (by decide)) (xm_le ml_68 rfl) rfl ?_
  refine mt_68_0 hJ hov1 hov2 (d := 97) (x1 := a2) K9.1 (fun r28 hh29 K30 => ?_)
  have br28 := xc_rng r28
  have K31 := xk_tr K9 K30 rfl
  obtain ⟨u32, u33, bu32, bu33, A34⟩ := xq_0 K31.1
  have e35 : u4 = u33 := xk_eqi (q := 9) K30 rfl A12 A34 rfl rfl
  subst e35
  obtain ⟨u36, u37, u38, u39, u40, u41, u42, u43, u44, u45, u46, u47, u48, bu36, bu37, bu38, bu39, bu40, bu41, bu42, bu43, bu44, bu45, bu46, bu47, bu48, A49⟩ := xq_115 K31.1
  have e50 : u15 = u37 := xk_eqi (q := 1) K30 rfl A27 A49 rfl rfl
  subst e50
  have e51 : u17 = u39 := xk_eqi (q := 18) K30 rfl A27 A49 rfl rfl
  subst e51
  show xw J ov 100 195 (1227, [(4, .int x4), (3, .ref 167), (2, .ref 115), (1, .ref 0), (0, .ref 1000000)], [.int r28], hh29) _
  refine xi_pop (pc' := 1228) kc_195_1227 rfl rfl ?_
  refine xi_goto (pc' := 1501) kc_195_1228 rfl ?_
  obtain ⟨v52, ev52⟩ : ∃ q : Int32, x4 + 6 = q := ⟨_, rfl⟩
  have zv52 : v52.toInt = (x4.toInt + 6) := by rw [← ev52]; exact (xz_add (X := x4.toInt) (Y := 6) rfl (by decide) (by omega) (by omega)).trans (by omega)
  refine xi_iinc (pc' := 1504) (x := x4) (v := v52) (lv' := [(4, .int v52), (3, .ref 167), (2, .ref 115), (1, .ref 0), (0, .ref 1000000)]) kc_195_1501 rfl rfl ev52 rfl (xm_lt ml_195 rfl) ?_
  refine xi_goto (pc' := 23) kc_195_1504 rfl ?_
  exact kk v52 hh29 (by omega) K31
set_option maxHeartbeats 8000000 in
theorem lc_28 {J : xe_J} {ov : List (List Int32)} (hJ : ∀ d mj as h, mj ≠ xe_loff → J d mj as h = none) (hov1 : ov[1]? = some [10, 0, 0, 0, 0, 0]) (hov2 : ov[2]? = some [99, 30, 50, 50, 1, 99999]) {xs : List Int32} (hov0 : ov[0]? = some xs) {Q : Option Value → xe_H → Prop} {h : xe_H} {x4 : Int32} (hi0 : 0 ≤ x4.toInt) (hi1 : x4.toInt + 6 ≤ xs.length) (hi2 : x4.toInt ≤ 3066) (T : xt h) (kk : ∀ (i : Int32) (h' : xe_H), i.toInt = x4.toInt + 6 → xk [(29, 0), (31, 0), (33, 0), (35, 0), (37, 0), (39, 0), (41, 0), (43, 0), (45, 0), (47, 0), (49, 0), (51, 0), (125, 0), (0, 9), (115, 1), (66, 8), (115, 18), (71, 0), (132, 0)] h h' → xw J ov 100 195 (23, [(4, .int i), (3, .ref 167), (2, .ref 115), (1, .ref 0), (0, .ref 1000000)], [], h') Q) : xw J ov 100 195 (1231, [(4, .int x4), (3, .ref 167), (2, .ref 115), (1, .ref 0), (0, .ref 1000000)], [], h) Q := by
  have K : xk [(29, 0), (31, 0), (33, 0), (35, 0), (37, 0), (39, 0), (41, 0), (43, 0), (45, 0), (47, 0), (49, 0), (51, 0), (125, 0), (0, 9), (115, 1), (66, 8), (115, 18), (71, 0), (132, 0)] h h := xk_re T
  refine xi_aload_n (pc' := 1232) (x := 0) kc_195_1231 rfl rfl ?_
  refine xi_aload_n (pc' := 1233) (x := 1000000) kc_195_1232 rfl rfl ?_
  refine xi_iload (pc' := 1235) (x := x4) kc_195_1233 rfl rfl ?_
  refine xi_iconst (pc' := 1236) (v := 1) kc_195_1235 rfl rfl ?_
  obtain ⟨v1, ev1⟩ : ∃ q : Int32, x4 + 1 = q := ⟨_, rfl⟩
  have zv1 : v1.toInt = (x4.toInt + 1) := by rw [← ev1]; exact (xz_add (X := x4.toInt) (Y := 1) rfl (by decide) (by omega) (by omega)).trans (by omega)
  refine xi_iadd (pc' := 1237) (v := v1) kc_195_1236 rfl ev1 ?_
  obtain ⟨a2, ea2⟩ : ∃ q : Int32, xs.getD (Int32.toNatClampNeg v1) 0 = q := ⟨_, rfl⟩
  have ra2 := xc_rng a2
  refine xi_ialoadO (pc' := 1238) (v := a2) kc_195_1237 rfl (by decide) hov0 (xi_in (by omega) (by omega)) ea2 ?_
  refine xi_aload_n (pc' := 1239) (x := 1000000) kc_195_1238 rfl rfl ?_
  refine xi_iload (pc' := 1241) (x := x4) kc_195_1239 rfl rfl ?_
  refine xi_iconst (pc' := 1242) (v := 2) kc_195_1241 rfl rfl ?_
  obtain ⟨v3, ev3⟩ : ∃ q : Int32, x4 + 2 = q := ⟨_, rfl⟩
  have zv3 : v3.toInt = (x4.toInt + 2) := by rw [← ev3]; exact (xz_add (X := x4.toInt) (Y := 2) rfl (by decide) (by omega) (by omega)).trans (by omega)
  refine xi_iadd (pc' := 1243) (v := v3) kc_195_1242 rfl ev3 ?_
  obtain ⟨a4, ea4⟩ : ∃ q : Int32, xs.getD (Int32.toNatClampNeg v3) 0 = q := ⟨_, rfl⟩
  have ra4 := xc_rng a4
  refine xi_ialoadO (pc' := 1244) (v := a4) kc_195_1243 rfl (by decide) hov0 (xi_in (by omega) (by omega)) ea4 ?_
  refine xi_aload_n (pc' := 1245) (x := 1000000) kc_195_1244 rfl rfl ?_
  refine xi_iload (pc' := 1247) (x := x4) kc_195_1245 rfl rfl ?_
  refine xi_iconst (pc' := 1248) (v := 3) kc_195_1247 rfl rfl ?_
  obtain ⟨v5, ev5⟩ : ∃ q : Int32, x4 + 3 = q := ⟨_, rfl⟩
  have zv5 : v5.toInt = (x4.toInt + 3) := by rw [← ev5]; exact (xz_add (X := x4.toInt) (Y := 3) rfl (by decide) (by omega) (by omega)).trans (by omega)
  refine xi_iadd (pc' := 1249) (v := v5) kc_195_1248 rfl ev5 ?_
  obtain ⟨a6, ea6⟩ : ∃ q : Int32, xs.getD (Int32.toNatClampNeg v5) 0 = q := ⟨_, rfl⟩
  have ra6 := xc_rng a6
  refine xi_ialoadO (pc' := 1250) (v := a6) kc_195_1249 rfl (by decide) hov0 (xi_in (by omega) (by omega)) ea6 ?_
  refine xi_aload_n (pc' := 1251) (x := 1000000) kc_195_1250 rfl rfl ?_
  refine xi_iload (pc' := 1253) (x := x4) kc_195_1251 rfl rfl ?_
  refine xi_iconst (pc' := 1254) (v := 4) kc_195_1253 rfl rfl ?_
  obtain ⟨v7, ev7⟩ : ∃ q : Int32, x4 + 4 = q := ⟨_, rfl⟩
  have zv7 : v7.toInt = (x4.toInt + 4) := by rw [← ev7]; exact (xz_add (X := x4.toInt) (Y := 4) rfl (by decide) (by omega) (by omega)).trans (by omega)
  refine xi_iadd (pc' := 1255) (v := v7) kc_195_1254 rfl ev7 ?_
  obtain ⟨a8, ea8⟩ : ∃ q : Int32, xs.getD (Int32.toNatClampNeg v7) 0 = q := ⟨_, rfl⟩
  have ra8 := xc_rng a8
  refine xi_ialoadO (pc' := 1256) (v := a8) kc_195_1255 rfl (by decide) hov0 (xi_in (by omega) (by omega)) ea8 ?_
  obtain ⟨u9, u10, bu9, bu10, A11⟩ := xq_0 K.1
  refine xi_virtual (mj := 177) (as := [.int a2, .int a4, .int a6, .int a8]) (st1 := []) (lv0 := [(0, .ref 0), (1, .int a2), (2, .int a4), (3, .int a6), (4, .int a8)]) kc_195_1256 rfl rfl rfl rfl rfl A11 (Nat.le_of_ble_eq_true rfl) (hJ _ _ _ _ (by decide)) (xm_le ml_177 rfl) rfl ?_
  refine mt_177_0 hJ hov1 hov2 (d := 98) (x1 := a2) (x2 := a4) (x3 := a6) (x4 := a8) K.1 (fun r12 hh13 br12 K14 => ?_)
  have K15 := xk_tr K K14 rfl
  obtain ⟨u16, u17, bu16, bu17, A18⟩ := xq_0 K15.1
  have e19 : u10 = u17 := xk_eqi (q := 9) K14 rfl A11 A18 rfl rfl
  subst e19
  show xw J ov 100 195 (1259, [(4, .int x4), (3, .ref 167), (2, .ref 115), (1, .ref 0), (0, .ref 1000000)], [.int r12], hh13) _
  refine xi_pop (pc' := 1260) kc_195_1259 rfl rfl ?_
  refine xi_aload_n (pc' := 1261) (x := 115) kc_195_1260 rfl rfl ?_
  refine xi_aload_n (pc' := 1262) (x := 1000000) kc_195_1261 rfl rfl ?_
  refine xi_iload (pc' := 1264) (x := x4) kc_195_1262 rfl rfl ?_
  refine xi_iconst (pc' := 1265) (v := 1) kc_195_1264 rfl rfl ?_
  refine xi_iadd (pc' := 1266) (v := v1) kc_195_1265 rfl ev1 ?_
  refine xi_ialoadO (pc' := 1267) (v := a2) kc_195_1266 rfl (by decide) hov0 (xi_in (by omega) (by omega)) ea2 ?_
  refine xi_aload_n (pc' := 1268) (x := 1000000) kc_195_1267 rfl rfl ?_
  refine xi_iload (pc' := 1270) (x := x4) kc_195_1268 rfl rfl ?_
  refine xi_iconst (pc' := 1271) (v := 2) kc_195_1270 rfl rfl ?_
  refine xi_iadd (pc' := 1272) (v := v3) kc_195_1271 rfl ev3 ?_
  refine xi_ialoadO (pc' := 1273) (v := a4) kc_195_1272 rfl (by decide) hov0 (xi_in (by omega) (by omega)) ea4 ?_
  refine xi_aload_n (pc' := 1274) (x := 1000000) kc_195_1273 rfl rfl ?_
  refine xi_iload (pc' := 1276) (x := x4) kc_195_1274 rfl rfl ?_
  refine xi_iconst (pc' := 1277) (v := 3) kc_195_1276 rfl rfl ?_
  refine xi_iadd (pc' := 1278) (v := v5) kc_195_1277 rfl ev5 ?_
  refine xi_ialoadO (pc' := 1279) (v := a6) kc_195_1278 rfl (by decide) hov0 (xi_in (by omega) (by omega)) ea6 ?_
  refine xi_aload_n (pc' := 1280) (x := 1000000) kc_195_1279 rfl rfl ?_
  refine xi_iload (pc' := 1282) (x := x4) kc_195_1280 rfl rfl ?_
  refine xi_iconst (pc' := 1283) (v := 4) kc_195_1282 rfl rfl ?_
  refine xi_iadd (pc' := 1284) (v := v7) kc_195_1283 rfl ev7 ?_
  refine xi_ialoadO (pc' := 1285) (v := a8) kc_195_1284 rfl (by decide) hov0 (xi_in (by omega) (by omega)) ea8 ?_
  obtain ⟨u20, u21, u22, u23, u24, u25, u26, u27, u28, u29, u30, u31, u32, bu20, bu21, bu22, bu23, bu24, bu25, bu26, bu27, bu28, bu29, bu30, bu31, bu32, A33⟩ := xq_115 K15.1
  refine xi_virtual (mj := 70) (as := [.int a2, .int a4, .int a6, .int a8]) (st1 := []) (lv0 := [(0, .ref 115), (1, .int a2), (2, .int a4), (3, .int a6), (4, .int a8)]) kc_195_1285 rfl rfl rfl rfl rfl A33 (Nat.le_of_ble_eq_true rfl) (hJ _ _ _ _ (by decide)) (xm_le ml_70 rfl) rfl ?_
  refine mt_70_0 hJ hov1 hov2 (d := 98) (x1 := a2) (x2 := a4) (x3 := a6) (x4 := a8) K15.1 (fun r34 hh35 br34 K36 => ?_)
  have K37 := xk_tr K15 K36 rfl
  obtain ⟨u38, u39, bu38, bu39, A40⟩ := xq_0 K37.1
  have e41 : u10 = u39 := xk_eqi (q := 9) K36 rfl A18 A40 rfl rfl
  subst e41
  obtain ⟨u42, u43, u44, u45, u46, u47, u48, u49, u50, u51, u52, u53, u54, bu42, bu43, bu44, bu45, bu46, bu47, bu48, bu49, bu50, bu51, bu52, bu53, bu54, A55⟩ := xq_115 K37.1
  have e56 : u21 = u43 := xk_eqi (q := 1) K36 rfl A33 A55 rfl rfl
  subst e56
  have e57 : u23 = u45 := xk_eqi (q := 18) K36 rfl A33 A55 rfl rfl
  subst e57
  show xw J ov 100 195 (1288, [(4, .int x4), (3, .ref 167), (2, .ref 115), (1, .ref 0), (0, .ref 1000000)], [.int r34], hh35) _
  refine xi_pop (pc' := 1289) kc_195_1288 rfl rfl ?_
  refine xi_goto (pc' := 1501) kc_195_1289 rfl ?_
  obtain ⟨v58, ev58⟩ : ∃ q : Int32, x4 + 6 = q := ⟨_, rfl⟩
  have zv58 : v58.toInt = (x4.toInt + 6) := by rw [← ev58]; exact (xz_add (X := x4.toInt) (Y := 6) rfl (by decide) (by omega) (by omega)).trans (by omega)
  refine xi_iinc (pc' := 1504) (x := x4) (v := v58) (lv' := [(4, .int v58), (3, .ref 167), (2, .ref 115), (1, .ref 0), (0, .ref 1000000)]) kc_195_1501 rfl rfl ev58 rfl (xm_lt ml_195 rfl) ?_
  refine xi_goto (pc' := 23) kc_195_1504 rfl ?_
  exact kk v58 hh35 (by omega) K37
set_option maxHeartbeats 8000000 in
theorem lc_29 {J : xe_J} {ov : List (List Int32)} (hJ : ∀ d mj as h, mj ≠ xe_loff → J d mj as h = none) (hov1 : ov[1]? = some [10, 0, 0, 0, 0, 0]) (hov2 : ov[2]? = some [99, 30, 50, 50, 1, 99999]) {xs : List Int32} (hov0 : ov[0]? = some xs) {Q : Option Value → xe_H → Prop} {h : xe_H} {x4 : Int32} (hi0 : 0 ≤ x4.toInt) (hi1 : x4.toInt + 6 ≤ xs.length) (hi2 : x4.toInt ≤ 3066) (T : xt h) (kk : ∀ (i : Int32) (h' : xe_H), i.toInt = x4.toInt + 6 → xk [(29, 0), (31, 0), (33, 0), (35, 0), (37, 0), (39, 0), (41, 0), (43, 0), (45, 0), (47, 0), (49, 0), (51, 0), (125, 0), (0, 9), (115, 1), (66, 8), (115, 18), (71, 0), (132, 0)] h h' → xw J ov 100 195 (23, [(4, .int i), (3, .ref 167), (2, .ref 115), (1, .ref 0), (0, .ref 1000000)], [], h') Q) : xw J ov 100 195 (1292, [(4, .int x4), (3, .ref 167), (2, .ref 115), (1, .ref 0), (0, .ref 1000000)], [], h) Q := by
  have K : xk [(29, 0), (31, 0), (33, 0), (35, 0), (37, 0), (39, 0), (41, 0), (43, 0), (45, 0), (47, 0), (49, 0), (51, 0), (125, 0), (0, 9), (115, 1), (66, 8), (115, 18), (71, 0), (132, 0)] h h := xk_re T
  refine xi_aload_n (pc' := 1293) (x := 0) kc_195_1292 rfl rfl ?_
  refine xi_aload_n (pc' := 1294) (x := 1000000) kc_195_1293 rfl rfl ?_
  refine xi_iload (pc' := 1296) (x := x4) kc_195_1294 rfl rfl ?_
  refine xi_iconst (pc' := 1297) (v := 1) kc_195_1296 rfl rfl ?_
  obtain ⟨v1, ev1⟩ : ∃ q : Int32, x4 + 1 = q := ⟨_, rfl⟩
  have zv1 : v1.toInt = (x4.toInt + 1) := by rw [← ev1]; exact (xz_add (X := x4.toInt) (Y := 1) rfl (by decide) (by omega) (by omega)).trans (by omega)
  refine xi_iadd (pc' := 1298) (v := v1) kc_195_1297 rfl ev1 ?_
  obtain ⟨a2, ea2⟩ : ∃ q : Int32, xs.getD (Int32.toNatClampNeg v1) 0 = q := ⟨_, rfl⟩
  have ra2 := xc_rng a2
  refine xi_ialoadO (pc' := 1299) (v := a2) kc_195_1298 rfl (by decide) hov0 (xi_in (by omega) (by omega)) ea2 ?_
  by_cases c3 : a2.toInt = 0
  · refine xi_ift (pc' := 1306) kc_195_1299 rfl (xc_eq_t (X := a2.toInt) (Y := 0) rfl (by decide) (by omega)) ?_
    refine xi_iconst (pc' := 1307) (v := 0) kc_195_1306 rfl rfl ?_
    obtain ⟨u4, u5, bu4, bu5, A6⟩ := xq_0 K.1
    refine xi_virtual (mj := 179) (as := [.int 0]) (st1 := []) (lv0 := [(0, .ref 0), (1, .int 0)]) kc_195_1307 rfl rfl rfl rfl rfl A6 (Nat.le_of_ble_eq_true rfl) (hJ _ _ _ _ (by decide)) (xm_le ml_179 rfl) rfl ?_
    have zc0 : (0 : Int32).toInt = 0 := by decide
    refine mt_179_0 hJ hov1 hov2 (d := 98) (x1 := 0) K.1 (by first | omega | decide) (fun r7 hh8 br7 K9 => ?_)
    have K10 := xk_tr K K9 rfl
    obtain ⟨u11, u12, bu11, bu12, A13⟩ := xq_0 K10.1
    have e14 : u5 = u12 := xk_eqi (q := 9) K9 rfl A6 A13 rfl rfl
    subst e14
    show xw J ov 100 195 (1310, [(4, .int x4), (3, .ref 167), (2, .ref 115), (1, .ref 0), (0, .ref 1000000)], [.int r7], hh8) _
    refine xi_pop (pc' := 1311) kc_195_1310 rfl rfl ?_
    refine xi_aload_n (pc' := 1312) (x := 115) kc_195_1311 rfl rfl ?_
    refine xi_aload_n (pc' := 1313) (x := 1000000) kc_195_1312 rfl rfl ?_
    refine xi_iload (pc' := 1315) (x := x4) kc_195_1313 rfl rfl ?_
    refine xi_iconst (pc' := 1316) (v := 1) kc_195_1315 rfl rfl ?_
    refine xi_iadd (pc' := 1317) (v := v1) kc_195_1316 rfl ev1 ?_
    refine xi_ialoadO (pc' := 1318) (v := a2) kc_195_1317 rfl (by decide) hov0 (xi_in (by omega) (by omega)) ea2 ?_
    refine xi_ift (pc' := 1325) kc_195_1318 rfl (xc_eq_t (X := a2.toInt) (Y := 0) rfl (by decide) (by omega)) ?_
    refine xi_iconst (pc' := 1326) (v := 0) kc_195_1325 rfl rfl ?_
    obtain ⟨u15, u16, u17, u18, u19, u20, u21, u22, u23, u24, u25, u26, u27, bu15, bu16, bu17, bu18, bu19, bu20, bu21, bu22, bu23, bu24, bu25, bu26, bu27, A28⟩ := xq_115 K10.1
    refine xi_virtual (mj := 71) (as := [.int 0]) (st1 := []) (lv0 := [(0, .ref 115), (1, .int 0)]) kc_195_1326 rfl rfl rfl rfl rfl A28 (Nat.le_of_ble_eq_true rfl) (hJ _ _ _ _ (by decide)) (xm_le ml_71 rfl) rfl ?_
    have zc0 : (0 : Int32).toInt = 0 := by decide
    refine mt_71_0 hJ hov1 hov2 (d := 98) (x1 := 0) K10.1 (by first | omega | decide) (fun r29 hh30 br29 K31 => ?_)
    have K32 := xk_tr K10 K31 rfl
    obtain ⟨u33, u34, bu33, bu34, A35⟩ := xq_0 K32.1
    have e36 : u5 = u34 := xk_eqi (q := 9) K31 rfl A13 A35 rfl rfl
    subst e36
    obtain ⟨u37, u38, u39, u40, u41, u42, u43, u44, u45, u46, u47, u48, u49, bu37, bu38, bu39, bu40, bu41, bu42, bu43, bu44, bu45, bu46, bu47, bu48, bu49, A50⟩ := xq_115 K32.1
    have e51 : u16 = u38 := xk_eqi (q := 1) K31 rfl A28 A50 rfl rfl
    subst e51
    have e52 : u18 = u40 := xk_eqi (q := 18) K31 rfl A28 A50 rfl rfl
    subst e52
    show xw J ov 100 195 (1329, [(4, .int x4), (3, .ref 167), (2, .ref 115), (1, .ref 0), (0, .ref 1000000)], [.int r29], hh30) _
    refine xi_pop (pc' := 1330) kc_195_1329 rfl rfl ?_
    refine xi_goto (pc' := 1501) kc_195_1330 rfl ?_
    obtain ⟨v53, ev53⟩ : ∃ q : Int32, x4 + 6 = q := ⟨_, rfl⟩
    have zv53 : v53.toInt = (x4.toInt + 6) := by rw [← ev53]; exact (xz_add (X := x4.toInt) (Y := 6) rfl (by decide) (by omega) (by omega)).trans (by omega)
    refine xi_iinc (pc' := 1504) (x := x4) (v := v53) (lv' := [(4, .int v53), (3, .ref 167), (2, .ref 115), (1, .ref 0), (0, .ref 1000000)]) kc_195_1501 rfl rfl ev53 rfl (xm_lt ml_195 rfl) ?_
    refine xi_goto (pc' := 23) kc_195_1504 rfl ?_
    exact kk v53 hh30 (by omega) K32
  · refine xi_iff (pc' := 1302) kc_195_1299 rfl (xc_eq_f (X := a2.toInt) (Y := 0) rfl (by decide) (by omega)) ?_
    refine xi_iconst (pc' := 1303) (v := 1) kc_195_1302 rfl rfl ?_
    refine xi_goto (pc' := 1307) kc_195_1303 rfl ?_
    obtain ⟨u54, u55, bu54, bu55, A56⟩ := xq_0 K.1
    refine xi_virtual (mj := 179) (as := [.int 1]) (st1 := []) (lv0 := [(0, .ref 0), (1, .int 1)]) kc_195_1307 rfl rfl rfl rfl rfl A56 (Nat.le_of_ble_eq_true rfl) (hJ _ _ _ _ (by decide)) (xm_le ml_179 rfl) rfl ?_
    have zc1 : (1 : Int32).toInt = 1 := by decide
    refine mt_179_0 hJ hov1 hov2 (d := 98) (x1 := 1) K.1 (by first | omega | decide) (fun r57 hh58 br57 K59 => ?_)
    have K60 := xk_tr K K59 rfl
    obtain ⟨u61, u62, bu61, bu62, A63⟩ := xq_0 K60.1
    have e64 : u55 = u62 := xk_eqi (q := 9) K59 rfl A56 A63 rfl rfl
    subst e64
    show xw J ov 100 195 (1310, [(4, .int x4), (3, .ref 167), (2, .ref 115), (1, .ref 0), (0, .ref 1000000)], [.int r57], hh58) _
    refine xi_pop (pc' := 1311) kc_195_1310 rfl rfl ?_
    refine xi_aload_n (pc' := 1312) (x := 115) kc_195_1311 rfl rfl ?_
    refine xi_aload_n (pc' := 1313) (x := 1000000) kc_195_1312 rfl rfl ?_
    refine xi_iload (pc' := 1315) (x := x4) kc_195_1313 rfl rfl ?_
    refine xi_iconst (pc' := 1316) (v := 1) kc_195_1315 rfl rfl ?_
    refine xi_iadd (pc' := 1317) (v := v1) kc_195_1316 rfl ev1 ?_
    refine xi_ialoadO (pc' := 1318) (v := a2) kc_195_1317 rfl (by decide) hov0 (xi_in (by omega) (by omega)) ea2 ?_
    refine xi_iff (pc' := 1321) kc_195_1318 rfl (xc_eq_f (X := a2.toInt) (Y := 0) rfl (by decide) (by omega)) ?_
    refine xi_iconst (pc' := 1322) (v := 1) kc_195_1321 rfl rfl ?_
    refine xi_goto (pc' := 1326) kc_195_1322 rfl ?_
    obtain ⟨u65, u66, u67, u68, u69, u70, u71, u72, u73, u74, u75, u76, u77, bu65, bu66, bu67, bu68, bu69, bu70, bu71, bu72, bu73, bu74, bu75, bu76, bu77, A78⟩ := xq_115 K60.1
    refine xi_virtual (mj := 71) (as := [.int 1]) (st1 := []) (lv0 := [(0, .ref 115), (1, .int 1)]) kc_195_1326 rfl rfl rfl rfl rfl A78 (Nat.le_of_ble_eq_true rfl) (hJ _ _ _ _ (by decide)) (xm_le ml_71 rfl) rfl ?_
    have zc1 : (1 : Int32).toInt = 1 := by decide
    refine mt_71_0 hJ hov1 hov2 (d := 98) (x1 := 1) K60.1 (by first | omega | decide) (fun r79 hh80 br79 K81 => ?_)
    have K82 := xk_tr K60 K81 rfl
    obtain ⟨u83, u84, bu83, bu84, A85⟩ := xq_0 K82.1
    have e86 : u55 = u84 := xk_eqi (q := 9) K81 rfl A63 A85 rfl rfl
    subst e86
    obtain ⟨u87, u88, u89, u90, u91, u92, u93, u94, u95, u96, u97, u98, u99, bu87, bu88, bu89, bu90, bu91, bu92, bu93, bu94, bu95, bu96, bu97, bu98, bu99, A100⟩ := xq_115 K82.1
    have e101 : u66 = u88 := xk_eqi (q := 1) K81 rfl A78 A100 rfl rfl
    subst e101
    have e102 : u68 = u90 := xk_eqi (q := 18) K81 rfl A78 A100 rfl rfl
    subst e102
    show xw J ov 100 195 (1329, [(4, .int x4), (3, .ref 167), (2, .ref 115), (1, .ref 0), (0, .ref 1000000)], [.int r79], hh80) _
    refine xi_pop (pc' := 1330) kc_195_1329 rfl rfl ?_
    refine xi_goto (pc' := 1501) kc_195_1330 rfl ?_
    obtain ⟨v103, ev103⟩ : ∃ q : Int32, x4 + 6 = q := ⟨_, rfl⟩
    have zv103 : v103.toInt = (x4.toInt + 6) := by rw [← ev103]; exact (xz_add (X := x4.toInt) (Y := 6) rfl (by decide) (by omega) (by omega)).trans (by omega)
    refine xi_iinc (pc' := 1504) (x := x4) (v := v103) (lv' := [(4, .int v103), (3, .ref 167), (2, .ref 115), (1, .ref 0), (0, .ref 1000000)]) kc_195_1501 rfl rfl ev103 rfl (xm_lt ml_195 rfl) ?_
    refine xi_goto (pc' := 23) kc_195_1504 rfl ?_
    exact kk v103 hh80 (by omega) K82
set_option maxHeartbeats 8000000 in
theorem lc_30 {J : xe_J} {ov : List (List Int32)} (hJ : ∀ d mj as h, mj ≠ xe_loff → J d mj as h = none) (hov1 : ov[1]? = some [10, 0, 0, 0, 0, 0]) (hov2 : ov[2]? = some [99, 30, 50, 50, 1, 99999]) {xs : List Int32} (hov0 : ov[0]? = some xs) {Q : Option Value → xe_H → Prop} {h : xe_H} {x4 : Int32} (hi0 : 0 ≤ x4.toInt) (hi1 : x4.toInt + 6 ≤ xs.length) (hi2 : x4.toInt ≤ 3066) (T : xt h) (kk : ∀ (i : Int32) (h' : xe_H), i.toInt = x4.toInt + 6 → xk [(29, 0), (31, 0), (33, 0), (35, 0), (37, 0), (39, 0), (41, 0), (43, 0), (45, 0), (47, 0), (49, 0), (51, 0), (125, 0), (0, 9), (115, 1), (66, 8), (115, 18), (71, 0), (132, 0)] h h' → xw J ov 100 195 (23, [(4, .int i), (3, .ref 167), (2, .ref 115), (1, .ref 0), (0, .ref 1000000)], [], h') Q) : xw J ov 100 195 (1333, [(4, .int x4), (3, .ref 167), (2, .ref 115), (1, .ref 0), (0, .ref 1000000)], [], h) Q := by
  have K : xk [(29, 0), (31, 0), (33, 0), (35, 0), (37, 0), (39, 0), (41, 0), (43, 0), (45, 0), (47, 0), (49, 0), (51, 0), (125, 0), (0, 9), (115, 1), (66, 8), (115, 18), (71, 0), (132, 0)] h h := xk_re T
  refine xi_aload_n (pc' := 1334) (x := 0) kc_195_1333 rfl rfl ?_
  refine xi_aload_n (pc' := 1335) (x := 1000000) kc_195_1334 rfl rfl ?_
  refine xi_iload (pc' := 1337) (x := x4) kc_195_1335 rfl rfl ?_
  refine xi_iconst (pc' := 1338) (v := 1) kc_195_1337 rfl rfl ?_
  obtain ⟨v1, ev1⟩ : ∃ q : Int32, x4 + 1 = q := ⟨_, rfl⟩
  have zv1 : v1.toInt = (x4.toInt + 1) := by rw [← ev1]; exact (xz_add (X := x4.toInt) (Y := 1) rfl (by decide) (by omega) (by omega)).trans (by omega)
  refine xi_iadd (pc' := 1339) (v := v1) kc_195_1338 rfl ev1 ?_
  obtain ⟨a2, ea2⟩ : ∃ q : Int32, xs.getD (Int32.toNatClampNeg v1) 0 = q := ⟨_, rfl⟩
  have ra2 := xc_rng a2
  refine xi_ialoadO (pc' := 1340) (v := a2) kc_195_1339 rfl (by decide) hov0 (xi_in (by omega) (by omega)) ea2 ?_
  by_cases c3 : a2.toInt = 0
  · refine xi_ift (pc' := 1347) kc_195_1340 rfl (xc_eq_t (X := a2.toInt) (Y := 0) rfl (by decide) (by omega)) ?_
    refine xi_iconst (pc' := 1348) (v := 0) kc_195_1347 rfl rfl ?_
    refine xi_aload_n (pc' := 1349) (x := 1000000) kc_195_1348 rfl rfl ?_
    refine xi_iload (pc' := 1351) (x := x4) kc_195_1349 rfl rfl ?_
    refine xi_iconst (pc' := 1352) (v := 2) kc_195_1351 rfl rfl ?_
    obtain ⟨v4, ev4⟩ : ∃ q : Int32, x4 + 2 = q := ⟨_, rfl⟩
    have zv4 : v4.toInt = (x4.toInt + 2) := by rw [← ev4]; exact (xz_add (X := x4.toInt) (Y := 2) rfl (by decide) (by omega) (by omega)).trans (by omega)
    refine xi_iadd (pc' := 1353) (v := v4) kc_195_1352 rfl ev4 ?_
    obtain ⟨a5, ea5⟩ : ∃ q : Int32, xs.getD (Int32.toNatClampNeg v4) 0 = q := ⟨_, rfl⟩
    have ra5 := xc_rng a5
    refine xi_ialoadO (pc' := 1354) (v := a5) kc_195_1353 rfl (by decide) hov0 (xi_in (by omega) (by omega)) ea5 ?_
    refine xi_aload_n (pc' := 1355) (x := 1000000) kc_195_1354 rfl rfl ?_
    refine xi_iload (pc' := 1357) (x := x4) kc_195_1355 rfl rfl ?_
    refine xi_iconst (pc' := 1358) (v := 3) kc_195_1357 rfl rfl ?_
    obtain ⟨v6, ev6⟩ : ∃ q : Int32, x4 + 3 = q := ⟨_, rfl⟩
    have zv6 : v6.toInt = (x4.toInt + 3) := by rw [← ev6]; exact (xz_add (X := x4.toInt) (Y := 3) rfl (by decide) (by omega) (by omega)).trans (by omega)
    refine xi_iadd (pc' := 1359) (v := v6) kc_195_1358 rfl ev6 ?_
    obtain ⟨a7, ea7⟩ : ∃ q : Int32, xs.getD (Int32.toNatClampNeg v6) 0 = q := ⟨_, rfl⟩
    have ra7 := xc_rng a7
    refine xi_ialoadO (pc' := 1360) (v := a7) kc_195_1359 rfl (by decide) hov0 (xi_in (by omega) (by omega)) ea7 ?_
    by_cases c8 : a7.toInt = 0
    · refine xi_ift (pc' := 1367) kc_195_1360 rfl (xc_eq_t (X := a7.toInt) (Y := 0) rfl (by decide) (by omega)) ?_
      refine xi_iconst (pc' := 1368) (v := 0) kc_195_1367 rfl rfl ?_
      obtain ⟨u9, u10, bu9, bu10, A11⟩ := xq_0 K.1
      refine xi_virtual (mj := 180) (as := [.int 0, .int a5, .int 0]) (st1 := []) (lv0 := [(0, .ref 0), (1, .int 0), (2, .int a5), (3, .int 0)]) kc_195_1368 rfl rfl rfl rfl rfl A11 (Nat.le_of_ble_eq_true rfl) (hJ _ _ _ _ (by decide)) (xm_le ml_180 rfl) rfl ?_
      have zc0 : (0 : Int32).toInt = 0 := by decide
      refine mt_180_0 hJ hov1 hov2 (d := 97) (x1 := 0) (x2 := a5) (x3 := 0) K.1 (by first | omega | decide) (by first | omega | decide) (fun r12 hh13 br12 K14 => ?_)
      have K15 := xk_tr K K14 rfl
      obtain ⟨u16, u17, bu16, bu17, A18⟩ := xq_0 K15.1
      have e19 : u10 = u17 := xk_eqi (q := 9) K14 rfl A11 A18 rfl rfl
      subst e19
      show xw J ov 100 195 (1371, [(4, .int x4), (3, .ref 167), (2, .ref 115), (1, .ref 0), (0, .ref 1000000)], [.int r12], hh13) _
      refine xi_pop (pc' := 1372) kc_195_1371 rfl rfl ?_
      refine xi_aload_n (pc' := 1373) (x := 115) kc_195_1372 rfl rfl ?_
      refine xi_aload_n (pc' := 1374) (x := 1000000) kc_195_1373 rfl rfl ?_
      refine xi_iload (pc' := 1376) (x := x4) kc_195_1374 rfl rfl ?_
      refine xi_iconst (pc' := 1377) (v := 1) kc_195_1376 rfl rfl ?_
      refine xi_iadd (pc' := 1378) (v := v1) kc_195_1377 rfl ev1 ?_
      refine xi_ialoadO (pc' := 1379) (v := a2) kc_195_1378 rfl (by decide) hov0 (xi_in (by omega) (by omega)) ea2 ?_
      refine xi_ift (pc' := 1386) kc_195_1379 rfl (xc_eq_t (X := a2.toInt) (Y := 0) rfl (by decide) (by omega)) ?_
      refine xi_iconst (pc' := 1387) (v := 0) kc_195_1386 rfl rfl ?_
      refine xi_aload_n (pc' := 1388) (x := 1000000) kc_195_1387 rfl rfl ?_
      refine xi_iload (pc' := 1390) (x := x4) kc_195_1388 rfl rfl ?_
      refine xi_iconst (pc' := 1391) (v := 2) kc_195_1390 rfl rfl ?_
      refine xi_iadd (pc' := 1392) (v := v4) kc_195_1391 rfl ev4 ?_
      refine xi_ialoadO (pc' := 1393) (v := a5) kc_195_1392 rfl (by decide) hov0 (xi_in (by omega) (by omega)) ea5 ?_
      refine xi_aload_n (pc' := 1394) (x := 1000000) kc_195_1393 rfl rfl ?_
      refine xi_iload (pc' := 1396) (x := x4) kc_195_1394 rfl rfl ?_
      refine xi_iconst (pc' := 1397) (v := 3) kc_195_1396 rfl rfl ?_
      refine xi_iadd (pc' := 1398) (v := v6) kc_195_1397 rfl ev6 ?_
      refine xi_ialoadO (pc' := 1399) (v := a7) kc_195_1398 rfl (by decide) hov0 (xi_in (by omega) (by omega)) ea7 ?_
      refine xi_ift (pc' := 1406) kc_195_1399 rfl (xc_eq_t (X := a7.toInt) (Y := 0) rfl (by decide) (by omega)) ?_
      refine xi_iconst (pc' := 1407) (v := 0) kc_195_1406 rfl rfl ?_
      obtain ⟨u20, u21, u22, u23, u24, u25, u26, u27, u28, u29, u30, u31, u32, bu20, bu21, bu22, bu23, bu24, bu25, bu26, bu27, bu28, bu29, bu30, bu31, bu32, A33⟩ := xq_115 K15.1
      refine xi_virtual (mj := 72) (as := [.int 0, .int a5, .int 0]) (st1 := []) (lv0 := [(0, .ref 115), (1, .int 0), (2, .int a5), (3, .int 0)]) kc_195_1407 rfl rfl rfl rfl rfl A33 (Nat.le_of_ble_eq_true rfl) (hJ _ _ _ _ (by decide)) (xm_le ml_72 rfl) rfl ?_
      have zc0 : (0 : Int32).toInt = 0 := by decide
      refine mt_72_0 hJ hov1 hov2 (d := 98) (x1 := 0) (x2 := a5) (x3 := 0) K15.1 (by first | omega | decide) (by first | omega | decide) (fun r34 hh35 br34 K36 => ?_)
      have K37 := xk_tr K15 K36 rfl
      obtain ⟨u38, u39, bu38, bu39, A40⟩ := xq_0 K37.1
      have e41 : u10 = u39 := xk_eqi (q := 9) K36 rfl A18 A40 rfl rfl
      subst e41
      obtain ⟨u42, u43, u44, u45, u46, u47, u48, u49, u50, u51, u52, u53, u54, bu42, bu43, bu44, bu45, bu46, bu47, bu48, bu49, bu50, bu51, bu52, bu53, bu54, A55⟩ := xq_115 K37.1
      have e56 : u21 = u43 := xk_eqi (q := 1) K36 rfl A33 A55 rfl rfl
      subst e56
      have e57 : u23 = u45 := xk_eqi (q := 18) K36 rfl A33 A55 rfl rfl
      subst e57
      show xw J ov 100 195 (1410, [(4, .int x4), (3, .ref 167), (2, .ref 115), (1, .ref 0), (0, .ref 1000000)], [.int r34], hh35) _
      refine xi_pop (pc' := 1411) kc_195_1410 rfl rfl ?_
      refine xi_goto (pc' := 1501) kc_195_1411 rfl ?_
      obtain ⟨v58, ev58⟩ : ∃ q : Int32, x4 + 6 = q := ⟨_, rfl⟩
      have zv58 : v58.toInt = (x4.toInt + 6) := by rw [← ev58]; exact (xz_add (X := x4.toInt) (Y := 6) rfl (by decide) (by omega) (by omega)).trans (by omega)
      refine xi_iinc (pc' := 1504) (x := x4) (v := v58) (lv' := [(4, .int v58), (3, .ref 167), (2, .ref 115), (1, .ref 0), (0, .ref 1000000)]) kc_195_1501 rfl rfl ev58 rfl (xm_lt ml_195 rfl) ?_
      refine xi_goto (pc' := 23) kc_195_1504 rfl ?_
      exact kk v58 hh35 (by omega) K37
    · refine xi_iff (pc' := 1363) kc_195_1360 rfl (xc_eq_f (X := a7.toInt) (Y := 0) rfl (by decide) (by omega)) ?_
      refine xi_iconst (pc' := 1364) (v := 1) kc_195_1363 rfl rfl ?_
      refine xi_goto (pc' := 1368) kc_195_1364 rfl ?_
      obtain ⟨u59, u60, bu59, bu60, A61⟩ := xq_0 K.1
      refine xi_virtual (mj := 180) (as := [.int 0, .int a5, .int 1]) (st1 := []) (lv0 := [(0, .ref 0), (1, .int 0), (2, .int a5), (3, .int 1)]) kc_195_1368 rfl rfl rfl rfl rfl A61 (Nat.le_of_ble_eq_true rfl) (hJ _ _ _ _ (by decide)) (xm_le ml_180 rfl) rfl ?_
      have zc0 : (0 : Int32).toInt = 0 := by decide
      have zc1 : (1 : Int32).toInt = 1 := by decide
      refine mt_180_0 hJ hov1 hov2 (d := 97) (x1 := 0) (x2 := a5) (x3 := 1) K.1 (by first | omega | decide) (by first | omega | decide) (fun r62 hh63 br62 K64 => ?_)
      have K65 := xk_tr K K64 rfl
      obtain ⟨u66, u67, bu66, bu67, A68⟩ := xq_0 K65.1
      have e69 : u60 = u67 := xk_eqi (q := 9) K64 rfl A61 A68 rfl rfl
      subst e69
      show xw J ov 100 195 (1371, [(4, .int x4), (3, .ref 167), (2, .ref 115), (1, .ref 0), (0, .ref 1000000)], [.int r62], hh63) _
      refine xi_pop (pc' := 1372) kc_195_1371 rfl rfl ?_
      refine xi_aload_n (pc' := 1373) (x := 115) kc_195_1372 rfl rfl ?_
      refine xi_aload_n (pc' := 1374) (x := 1000000) kc_195_1373 rfl rfl ?_
      refine xi_iload (pc' := 1376) (x := x4) kc_195_1374 rfl rfl ?_
      refine xi_iconst (pc' := 1377) (v := 1) kc_195_1376 rfl rfl ?_
      refine xi_iadd (pc' := 1378) (v := v1) kc_195_1377 rfl ev1 ?_
      refine xi_ialoadO (pc' := 1379) (v := a2) kc_195_1378 rfl (by decide) hov0 (xi_in (by omega) (by omega)) ea2 ?_
      refine xi_ift (pc' := 1386) kc_195_1379 rfl (xc_eq_t (X := a2.toInt) (Y := 0) rfl (by decide) (by omega)) ?_
      refine xi_iconst (pc' := 1387) (v := 0) kc_195_1386 rfl rfl ?_
      refine xi_aload_n (pc' := 1388) (x := 1000000) kc_195_1387 rfl rfl ?_
      refine xi_iload (pc' := 1390) (x := x4) kc_195_1388 rfl rfl ?_
      refine xi_iconst (pc' := 1391) (v := 2) kc_195_1390 rfl rfl ?_
      refine xi_iadd (pc' := 1392) (v := v4) kc_195_1391 rfl ev4 ?_
      refine xi_ialoadO (pc' := 1393) (v := a5) kc_195_1392 rfl (by decide) hov0 (xi_in (by omega) (by omega)) ea5 ?_
      refine xi_aload_n (pc' := 1394) (x := 1000000) kc_195_1393 rfl rfl ?_
      refine xi_iload (pc' := 1396) (x := x4) kc_195_1394 rfl rfl ?_
      refine xi_iconst (pc' := 1397) (v := 3) kc_195_1396 rfl rfl ?_
      refine xi_iadd (pc' := 1398) (v := v6) kc_195_1397 rfl ev6 ?_
      refine xi_ialoadO (pc' := 1399) (v := a7) kc_195_1398 rfl (by decide) hov0 (xi_in (by omega) (by omega)) ea7 ?_
      refine xi_iff (pc' := 1402) kc_195_1399 rfl (xc_eq_f (X := a7.toInt) (Y := 0) rfl (by decide) (by omega)) ?_
      refine xi_iconst (pc' := 1403) (v := 1) kc_195_1402 rfl rfl ?_
      refine xi_goto (pc' := 1407) kc_195_1403 rfl ?_
      obtain ⟨u70, u71, u72, u73, u74, u75, u76, u77, u78, u79, u80, u81, u82, bu70, bu71, bu72, bu73, bu74, bu75, bu76, bu77, bu78, bu79, bu80, bu81, bu82, A83⟩ := xq_115 K65.1
      refine xi_virtual (mj := 72) (as := [.int 0, .int a5, .int 1]) (st1 := []) (lv0 := [(0, .ref 115), (1, .int 0), (2, .int a5), (3, .int 1)]) kc_195_1407 rfl rfl rfl rfl rfl A83 (Nat.le_of_ble_eq_true rfl) (hJ _ _ _ _ (by decide)) (xm_le ml_72 rfl) rfl ?_
      have zc0 : (0 : Int32).toInt = 0 := by decide
      have zc1 : (1 : Int32).toInt = 1 := by decide
      refine mt_72_0 hJ hov1 hov2 (d := 98) (x1 := 0) (x2 := a5) (x3 := 1) K65.1 (by first | omega | decide) (by first | omega | decide) (fun r84 hh85 br84 K86 => ?_)
      have K87 := xk_tr K65 K86 rfl
      obtain ⟨u88, u89, bu88, bu89, A90⟩ := xq_0 K87.1
      have e91 : u60 = u89 := xk_eqi (q := 9) K86 rfl A68 A90 rfl rfl
      subst e91
      obtain ⟨u92, u93, u94, u95, u96, u97, u98, u99, u100, u101, u102, u103, u104, bu92, bu93, bu94, bu95, bu96, bu97, bu98, bu99, bu100, bu101, bu102, bu103, bu104, A105⟩ := xq_115 K87.1
      have e106 : u71 = u93 := xk_eqi (q := 1) K86 rfl A83 A105 rfl rfl
      subst e106
      have e107 : u73 = u95 := xk_eqi (q := 18) K86 rfl A83 A105 rfl rfl
      subst e107
      show xw J ov 100 195 (1410, [(4, .int x4), (3, .ref 167), (2, .ref 115), (1, .ref 0), (0, .ref 1000000)], [.int r84], hh85) _
      refine xi_pop (pc' := 1411) kc_195_1410 rfl rfl ?_
      refine xi_goto (pc' := 1501) kc_195_1411 rfl ?_
      obtain ⟨v108, ev108⟩ : ∃ q : Int32, x4 + 6 = q := ⟨_, rfl⟩
      have zv108 : v108.toInt = (x4.toInt + 6) := by rw [← ev108]; exact (xz_add (X := x4.toInt) (Y := 6) rfl (by decide) (by omega) (by omega)).trans (by omega)
      refine xi_iinc (pc' := 1504) (x := x4) (v := v108) (lv' := [(4, .int v108), (3, .ref 167), (2, .ref 115), (1, .ref 0), (0, .ref 1000000)]) kc_195_1501 rfl rfl ev108 rfl (xm_lt ml_195 rfl) ?_
      refine xi_goto (pc' := 23) kc_195_1504 rfl ?_
      exact kk v108 hh85 (by omega) K87
  · refine xi_iff (pc' := 1343) kc_195_1340 rfl (xc_eq_f (X := a2.toInt) (Y := 0) rfl (by decide) (by omega)) ?_
    refine xi_iconst (pc' := 1344) (v := 1) kc_195_1343 rfl rfl ?_
    refine xi_goto (pc' := 1348) kc_195_1344 rfl ?_
    refine xi_aload_n (pc' := 1349) (x := 1000000) kc_195_1348 rfl rfl ?_
    refine xi_iload (pc' := 1351) (x := x4) kc_195_1349 rfl rfl ?_
    refine xi_iconst (pc' := 1352) (v := 2) kc_195_1351 rfl rfl ?_
    obtain ⟨v109, ev109⟩ : ∃ q : Int32, x4 + 2 = q := ⟨_, rfl⟩
    have zv109 : v109.toInt = (x4.toInt + 2) := by rw [← ev109]; exact (xz_add (X := x4.toInt) (Y := 2) rfl (by decide) (by omega) (by omega)).trans (by omega)
    refine xi_iadd (pc' := 1353) (v := v109) kc_195_1352 rfl ev109 ?_
    obtain ⟨a110, ea110⟩ : ∃ q : Int32, xs.getD (Int32.toNatClampNeg v109) 0 = q := ⟨_, rfl⟩
    have ra110 := xc_rng a110
    refine xi_ialoadO (pc' := 1354) (v := a110) kc_195_1353 rfl (by decide) hov0 (xi_in (by omega) (by omega)) ea110 ?_
    refine xi_aload_n (pc' := 1355) (x := 1000000) kc_195_1354 rfl rfl ?_
    refine xi_iload (pc' := 1357) (x := x4) kc_195_1355 rfl rfl ?_
    refine xi_iconst (pc' := 1358) (v := 3) kc_195_1357 rfl rfl ?_
    obtain ⟨v111, ev111⟩ : ∃ q : Int32, x4 + 3 = q := ⟨_, rfl⟩
    have zv111 : v111.toInt = (x4.toInt + 3) := by rw [← ev111]; exact (xz_add (X := x4.toInt) (Y := 3) rfl (by decide) (by omega) (by omega)).trans (by omega)
    refine xi_iadd (pc' := 1359) (v := v111) kc_195_1358 rfl ev111 ?_
    obtain ⟨a112, ea112⟩ : ∃ q : Int32, xs.getD (Int32.toNatClampNeg v111) 0 = q := ⟨_, rfl⟩
    have ra112 := xc_rng a112
    refine xi_ialoadO (pc' := 1360) (v := a112) kc_195_1359 rfl (by decide) hov0 (xi_in (by omega) (by omega)) ea112 ?_
    by_cases c113 : a112.toInt = 0
    · refine xi_ift (pc' := 1367) kc_195_1360 rfl (xc_eq_t (X := a112.toInt) (Y := 0) rfl (by decide) (by omega)) ?_
      refine xi_iconst (pc' := 1368) (v := 0) kc_195_1367 rfl rfl ?_
      obtain ⟨u114, u115, bu114, bu115, A116⟩ := xq_0 K.1
      refine xi_virtual (mj := 180) (as := [.int 1, .int a110, .int 0]) (st1 := []) (lv0 := [(0, .ref 0), (1, .int 1), (2, .int a110), (3, .int 0)]) kc_195_1368 rfl rfl rfl rfl rfl A116 (Nat.le_of_ble_eq_true rfl) (hJ _ _ _ _ (by decide)) (xm_le ml_180 rfl) rfl ?_
      have zc0 : (0 : Int32).toInt = 0 := by decide
      have zc1 : (1 : Int32).toInt = 1 := by decide
      refine mt_180_0 hJ hov1 hov2 (d := 97) (x1 := 1) (x2 := a110) (x3 := 0) K.1 (by first | omega | decide) (by first | omega | decide) (fun r117 hh118 br117 K119 => ?_)
      have K120 := xk_tr K K119 rfl
      obtain ⟨u121, u122, bu121, bu122, A123⟩ := xq_0 K120.1
      have e124 : u115 = u122 := xk_eqi (q := 9) K119 rfl A116 A123 rfl rfl
      subst e124
      show xw J ov 100 195 (1371, [(4, .int x4), (3, .ref 167), (2, .ref 115), (1, .ref 0), (0, .ref 1000000)], [.int r117], hh118) _
      refine xi_pop (pc' := 1372) kc_195_1371 rfl rfl ?_
      refine xi_aload_n (pc' := 1373) (x := 115) kc_195_1372 rfl rfl ?_
      refine xi_aload_n (pc' := 1374) (x := 1000000) kc_195_1373 rfl rfl ?_
      refine xi_iload (pc' := 1376) (x := x4) kc_195_1374 rfl rfl ?_
      refine xi_iconst (pc' := 1377) (v := 1) kc_195_1376 rfl rfl ?_
      refine xi_iadd (pc' := 1378) (v := v1) kc_195_1377 rfl ev1 ?_
      refine xi_ialoadO (pc' := 1379) (v := a2) kc_195_1378 rfl (by decide) hov0 (xi_in (by omega) (by omega)) ea2 ?_
      refine xi_iff (pc' := 1382) kc_195_1379 rfl (xc_eq_f (X := a2.toInt) (Y := 0) rfl (by decide) (by omega)) ?_
      refine xi_iconst (pc' := 1383) (v := 1) kc_195_1382 rfl rfl ?_
      refine xi_goto (pc' := 1387) kc_195_1383 rfl ?_
      refine xi_aload_n (pc' := 1388) (x := 1000000) kc_195_1387 rfl rfl ?_
      refine xi_iload (pc' := 1390) (x := x4) kc_195_1388 rfl rfl ?_
      refine xi_iconst (pc' := 1391) (v := 2) kc_195_1390 rfl rfl ?_
      refine xi_iadd (pc' := 1392) (v := v109) kc_195_1391 rfl ev109 ?_
      refine xi_ialoadO (pc' := 1393) (v := a110) kc_195_1392 rfl (by decide) hov0 (xi_in (by omega) (by omega)) ea110 ?_
      refine xi_aload_n (pc' := 1394) (x := 1000000) kc_195_1393 rfl rfl ?_
      refine xi_iload (pc' := 1396) (x := x4) kc_195_1394 rfl rfl ?_
      refine xi_iconst (pc' := 1397) (v := 3) kc_195_1396 rfl rfl ?_
      refine xi_iadd (pc' := 1398) (v := v111) kc_195_1397 rfl ev111 ?_
      refine xi_ialoadO (pc' := 1399) (v := a112) kc_195_1398 rfl (by decide) hov0 (xi_in (by omega) (by omega)) ea112 ?_
      refine xi_ift (pc' := 1406) kc_195_1399 rfl (xc_eq_t (X := a112.toInt) (Y := 0) rfl (by decide) (by omega)) ?_
      refine xi_iconst (pc' := 1407) (v := 0) kc_195_1406 rfl rfl ?_
      obtain ⟨u125, u126, u127, u128, u129, u130, u131, u132, u133, u134, u135, u136, u137, bu125, bu126, bu127, bu128, bu129, bu130, bu131, bu132, bu133, bu134, bu135, bu136, bu137, A138⟩ := xq_115 K120.1
      refine xi_virtual (mj := 72) (as := [.int 1, .int a110, .int 0]) (st1 := []) (lv0 := [(0, .ref 115), (1, .int 1), (2, .int a110), (3, .int 0)]) kc_195_1407 rfl rfl rfl rfl rfl A138 (Nat.le_of_ble_eq_true rfl) (hJ _ _ _ _ (by decide)) (xm_le ml_72 rfl) rfl ?_
      have zc0 : (0 : Int32).toInt = 0 := by decide
      have zc1 : (1 : Int32).toInt = 1 := by decide
      refine mt_72_0 hJ hov1 hov2 (d := 98) (x1 := 1) (x2 := a110) (x3 := 0) K120.1 (by first | omega | decide) (by first | omega | decide) (fun r139 hh140 br139 K141 => ?_)
      have K142 := xk_tr K120 K141 rfl
      obtain ⟨u143, u144, bu143, bu144, A145⟩ := xq_0 K142.1
      have e146 : u115 = u144 := xk_eqi (q := 9) K141 rfl A123 A145 rfl rfl
      subst e146
      obtain ⟨u147, u148, u149, u150, u151, u152, u153, u154, u155, u156, u157, u158, u159, bu147, bu148, bu149, bu150, bu151, bu152, bu153, bu154, bu155, bu156, bu157, bu158, bu159, A160⟩ := xq_115 K142.1
      have e161 : u126 = u148 := xk_eqi (q := 1) K141 rfl A138 A160 rfl rfl
      subst e161
      have e162 : u128 = u150 := xk_eqi (q := 18) K141 rfl A138 A160 rfl rfl
      subst e162
      show xw J ov 100 195 (1410, [(4, .int x4), (3, .ref 167), (2, .ref 115), (1, .ref 0), (0, .ref 1000000)], [.int r139], hh140) _
      refine xi_pop (pc' := 1411) kc_195_1410 rfl rfl ?_
      refine xi_goto (pc' := 1501) kc_195_1411 rfl ?_
      obtain ⟨v163, ev163⟩ : ∃ q : Int32, x4 + 6 = q := ⟨_, rfl⟩
      have zv163 : v163.toInt = (x4.toInt + 6) := by rw [← ev163]; exact (xz_add (X := x4.toInt) (Y := 6) rfl (by decide) (by omega) (by omega)).trans (by omega)
      refine xi_iinc (pc' := 1504) (x := x4) (v := v163) (lv' := [(4, .int v163), (3, .ref 167), (2, .ref 115), (1, .ref 0), (0, .ref 1000000)]) kc_195_1501 rfl rfl ev163 rfl (xm_lt ml_195 rfl) ?_
      refine xi_goto (pc' := 23) kc_195_1504 rfl ?_
      exact kk v163 hh140 (by omega) K142
    · refine xi_iff (pc' := 1363) kc_195_1360 rfl (xc_eq_f (X := a112.toInt) (Y := 0) rfl (by decide) (by omega)) ?_
      refine xi_iconst (pc' := 1364) (v := 1) kc_195_1363 rfl rfl ?_
      refine xi_goto (pc' := 1368) kc_195_1364 rfl ?_
      obtain ⟨u164, u165, bu164, bu165, A166⟩ := xq_0 K.1
      refine xi_virtual (mj := 180) (as := [.int 1, .int a110, .int 1]) (st1 := []) (lv0 := [(0, .ref 0), (1, .int 1), (2, .int a110), (3, .int 1)]) kc_195_1368 rfl rfl rfl rfl rfl A166 (Nat.le_of_ble_eq_true rfl) (hJ _ _ _ _ (by decide)) (xm_le ml_180 rfl) rfl ?_
      have zc1 : (1 : Int32).toInt = 1 := by decide
      refine mt_180_0 hJ hov1 hov2 (d := 97) (x1 := 1) (x2 := a110) (x3 := 1) K.1 (by first | omega | decide) (by first | omega | decide) (fun r167 hh168 br167 K169 => ?_)
      have K170 := xk_tr K K169 rfl
      obtain ⟨u171, u172, bu171, bu172, A173⟩ := xq_0 K170.1
      have e174 : u165 = u172 := xk_eqi (q := 9) K169 rfl A166 A173 rfl rfl
      subst e174
      show xw J ov 100 195 (1371, [(4, .int x4), (3, .ref 167), (2, .ref 115), (1, .ref 0), (0, .ref 1000000)], [.int r167], hh168) _
      refine xi_pop (pc' := 1372) kc_195_1371 rfl rfl ?_
      refine xi_aload_n (pc' := 1373) (x := 115) kc_195_1372 rfl rfl ?_
      refine xi_aload_n (pc' := 1374) (x := 1000000) kc_195_1373 rfl rfl ?_
      refine xi_iload (pc' := 1376) (x := x4) kc_195_1374 rfl rfl ?_
      refine xi_iconst (pc' := 1377) (v := 1) kc_195_1376 rfl rfl ?_
      refine xi_iadd (pc' := 1378) (v := v1) kc_195_1377 rfl ev1 ?_
      refine xi_ialoadO (pc' := 1379) (v := a2) kc_195_1378 rfl (by decide) hov0 (xi_in (by omega) (by omega)) ea2 ?_
      refine xi_iff (pc' := 1382) kc_195_1379 rfl (xc_eq_f (X := a2.toInt) (Y := 0) rfl (by decide) (by omega)) ?_
      refine xi_iconst (pc' := 1383) (v := 1) kc_195_1382 rfl rfl ?_
      refine xi_goto (pc' := 1387) kc_195_1383 rfl ?_
      refine xi_aload_n (pc' := 1388) (x := 1000000) kc_195_1387 rfl rfl ?_
      refine xi_iload (pc' := 1390) (x := x4) kc_195_1388 rfl rfl ?_
      refine xi_iconst (pc' := 1391) (v := 2) kc_195_1390 rfl rfl ?_
      refine xi_iadd (pc' := 1392) (v := v109) kc_195_1391 rfl ev109 ?_
      refine xi_ialoadO (pc' := 1393) (v := a110) kc_195_1392 rfl (by decide) hov0 (xi_in (by omega) (by omega)) ea110 ?_
      refine xi_aload_n (pc' := 1394) (x := 1000000) kc_195_1393 rfl rfl ?_
      refine xi_iload (pc' := 1396) (x := x4) kc_195_1394 rfl rfl ?_
      refine xi_iconst (pc' := 1397) (v := 3) kc_195_1396 rfl rfl ?_
      refine xi_iadd (pc' := 1398) (v := v111) kc_195_1397 rfl ev111 ?_
      refine xi_ialoadO (pc' := 1399) (v := a112) kc_195_1398 rfl (by decide) hov0 (xi_in (by omega) (by omega)) ea112 ?_
      refine xi_iff (pc' := 1402) kc_195_1399 rfl (xc_eq_f (X := a112.toInt) (Y := 0) rfl (by decide) (by omega)) ?_
      refine xi_iconst (pc' := 1403) (v := 1) kc_195_1402 rfl rfl ?_
      refine xi_goto (pc' := 1407) kc_195_1403 rfl ?_
      obtain ⟨u175, u176, u177, u178, u179, u180, u181, u182, u183, u184, u185, u186, u187, bu175, bu176, bu177, bu178, bu179, bu180, bu181, bu182, bu183, bu184, bu185, bu186, bu187, A188⟩ := xq_115 K170.1
      refine xi_virtual (mj := 72) (as := [.int 1, .int a110, .int 1]) (st1 := []) (lv0 := [(0, .ref 115), (1, .int 1), (2, .int a110), (3, .int 1)]) kc_195_1407 rfl rfl rfl rfl rfl A188 (Nat.le_of_ble_eq_true rfl) (hJ _ _ _ _ (by decide)) (xm_le ml_72 rfl) rfl ?_
      have zc1 : (1 : Int32).toInt = 1 := by decide
      refine mt_72_0 hJ hov1 hov2 (d := 98) (x1 := 1) (x2 := a110) (x3 := 1) K170.1 (by first | omega | decide) (by first | omega | decide) (fun r189 hh190 br189 K191 => ?_)
      have K192 := xk_tr K170 K191 rfl
      obtain ⟨u193, u194, bu193, bu194, A195⟩ := xq_0 K192.1
      have e196 : u165 = u194 := xk_eqi (q := 9) K191 rfl A173 A195 rfl rfl
      subst e196
      obtain ⟨u197, u198, u199, u200, u201, u202, u203, u204, u205, u206, u207, u208, u209, bu197, bu198, bu199, bu200, bu201, bu202, bu203, bu204, bu205, bu206, bu207, bu208, bu209, A210⟩ := xq_115 K192.1
      have e211 : u176 = u198 := xk_eqi (q := 1) K191 rfl A188 A210 rfl rfl
      subst e211
      have e212 : u178 = u200 := xk_eqi (q := 18) K191 rfl A188 A210 rfl rfl
      subst e212
      show xw J ov 100 195 (1410, [(4, .int x4), (3, .ref 167), (2, .ref 115), (1, .ref 0), (0, .ref 1000000)], [.int r189], hh190) _
      refine xi_pop (pc' := 1411) kc_195_1410 rfl rfl ?_
      refine xi_goto (pc' := 1501) kc_195_1411 rfl ?_
      obtain ⟨v213, ev213⟩ : ∃ q : Int32, x4 + 6 = q := ⟨_, rfl⟩
      have zv213 : v213.toInt = (x4.toInt + 6) := by rw [← ev213]; exact (xz_add (X := x4.toInt) (Y := 6) rfl (by decide) (by omega) (by omega)).trans (by omega)
      refine xi_iinc (pc' := 1504) (x := x4) (v := v213) (lv' := [(4, .int v213), (3, .ref 167), (2, .ref 115), (1, .ref 0), (0, .ref 1000000)]) kc_195_1501 rfl rfl ev213 rfl (xm_lt ml_195 rfl) ?_
      refine xi_goto (pc' := 23) kc_195_1504 rfl ?_
      exact kk v213 hh190 (by omega) K192
set_option maxHeartbeats 8000000 in
theorem lc_31 {J : xe_J} {ov : List (List Int32)} (hJ : ∀ d mj as h, mj ≠ xe_loff → J d mj as h = none) (hov1 : ov[1]? = some [10, 0, 0, 0, 0, 0]) (hov2 : ov[2]? = some [99, 30, 50, 50, 1, 99999]) {xs : List Int32} (hov0 : ov[0]? = some xs) {Q : Option Value → xe_H → Prop} {h : xe_H} {x4 : Int32} (hi0 : 0 ≤ x4.toInt) (hi1 : x4.toInt + 6 ≤ xs.length) (hi2 : x4.toInt ≤ 3066) (T : xt h) (kk : ∀ (i : Int32) (h' : xe_H), i.toInt = x4.toInt + 6 → xk [(29, 0), (31, 0), (33, 0), (35, 0), (37, 0), (39, 0), (41, 0), (43, 0), (45, 0), (47, 0), (49, 0), (51, 0), (125, 0), (0, 9), (115, 1), (66, 8), (115, 18), (71, 0), (132, 0)] h h' → xw J ov 100 195 (23, [(4, .int i), (3, .ref 167), (2, .ref 115), (1, .ref 0), (0, .ref 1000000)], [], h') Q) : xw J ov 100 195 (1414, [(4, .int x4), (3, .ref 167), (2, .ref 115), (1, .ref 0), (0, .ref 1000000)], [], h) Q := by
  have K : xk [(29, 0), (31, 0), (33, 0), (35, 0), (37, 0), (39, 0), (41, 0), (43, 0), (45, 0), (47, 0), (49, 0), (51, 0), (125, 0), (0, 9), (115, 1), (66, 8), (115, 18), (71, 0), (132, 0)] h h := xk_re T
  refine xi_aload_n (pc' := 1415) (x := 0) kc_195_1414 rfl rfl ?_
  refine xi_aload_n (pc' := 1416) (x := 1000000) kc_195_1415 rfl rfl ?_
  refine xi_iload (pc' := 1418) (x := x4) kc_195_1416 rfl rfl ?_
  refine xi_iconst (pc' := 1419) (v := 1) kc_195_1418 rfl rfl ?_
  obtain ⟨v1, ev1⟩ : ∃ q : Int32, x4 + 1 = q := ⟨_, rfl⟩
  have zv1 : v1.toInt = (x4.toInt + 1) := by rw [← ev1]; exact (xz_add (X := x4.toInt) (Y := 1) rfl (by decide) (by omega) (by omega)).trans (by omega)
  refine xi_iadd (pc' := 1420) (v := v1) kc_195_1419 rfl ev1 ?_
  obtain ⟨a2, ea2⟩ : ∃ q : Int32, xs.getD (Int32.toNatClampNeg v1) 0 = q := ⟨_, rfl⟩
  have ra2 := xc_rng a2
  refine xi_ialoadO (pc' := 1421) (v := a2) kc_195_1420 rfl (by decide) hov0 (xi_in (by omega) (by omega)) ea2 ?_
  refine xi_aload_n (pc' := 1422) (x := 1000000) kc_195_1421 rfl rfl ?_
  refine xi_iload (pc' := 1424) (x := x4) kc_195_1422 rfl rfl ?_
  refine xi_iconst (pc' := 1425) (v := 2) kc_195_1424 rfl rfl ?_
  obtain ⟨v3, ev3⟩ : ∃ q : Int32, x4 + 2 = q := ⟨_, rfl⟩
  have zv3 : v3.toInt = (x4.toInt + 2) := by rw [← ev3]; exact (xz_add (X := x4.toInt) (Y := 2) rfl (by decide) (by omega) (by omega)).trans (by omega)
  refine xi_iadd (pc' := 1426) (v := v3) kc_195_1425 rfl ev3 ?_
  obtain ⟨a4, ea4⟩ : ∃ q : Int32, xs.getD (Int32.toNatClampNeg v3) 0 = q := ⟨_, rfl⟩
  have ra4 := xc_rng a4
  refine xi_ialoadO (pc' := 1427) (v := a4) kc_195_1426 rfl (by decide) hov0 (xi_in (by omega) (by omega)) ea4 ?_
  obtain ⟨u5, u6, bu5, bu6, A7⟩ := xq_0 K.1
  refine xi_virtual (mj := 182) (as := [.int a2, .int a4]) (st1 := []) (lv0 := [(0, .ref 0), (1, .int a2), (2, .int a4)]) kc_195_1427 rfl rfl rfl rfl rfl A7 (Nat.le_of_ble_eq_true rfl) (hJ _ _ _ _ (by decide)) (xm_le ml_182 rfl) rfl ?_
  refine mt_182_0 hJ hov1 hov2 (d := 92) (x1 := a2) (x2 := a4) K.1 (fun r8 hh9 K10 => ?_)
  have br8 := xc_rng r8
  have K11 := xk_tr K K10 rfl
  obtain ⟨u12, u13, bu12, bu13, A14⟩ := xq_0 K11.1
  have e15 : u6 = u13 := xk_eqi (q := 9) K10 rfl A7 A14 rfl rfl
  subst e15
  show xw J ov 100 195 (1430, [(4, .int x4), (3, .ref 167), (2, .ref 115), (1, .ref 0), (0, .ref 1000000)], [.int r8], hh9) _
  refine xi_pop (pc' := 1431) kc_195_1430 rfl rfl ?_
  refine xi_aload_n (pc' := 1432) (x := 115) kc_195_1431 rfl rfl ?_
  refine xi_aload_n (pc' := 1433) (x := 1000000) kc_195_1432 rfl rfl ?_
  refine xi_iload (pc' := 1435) (x := x4) kc_195_1433 rfl rfl ?_
  refine xi_iconst (pc' := 1436) (v := 1) kc_195_1435 rfl rfl ?_
  refine xi_iadd (pc' := 1437) (v := v1) kc_195_1436 rfl ev1 ?_
  refine xi_ialoadO (pc' := 1438) (v := a2) kc_195_1437 rfl (by decide) hov0 (xi_in (by omega) (by omega)) ea2 ?_
  refine xi_aload_n (pc' := 1439) (x := 1000000) kc_195_1438 rfl rfl ?_
  refine xi_iload (pc' := 1441) (x := x4) kc_195_1439 rfl rfl ?_
  refine xi_iconst (pc' := 1442) (v := 2) kc_195_1441 rfl rfl ?_
  refine xi_iadd (pc' := 1443) (v := v3) kc_195_1442 rfl ev3 ?_
  refine xi_ialoadO (pc' := 1444) (v := a4) kc_195_1443 rfl (by decide) hov0 (xi_in (by omega) (by omega)) ea4 ?_
  obtain ⟨u16, u17, u18, u19, u20, u21, u22, u23, u24, u25, u26, u27, u28, bu16, bu17, bu18, bu19, bu20, bu21, bu22, bu23, bu24, bu25, bu26, bu27, bu28, A29⟩ := xq_115 K11.1
  refine xi_virtual (mj := 73) (as := [.int a2, .int a4]) (st1 := []) (lv0 := [(0, .ref 115), (1, .int a2), (2, .int a4)]) kc_195_1444 rfl rfl rfl rfl rfl A29 (Nat.le_of_ble_eq_true rfl) (hJ _ _ _ _ (by decide)) (xm_le ml_73 rfl) rfl ?_
  refine mt_73_0 hJ hov1 hov2 (d := 91) (x1 := a2) (x2 := a4) K11.1 (fun r30 hh31 K32 => ?_)
  have br30 := xc_rng r30
  have K33 := xk_tr K11 K32 rfl
  obtain ⟨u34, u35, bu34, bu35, A36⟩ := xq_0 K33.1
  have e37 : u6 = u35 := xk_eqi (q := 9) K32 rfl A14 A36 rfl rfl
  subst e37
  obtain ⟨u38, u39, u40, u41, u42, u43, u44, u45, u46, u47, u48, u49, u50, bu38, bu39, bu40, bu41, bu42, bu43, bu44, bu45, bu46, bu47, bu48, bu49, bu50, A51⟩ := xq_115 K33.1
  have e52 : u17 = u39 := xk_eqi (q := 1) K32 rfl A29 A51 rfl rfl
  subst e52
  have e53 : u19 = u41 := xk_eqi (q := 18) K32 rfl A29 A51 rfl rfl
  subst e53
  show xw J ov 100 195 (1447, [(4, .int x4), (3, .ref 167), (2, .ref 115), (1, .ref 0), (0, .ref 1000000)], [.int r30], hh31) _
  refine xi_pop (pc' := 1448) kc_195_1447 rfl rfl ?_
  refine xi_goto (pc' := 1501) kc_195_1448 rfl ?_
  obtain ⟨v54, ev54⟩ : ∃ q : Int32, x4 + 6 = q := ⟨_, rfl⟩
  have zv54 : v54.toInt = (x4.toInt + 6) := by rw [← ev54]; exact (xz_add (X := x4.toInt) (Y := 6) rfl (by decide) (by omega) (by omega)).trans (by omega)
  refine xi_iinc (pc' := 1504) (x := x4) (v := v54) (lv' := [(4, .int v54), (3, .ref 167), (2, .ref 115), (1, .ref 0), (0, .ref 1000000)]) kc_195_1501 rfl rfl ev54 rfl (xm_lt ml_195 rfl) ?_
  refine xi_goto (pc' := 23) kc_195_1504 rfl ?_
  exact kk v54 hh31 (by omega) K33
set_option maxHeartbeats 8000000 in
theorem lc_32 {J : xe_J} {ov : List (List Int32)} (hJ : ∀ d mj as h, mj ≠ xe_loff → J d mj as h = none) (hov1 : ov[1]? = some [10, 0, 0, 0, 0, 0]) (hov2 : ov[2]? = some [99, 30, 50, 50, 1, 99999]) {xs : List Int32} (hov0 : ov[0]? = some xs) {Q : Option Value → xe_H → Prop} {h : xe_H} {x4 : Int32} (hi0 : 0 ≤ x4.toInt) (hi1 : x4.toInt + 6 ≤ xs.length) (hi2 : x4.toInt ≤ 3066) (T : xt h) (kk : ∀ (i : Int32) (h' : xe_H), i.toInt = x4.toInt + 6 → xk [(29, 0), (31, 0), (33, 0), (35, 0), (37, 0), (39, 0), (41, 0), (43, 0), (45, 0), (47, 0), (49, 0), (51, 0), (125, 0), (0, 9), (115, 1), (66, 8), (115, 18), (71, 0), (132, 0)] h h' → xw J ov 100 195 (23, [(4, .int i), (3, .ref 167), (2, .ref 115), (1, .ref 0), (0, .ref 1000000)], [], h') Q) : xw J ov 100 195 (1451, [(4, .int x4), (3, .ref 167), (2, .ref 115), (1, .ref 0), (0, .ref 1000000)], [], h) Q := by
  have K : xk [(29, 0), (31, 0), (33, 0), (35, 0), (37, 0), (39, 0), (41, 0), (43, 0), (45, 0), (47, 0), (49, 0), (51, 0), (125, 0), (0, 9), (115, 1), (66, 8), (115, 18), (71, 0), (132, 0)] h h := xk_re T
  refine xi_aload_n (pc' := 1452) (x := 0) kc_195_1451 rfl rfl ?_
  refine xi_aload_n (pc' := 1453) (x := 1000000) kc_195_1452 rfl rfl ?_
  refine xi_iload (pc' := 1455) (x := x4) kc_195_1453 rfl rfl ?_
  refine xi_iconst (pc' := 1456) (v := 1) kc_195_1455 rfl rfl ?_
  obtain ⟨v1, ev1⟩ : ∃ q : Int32, x4 + 1 = q := ⟨_, rfl⟩
  have zv1 : v1.toInt = (x4.toInt + 1) := by rw [← ev1]; exact (xz_add (X := x4.toInt) (Y := 1) rfl (by decide) (by omega) (by omega)).trans (by omega)
  refine xi_iadd (pc' := 1457) (v := v1) kc_195_1456 rfl ev1 ?_
  obtain ⟨a2, ea2⟩ : ∃ q : Int32, xs.getD (Int32.toNatClampNeg v1) 0 = q := ⟨_, rfl⟩
  have ra2 := xc_rng a2
  refine xi_ialoadO (pc' := 1458) (v := a2) kc_195_1457 rfl (by decide) hov0 (xi_in (by omega) (by omega)) ea2 ?_
  obtain ⟨u3, u4, bu3, bu4, A5⟩ := xq_0 K.1
  refine xi_virtual (mj := 188) (as := [.int a2]) (st1 := []) (lv0 := [(0, .ref 0), (1, .int a2)]) kc_195_1458 rfl rfl rfl rfl rfl A5 (Nat.le_of_ble_eq_true rfl) (hJ _ _ _ _ (by decide)) (xm_le ml_188 rfl) rfl ?_
  refine mt_188_0 hJ hov1 hov2 (d := 97) (x1 := a2) K.1 (fun r6 hh7 br6 K8 => ?_)
  have K9 := xk_tr K K8 rfl
  obtain ⟨u10, u11, bu10, bu11, A12⟩ := xq_0 K9.1
  have e13 : u4 = u11 := xk_eqi (q := 9) K8 rfl A5 A12 rfl rfl
  subst e13
  show xw J ov 100 195 (1461, [(4, .int x4), (3, .ref 167), (2, .ref 115), (1, .ref 0), (0, .ref 1000000)], [.int r6], hh7) _
  refine xi_pop (pc' := 1462) kc_195_1461 rfl rfl ?_
  refine xi_aload_n (pc' := 1463) (x := 115) kc_195_1462 rfl rfl ?_
  refine xi_aload_n (pc' := 1464) (x := 1000000) kc_195_1463 rfl rfl ?_
  refine xi_iload (pc' := 1466) (x := x4) kc_195_1464 rfl rfl ?_
  refine xi_iconst (pc' := 1467) (v := 1) kc_195_1466 rfl rfl ?_
  refine xi_iadd (pc' := 1468) (v := v1) kc_195_1467 rfl ev1 ?_
  refine xi_ialoadO (pc' := 1469) (v := a2) kc_195_1468 rfl (by decide) hov0 (xi_in (by omega) (by omega)) ea2 ?_
  obtain ⟨u14, u15, u16, u17, u18, u19, u20, u21, u22, u23, u24, u25, u26, bu14, bu15, bu16, bu17, bu18, bu19, bu20, bu21, bu22, bu23, bu24, bu25, bu26, A27⟩ := xq_115 K9.1
  refine xi_virtual (mj := 74) (as := [.int a2]) (st1 := []) (lv0 := [(0, .ref 115), (1, .int a2)]) kc_195_1469 rfl rfl rfl rfl rfl A27 (Nat.le_of_ble_eq_true rfl) (hJ _ _ _ _ (by decide)) (xm_le ml_74 rfl) rfl ?_
  refine mt_74_0 hJ hov1 hov2 (d := 98) (x1 := a2) K9.1 (fun r28 hh29 br28 K30 => ?_)
  have K31 := xk_tr K9 K30 rfl
  obtain ⟨u32, u33, bu32, bu33, A34⟩ := xq_0 K31.1
  have e35 : u4 = u33 := xk_eqi (q := 9) K30 rfl A12 A34 rfl rfl
  subst e35
  obtain ⟨u36, u37, u38, u39, u40, u41, u42, u43, u44, u45, u46, u47, u48, bu36, bu37, bu38, bu39, bu40, bu41, bu42, bu43, bu44, bu45, bu46, bu47, bu48, A49⟩ := xq_115 K31.1
  have e50 : u15 = u37 := xk_eqi (q := 1) K30 rfl A27 A49 rfl rfl
  subst e50
  have e51 : u17 = u39 := xk_eqi (q := 18) K30 rfl A27 A49 rfl rfl
  subst e51
  show xw J ov 100 195 (1472, [(4, .int x4), (3, .ref 167), (2, .ref 115), (1, .ref 0), (0, .ref 1000000)], [.int r28], hh29) _
  refine xi_pop (pc' := 1473) kc_195_1472 rfl rfl ?_
  refine xi_goto (pc' := 1501) kc_195_1473 rfl ?_
  obtain ⟨v52, ev52⟩ : ∃ q : Int32, x4 + 6 = q := ⟨_, rfl⟩
  have zv52 : v52.toInt = (x4.toInt + 6) := by rw [← ev52]; exact (xz_add (X := x4.toInt) (Y := 6) rfl (by decide) (by omega) (by omega)).trans (by omega)
  refine xi_iinc (pc' := 1504) (x := x4) (v := v52) (lv' := [(4, .int v52), (3, .ref 167), (2, .ref 115), (1, .ref 0), (0, .ref 1000000)]) kc_195_1501 rfl rfl ev52 rfl (xm_lt ml_195 rfl) ?_
  refine xi_goto (pc' := 23) kc_195_1504 rfl ?_
  exact kk v52 hh29 (by omega) K31
set_option maxHeartbeats 8000000 in
theorem lc_33 {J : xe_J} {ov : List (List Int32)} (hJ : ∀ d mj as h, mj ≠ xe_loff → J d mj as h = none) (hov1 : ov[1]? = some [10, 0, 0, 0, 0, 0]) (hov2 : ov[2]? = some [99, 30, 50, 50, 1, 99999]) {xs : List Int32} (hov0 : ov[0]? = some xs) {Q : Option Value → xe_H → Prop} {h : xe_H} {x4 : Int32} (hi0 : 0 ≤ x4.toInt) (hi1 : x4.toInt + 6 ≤ xs.length) (hi2 : x4.toInt ≤ 3066) (T : xt h) (kk : ∀ (i : Int32) (h' : xe_H), i.toInt = x4.toInt + 6 → xk [(29, 0), (31, 0), (33, 0), (35, 0), (37, 0), (39, 0), (41, 0), (43, 0), (45, 0), (47, 0), (49, 0), (51, 0), (125, 0), (0, 9), (115, 1), (66, 8), (115, 18), (71, 0), (132, 0)] h h' → xw J ov 100 195 (23, [(4, .int i), (3, .ref 167), (2, .ref 115), (1, .ref 0), (0, .ref 1000000)], [], h') Q) : xw J ov 100 195 (1476, [(4, .int x4), (3, .ref 167), (2, .ref 115), (1, .ref 0), (0, .ref 1000000)], [], h) Q := by
  have K : xk [(29, 0), (31, 0), (33, 0), (35, 0), (37, 0), (39, 0), (41, 0), (43, 0), (45, 0), (47, 0), (49, 0), (51, 0), (125, 0), (0, 9), (115, 1), (66, 8), (115, 18), (71, 0), (132, 0)] h h := xk_re T
  refine xi_aload_n (pc' := 1477) (x := 0) kc_195_1476 rfl rfl ?_
  refine xi_aload_n (pc' := 1478) (x := 1000000) kc_195_1477 rfl rfl ?_
  refine xi_iload (pc' := 1480) (x := x4) kc_195_1478 rfl rfl ?_
  refine xi_iconst (pc' := 1481) (v := 1) kc_195_1480 rfl rfl ?_
  obtain ⟨v1, ev1⟩ : ∃ q : Int32, x4 + 1 = q := ⟨_, rfl⟩
  have zv1 : v1.toInt = (x4.toInt + 1) := by rw [← ev1]; exact (xz_add (X := x4.toInt) (Y := 1) rfl (by decide) (by omega) (by omega)).trans (by omega)
  refine xi_iadd (pc' := 1482) (v := v1) kc_195_1481 rfl ev1 ?_
  obtain ⟨a2, ea2⟩ : ∃ q : Int32, xs.getD (Int32.toNatClampNeg v1) 0 = q := ⟨_, rfl⟩
  have ra2 := xc_rng a2
  refine xi_ialoadO (pc' := 1483) (v := a2) kc_195_1482 rfl (by decide) hov0 (xi_in (by omega) (by omega)) ea2 ?_
  obtain ⟨u3, u4, bu3, bu4, A5⟩ := xq_0 K.1
  refine xi_virtual (mj := 190) (as := [.int a2]) (st1 := []) (lv0 := [(0, .ref 0), (1, .int a2)]) kc_195_1483 rfl rfl rfl rfl rfl A5 (Nat.le_of_ble_eq_true rfl) (hJ _ _ _ _ (by decide)) (xm_le ml_190 rfl) rfl ?_
  refine mt_190_0 hJ hov1 hov2 (d := 96) (x1 := a2) K.1 (fun r6 hh7 K8 => ?_)
  have br6 := xc_rng r6
  have K9 := xk_tr K K8 rfl
  obtain ⟨u10, u11, bu10, bu11, A12⟩ := xq_0 K9.1
  have e13 : u4 = u11 := xk_eqi (q := 9) K8 rfl A5 A12 rfl rfl
  subst e13
  show xw J ov 100 195 (1486, [(4, .int x4), (3, .ref 167), (2, .ref 115), (1, .ref 0), (0, .ref 1000000)], [.int r6], hh7) _
  refine xi_pop (pc' := 1487) kc_195_1486 rfl rfl ?_
  refine xi_aload_n (pc' := 1488) (x := 115) kc_195_1487 rfl rfl ?_
  refine xi_aload_n (pc' := 1489) (x := 1000000) kc_195_1488 rfl rfl ?_
  refine xi_iload (pc' := 1491) (x := x4) kc_195_1489 rfl rfl ?_
  refine xi_iconst (pc' := 1492) (v := 1) kc_195_1491 rfl rfl ?_
  refine xi_iadd (pc' := 1493) (v := v1) kc_195_1492 rfl ev1 ?_
  refine xi_ialoadO (pc' := 1494) (v := a2) kc_195_1493 rfl (by decide) hov0 (xi_in (by omega) (by omega)) ea2 ?_
  obtain ⟨u14, u15, u16, u17, u18, u19, u20, u21, u22, u23, u24, u25, u26, bu14, bu15, bu16, bu17, bu18, bu19, bu20, bu21, bu22, bu23, bu24, bu25, bu26, A27⟩ := xq_115 K9.1
  refine xi_virtual (mj := 75) (as := [.int a2]) (st1 := []) (lv0 := [(0, .ref 115), (1, .int a2)]) kc_195_1494 rfl rfl rfl rfl rfl A27 (Nat.le_of_ble_eq_true rfl) (hJ _ _ _ _ (by decide)) (xm_le ml_75 rfl) rfl ?_
  refine mt_75_0 hJ hov1 hov2 (d := 97) (x1 := a2) K9.1 (fun r28 hh29 K30 => ?_)
  have br28 := xc_rng r28
  have K31 := xk_tr K9 K30 rfl
  obtain ⟨u32, u33, bu32, bu33, A34⟩ := xq_0 K31.1
  have e35 : u4 = u33 := xk_eqi (q := 9) K30 rfl A12 A34 rfl rfl
  subst e35
  obtain ⟨u36, u37, u38, u39, u40, u41, u42, u43, u44, u45, u46, u47, u48, bu36, bu37, bu38, bu39, bu40, bu41, bu42, bu43, bu44, bu45, bu46, bu47, bu48, A49⟩ := xq_115 K31.1
  have e50 : u15 = u37 := xk_eqi (q := 1) K30 rfl A27 A49 rfl rfl
  subst e50
  have e51 : u17 = u39 := xk_eqi (q := 18) K30 rfl A27 A49 rfl rfl
  subst e51
  show xw J ov 100 195 (1497, [(4, .int x4), (3, .ref 167), (2, .ref 115), (1, .ref 0), (0, .ref 1000000)], [.int r28], hh29) _
  refine xi_pop (pc' := 1498) kc_195_1497 rfl rfl ?_
  refine xi_goto (pc' := 1501) kc_195_1498 rfl ?_
  obtain ⟨v52, ev52⟩ : ∃ q : Int32, x4 + 6 = q := ⟨_, rfl⟩
  have zv52 : v52.toInt = (x4.toInt + 6) := by rw [← ev52]; exact (xz_add (X := x4.toInt) (Y := 6) rfl (by decide) (by omega) (by omega)).trans (by omega)
  refine xi_iinc (pc' := 1504) (x := x4) (v := v52) (lv' := [(4, .int v52), (3, .ref 167), (2, .ref 115), (1, .ref 0), (0, .ref 1000000)]) kc_195_1501 rfl rfl ev52 rfl (xm_lt ml_195 rfl) ?_
  refine xi_goto (pc' := 23) kc_195_1504 rfl ?_
  exact kk v52 hh29 (by omega) K31
