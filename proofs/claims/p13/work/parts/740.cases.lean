def xI (h : xe_H) : Prop := xGR h xG_wall 0 125 ∧ xGR h xG_wall 2 127 ∧ xl h (1, 5) = xl h (115, 23)
theorem xI_kept {h h' : xe_H} (I : xI h) (F : ∀ l : Nat × Nat, List.elem l [(29, 0), (31, 0), (33, 0), (35, 0), (37, 0), (39, 0), (41, 0), (43, 0), (45, 0), (47, 0), (49, 0), (51, 0), (125, 0), (29, 2), (31, 2), (33, 2), (35, 2), (37, 2), (39, 2), (41, 2), (43, 2), (45, 2), (47, 2), (49, 2), (51, 2), (127, 0), (1, 5), (115, 23)] = true → xl h' l = xl h l) : xI h' := ⟨xGR_fr I.1 F rfl rfl, xGR_fr I.2.1 F rfl rfl, (F (1, 5) rfl).trans (I.2.2.trans (F (115, 23) rfl).symm)⟩
set_option maxHeartbeats 8000000 in
theorem lc_d {J : xe_J} {ov : List (List Int32)} (hJ : ∀ d mj as h, mj ≠ xe_loff → J d mj as h = none) (hov1 : ov[1]? = some [10, 0, 0, 0, 0, 0]) (hov2 : ov[2]? = some [99, 30, 50, 50, 1, 99999]) {xs : List Int32} (hov0 : ov[0]? = some xs) {Q : Option Value → xe_H → Prop} {h : xe_H} {x4 : Int32} (hi0 : 0 ≤ x4.toInt) (hi1 : x4.toInt + 6 ≤ xs.length) (hi2 : x4.toInt ≤ 3066) (T : xt h) (kk : ∀ (i : Int32) (h' : xe_H), i.toInt = x4.toInt + 6 → xk [(29, 0), (31, 0), (33, 0), (35, 0), (37, 0), (39, 0), (41, 0), (43, 0), (45, 0), (47, 0), (49, 0), (51, 0), (125, 0), (29, 2), (31, 2), (33, 2), (35, 2), (37, 2), (39, 2), (41, 2), (43, 2), (45, 2), (47, 2), (49, 2), (51, 2), (127, 0), (1, 5), (115, 23)] h h' → xw J ov 100 195 (23, [(4, .int i), (3, .ref 167), (2, .ref 115), (1, .ref 0), (0, .ref 1000000)], [], h') Q) : xw J ov 100 195 (1501, [(4, .int x4), (3, .ref 167), (2, .ref 115), (1, .ref 0), (0, .ref 1000000)], [], h) Q := by
  have K : xk [(29, 0), (31, 0), (33, 0), (35, 0), (37, 0), (39, 0), (41, 0), (43, 0), (45, 0), (47, 0), (49, 0), (51, 0), (125, 0), (29, 2), (31, 2), (33, 2), (35, 2), (37, 2), (39, 2), (41, 2), (43, 2), (45, 2), (47, 2), (49, 2), (51, 2), (127, 0), (1, 5), (115, 23)] h h := xk_re T
  obtain ⟨v1, ev1⟩ : ∃ q : Int32, x4 + 6 = q := ⟨_, rfl⟩
  have zv1 : v1.toInt = (x4.toInt + 6) := by rw [← ev1]; exact (xz_add (X := x4.toInt) (Y := 6) rfl (by decide) (by omega) (by omega)).trans (by omega)
  refine xi_iinc (pc' := 1504) (x := x4) (v := v1) (lv' := [(4, .int v1), (3, .ref 167), (2, .ref 115), (1, .ref 0), (0, .ref 1000000)]) kc_195_1501 rfl rfl ev1 rfl (xm_lt ml_195 rfl) ?_
  refine xi_goto (pc' := 23) kc_195_1504 rfl ?_
  exact kk v1 h (by omega) K
set_option maxHeartbeats 8000000 in
theorem lc_0 {J : xe_J} {ov : List (List Int32)} (hJ : ∀ d mj as h, mj ≠ xe_loff → J d mj as h = none) (hov1 : ov[1]? = some [10, 0, 0, 0, 0, 0]) (hov2 : ov[2]? = some [99, 30, 50, 50, 1, 99999]) {xs : List Int32} (hov0 : ov[0]? = some xs) {Q : Option Value → xe_H → Prop} {h : xe_H} {x4 : Int32} (hi0 : 0 ≤ x4.toInt) (hi1 : x4.toInt + 6 ≤ xs.length) (hi2 : x4.toInt ≤ 3066) (T : xt h) (kk : ∀ (i : Int32) (h' : xe_H), i.toInt = x4.toInt + 6 → xk [(29, 0), (31, 0), (33, 0), (35, 0), (37, 0), (39, 0), (41, 0), (43, 0), (45, 0), (47, 0), (49, 0), (51, 0), (125, 0), (29, 2), (31, 2), (33, 2), (35, 2), (37, 2), (39, 2), (41, 2), (43, 2), (45, 2), (47, 2), (49, 2), (51, 2), (127, 0), (1, 5), (115, 23)] h h' → xw J ov 100 195 (23, [(4, .int i), (3, .ref 167), (2, .ref 115), (1, .ref 0), (0, .ref 1000000)], [], h') Q) : xw J ov 100 195 (192, [(4, .int x4), (3, .ref 167), (2, .ref 115), (1, .ref 0), (0, .ref 1000000)], [], h) Q := by
  have K : xk [(29, 0), (31, 0), (33, 0), (35, 0), (37, 0), (39, 0), (41, 0), (43, 0), (45, 0), (47, 0), (49, 0), (51, 0), (125, 0), (29, 2), (31, 2), (33, 2), (35, 2), (37, 2), (39, 2), (41, 2), (43, 2), (45, 2), (47, 2), (49, 2), (51, 2), (127, 0), (1, 5), (115, 23)] h h := xk_re T
  refine xi_aload_n (pc' := 193) (x := 0) kc_195_192 rfl rfl ?_
  refine xi_aload_n (pc' := 194) (x := 1000000) kc_195_193 rfl rfl ?_
  refine xi_iload (pc' := 196) (x := x4) kc_195_194 rfl rfl ?_
  refine xi_iconst (pc' := 197) (v := 1) kc_195_196 rfl rfl ?_
  obtain ⟨v1, ev1⟩ : ∃ q : Int32, x4 + 1 = q := ⟨_, rfl⟩
  have zv1 : v1.toInt = (x4.toInt + 1) := by rw [← ev1]; exact (xz_add (X := x4.toInt) (Y := 1) rfl (by decide) (by omega) (by omega)).trans (by omega)
  refine xi_iadd (pc' := 198) (v := v1) kc_195_197 rfl ev1 ?_
  obtain ⟨a2, ea2⟩ : ∃ q : Int32, xs.getD (Int32.toNatClampNeg v1) 0 = q := ⟨_, rfl⟩
  have ra2 := xc_rng a2
  refine xi_ialoadO (pc' := 199) (v := a2) kc_195_198 rfl (by decide) hov0 (xi_in (by omega) (by omega)) ea2 ?_
  refine xi_aload_n (pc' := 200) (x := 1000000) kc_195_199 rfl rfl ?_
  refine xi_iload (pc' := 202) (x := x4) kc_195_200 rfl rfl ?_
  refine xi_iconst (pc' := 203) (v := 2) kc_195_202 rfl rfl ?_
  obtain ⟨v3, ev3⟩ : ∃ q : Int32, x4 + 2 = q := ⟨_, rfl⟩
  have zv3 : v3.toInt = (x4.toInt + 2) := by rw [← ev3]; exact (xz_add (X := x4.toInt) (Y := 2) rfl (by decide) (by omega) (by omega)).trans (by omega)
  refine xi_iadd (pc' := 204) (v := v3) kc_195_203 rfl ev3 ?_
  obtain ⟨a4, ea4⟩ : ∃ q : Int32, xs.getD (Int32.toNatClampNeg v3) 0 = q := ⟨_, rfl⟩
  have ra4 := xc_rng a4
  refine xi_ialoadO (pc' := 205) (v := a4) kc_195_204 rfl (by decide) hov0 (xi_in (by omega) (by omega)) ea4 ?_
  refine xi_aload_n (pc' := 206) (x := 1000000) kc_195_205 rfl rfl ?_
  refine xi_iload (pc' := 208) (x := x4) kc_195_206 rfl rfl ?_
  refine xi_iconst (pc' := 209) (v := 3) kc_195_208 rfl rfl ?_
  obtain ⟨v5, ev5⟩ : ∃ q : Int32, x4 + 3 = q := ⟨_, rfl⟩
  have zv5 : v5.toInt = (x4.toInt + 3) := by rw [← ev5]; exact (xz_add (X := x4.toInt) (Y := 3) rfl (by decide) (by omega) (by omega)).trans (by omega)
  refine xi_iadd (pc' := 210) (v := v5) kc_195_209 rfl ev5 ?_
  obtain ⟨a6, ea6⟩ : ∃ q : Int32, xs.getD (Int32.toNatClampNeg v5) 0 = q := ⟨_, rfl⟩
  have ra6 := xc_rng a6
  refine xi_ialoadO (pc' := 211) (v := a6) kc_195_210 rfl (by decide) hov0 (xi_in (by omega) (by omega)) ea6 ?_
  obtain ⟨u7, u8, bu7, bu8, A9⟩ := xq_0 K.1
  refine xi_virtual (mj := 88) (as := [.int a2, .int a4, .int a6]) (st1 := []) (lv0 := [(0, .ref 0), (1, .int a2), (2, .int a4), (3, .int a6)]) kc_195_211 rfl rfl rfl rfl rfl A9 (Nat.le_of_ble_eq_true rfl) (hJ _ _ _ _ (by decide)) (xm_le ml_88 rfl) rfl ?_
  refine mt_88_0 hJ hov1 hov2 (d := 97) (x1 := a2) (x2 := a4) (x3 := a6) K.1 (fun r10 hh11 K12 => ?_)
  have br10 := xc_rng r10
  have K13 := xk_tr K K12 rfl
  obtain ⟨u14, u15, bu14, bu15, A16⟩ := xq_0 K13.1
  have e17 : u8 = u15 := xk_eqi (q := 9) K12 rfl A9 A16 rfl rfl
  subst e17
  show xw J ov 100 195 (214, [(4, .int x4), (3, .ref 167), (2, .ref 115), (1, .ref 0), (0, .ref 1000000)], [.int r10], hh11) _
  refine xi_pop (pc' := 215) kc_195_214 rfl rfl ?_
  refine xi_aload_n (pc' := 216) (x := 115) kc_195_215 rfl rfl ?_
  refine xi_aload_n (pc' := 217) (x := 1000000) kc_195_216 rfl rfl ?_
  refine xi_iload (pc' := 219) (x := x4) kc_195_217 rfl rfl ?_
  refine xi_iconst (pc' := 220) (v := 1) kc_195_219 rfl rfl ?_
  refine xi_iadd (pc' := 221) (v := v1) kc_195_220 rfl ev1 ?_
  refine xi_ialoadO (pc' := 222) (v := a2) kc_195_221 rfl (by decide) hov0 (xi_in (by omega) (by omega)) ea2 ?_
  refine xi_aload_n (pc' := 223) (x := 1000000) kc_195_222 rfl rfl ?_
  refine xi_iload (pc' := 225) (x := x4) kc_195_223 rfl rfl ?_
  refine xi_iconst (pc' := 226) (v := 2) kc_195_225 rfl rfl ?_
  refine xi_iadd (pc' := 227) (v := v3) kc_195_226 rfl ev3 ?_
  refine xi_ialoadO (pc' := 228) (v := a4) kc_195_227 rfl (by decide) hov0 (xi_in (by omega) (by omega)) ea4 ?_
  refine xi_aload_n (pc' := 229) (x := 1000000) kc_195_228 rfl rfl ?_
  refine xi_iload (pc' := 231) (x := x4) kc_195_229 rfl rfl ?_
  refine xi_iconst (pc' := 232) (v := 3) kc_195_231 rfl rfl ?_
  refine xi_iadd (pc' := 233) (v := v5) kc_195_232 rfl ev5 ?_
  refine xi_ialoadO (pc' := 234) (v := a6) kc_195_233 rfl (by decide) hov0 (xi_in (by omega) (by omega)) ea6 ?_
  obtain ⟨u18, u19, u20, u21, u22, u23, u24, u25, u26, u27, u28, u29, u30, bu18, bu19, bu20, bu21, bu22, bu23, bu24, bu25, bu26, bu27, bu28, bu29, bu30, A31⟩ := xq_115 K13.1
  refine xi_virtual (mj := 9) (as := [.int a2, .int a4, .int a6]) (st1 := []) (lv0 := [(0, .ref 115), (1, .int a2), (2, .int a4), (3, .int a6)]) kc_195_234 rfl rfl rfl rfl rfl A31 (Nat.le_of_ble_eq_true rfl) (hJ _ _ _ _ (by decide)) (xm_le ml_9 rfl) rfl ?_
  refine mt_9_0 hJ hov1 hov2 (d := 97) (x1 := a2) (x2 := a4) (x3 := a6) K13.1 (fun r32 hh33 K34 => ?_)
  have br32 := xc_rng r32
  have K35 := xk_tr K13 K34 rfl
  obtain ⟨u36, u37, bu36, bu37, A38⟩ := xq_0 K35.1
  have e39 : u8 = u37 := xk_eqi (q := 9) K34 rfl A16 A38 rfl rfl
  subst e39
  obtain ⟨u40, u41, u42, u43, u44, u45, u46, u47, u48, u49, u50, u51, u52, bu40, bu41, bu42, bu43, bu44, bu45, bu46, bu47, bu48, bu49, bu50, bu51, bu52, A53⟩ := xq_115 K35.1
  have e54 : u19 = u41 := xk_eqi (q := 1) K34 rfl A31 A53 rfl rfl
  subst e54
  have e55 : u22 = u44 := xk_eqi (q := 23) K34 rfl A31 A53 rfl rfl
  subst e55
  show xw J ov 100 195 (237, [(4, .int x4), (3, .ref 167), (2, .ref 115), (1, .ref 0), (0, .ref 1000000)], [.int r32], hh33) _
  refine xi_pop (pc' := 238) kc_195_237 rfl rfl ?_
  refine xi_goto (pc' := 1501) kc_195_238 rfl ?_
  obtain ⟨v56, ev56⟩ : ∃ q : Int32, x4 + 6 = q := ⟨_, rfl⟩
  have zv56 : v56.toInt = (x4.toInt + 6) := by rw [← ev56]; exact (xz_add (X := x4.toInt) (Y := 6) rfl (by decide) (by omega) (by omega)).trans (by omega)
  refine xi_iinc (pc' := 1504) (x := x4) (v := v56) (lv' := [(4, .int v56), (3, .ref 167), (2, .ref 115), (1, .ref 0), (0, .ref 1000000)]) kc_195_1501 rfl rfl ev56 rfl (xm_lt ml_195 rfl) ?_
  refine xi_goto (pc' := 23) kc_195_1504 rfl ?_
  exact kk v56 hh33 (by omega) K35
set_option maxHeartbeats 8000000 in
theorem lc_1 {J : xe_J} {ov : List (List Int32)} (hJ : ∀ d mj as h, mj ≠ xe_loff → J d mj as h = none) (hov1 : ov[1]? = some [10, 0, 0, 0, 0, 0]) (hov2 : ov[2]? = some [99, 30, 50, 50, 1, 99999]) {xs : List Int32} (hov0 : ov[0]? = some xs) {Q : Option Value → xe_H → Prop} {h : xe_H} {x4 : Int32} (hi0 : 0 ≤ x4.toInt) (hi1 : x4.toInt + 6 ≤ xs.length) (hi2 : x4.toInt ≤ 3066) (T : xt h) (kk : ∀ (i : Int32) (h' : xe_H), i.toInt = x4.toInt + 6 → xk [(29, 0), (31, 0), (33, 0), (35, 0), (37, 0), (39, 0), (41, 0), (43, 0), (45, 0), (47, 0), (49, 0), (51, 0), (125, 0), (29, 2), (31, 2), (33, 2), (35, 2), (37, 2), (39, 2), (41, 2), (43, 2), (45, 2), (47, 2), (49, 2), (51, 2), (127, 0), (1, 5), (115, 23)] h h' → xw J ov 100 195 (23, [(4, .int i), (3, .ref 167), (2, .ref 115), (1, .ref 0), (0, .ref 1000000)], [], h') Q) : xw J ov 100 195 (241, [(4, .int x4), (3, .ref 167), (2, .ref 115), (1, .ref 0), (0, .ref 1000000)], [], h) Q := by
  have K : xk [(29, 0), (31, 0), (33, 0), (35, 0), (37, 0), (39, 0), (41, 0), (43, 0), (45, 0), (47, 0), (49, 0), (51, 0), (125, 0), (29, 2), (31, 2), (33, 2), (35, 2), (37, 2), (39, 2), (41, 2), (43, 2), (45, 2), (47, 2), (49, 2), (51, 2), (127, 0), (1, 5), (115, 23)] h h := xk_re T
  refine xi_aload_n (pc' := 242) (x := 0) kc_195_241 rfl rfl ?_
  refine xi_aload_n (pc' := 243) (x := 1000000) kc_195_242 rfl rfl ?_
  refine xi_iload (pc' := 245) (x := x4) kc_195_243 rfl rfl ?_
  refine xi_iconst (pc' := 246) (v := 1) kc_195_245 rfl rfl ?_
  obtain ⟨v1, ev1⟩ : ∃ q : Int32, x4 + 1 = q := ⟨_, rfl⟩
  have zv1 : v1.toInt = (x4.toInt + 1) := by rw [← ev1]; exact (xz_add (X := x4.toInt) (Y := 1) rfl (by decide) (by omega) (by omega)).trans (by omega)
  refine xi_iadd (pc' := 247) (v := v1) kc_195_246 rfl ev1 ?_
  obtain ⟨a2, ea2⟩ : ∃ q : Int32, xs.getD (Int32.toNatClampNeg v1) 0 = q := ⟨_, rfl⟩
  have ra2 := xc_rng a2
  refine xi_ialoadO (pc' := 248) (v := a2) kc_195_247 rfl (by decide) hov0 (xi_in (by omega) (by omega)) ea2 ?_
  refine xi_aload_n (pc' := 249) (x := 1000000) kc_195_248 rfl rfl ?_
  refine xi_iload (pc' := 251) (x := x4) kc_195_249 rfl rfl ?_
  refine xi_iconst (pc' := 252) (v := 2) kc_195_251 rfl rfl ?_
  obtain ⟨v3, ev3⟩ : ∃ q : Int32, x4 + 2 = q := ⟨_, rfl⟩
  have zv3 : v3.toInt = (x4.toInt + 2) := by rw [← ev3]; exact (xz_add (X := x4.toInt) (Y := 2) rfl (by decide) (by omega) (by omega)).trans (by omega)
  refine xi_iadd (pc' := 253) (v := v3) kc_195_252 rfl ev3 ?_
  obtain ⟨a4, ea4⟩ : ∃ q : Int32, xs.getD (Int32.toNatClampNeg v3) 0 = q := ⟨_, rfl⟩
  have ra4 := xc_rng a4
  refine xi_ialoadO (pc' := 254) (v := a4) kc_195_253 rfl (by decide) hov0 (xi_in (by omega) (by omega)) ea4 ?_
  refine xi_aload_n (pc' := 255) (x := 1000000) kc_195_254 rfl rfl ?_
  refine xi_iload (pc' := 257) (x := x4) kc_195_255 rfl rfl ?_
  refine xi_iconst (pc' := 258) (v := 3) kc_195_257 rfl rfl ?_
  obtain ⟨v5, ev5⟩ : ∃ q : Int32, x4 + 3 = q := ⟨_, rfl⟩
  have zv5 : v5.toInt = (x4.toInt + 3) := by rw [← ev5]; exact (xz_add (X := x4.toInt) (Y := 3) rfl (by decide) (by omega) (by omega)).trans (by omega)
  refine xi_iadd (pc' := 259) (v := v5) kc_195_258 rfl ev5 ?_
  obtain ⟨a6, ea6⟩ : ∃ q : Int32, xs.getD (Int32.toNatClampNeg v5) 0 = q := ⟨_, rfl⟩
  have ra6 := xc_rng a6
  refine xi_ialoadO (pc' := 260) (v := a6) kc_195_259 rfl (by decide) hov0 (xi_in (by omega) (by omega)) ea6 ?_
  obtain ⟨u7, u8, bu7, bu8, A9⟩ := xq_0 K.1
  refine xi_virtual (mj := 94) (as := [.int a2, .int a4, .int a6]) (st1 := []) (lv0 := [(0, .ref 0), (1, .int a2), (2, .int a4), (3, .int a6)]) kc_195_260 rfl rfl rfl rfl rfl A9 (Nat.le_of_ble_eq_true rfl) (hJ _ _ _ _ (by decide)) (xm_le ml_94 rfl) rfl ?_
  refine mt_94_0 hJ hov1 hov2 (d := 98) (x1 := a2) (x2 := a4) (x3 := a6) K.1 (fun r10 hh11 K12 => ?_)
  have br10 := xc_rng r10
  have K13 := xk_tr K K12 rfl
  obtain ⟨u14, u15, bu14, bu15, A16⟩ := xq_0 K13.1
  have e17 : u8 = u15 := xk_eqi (q := 9) K12 rfl A9 A16 rfl rfl
  subst e17
  show xw J ov 100 195 (263, [(4, .int x4), (3, .ref 167), (2, .ref 115), (1, .ref 0), (0, .ref 1000000)], [.int r10], hh11) _
  refine xi_pop (pc' := 264) kc_195_263 rfl rfl ?_
  refine xi_aload_n (pc' := 265) (x := 115) kc_195_264 rfl rfl ?_
  refine xi_aload_n (pc' := 266) (x := 1000000) kc_195_265 rfl rfl ?_
  refine xi_iload (pc' := 268) (x := x4) kc_195_266 rfl rfl ?_
  refine xi_iconst (pc' := 269) (v := 1) kc_195_268 rfl rfl ?_
  refine xi_iadd (pc' := 270) (v := v1) kc_195_269 rfl ev1 ?_
  refine xi_ialoadO (pc' := 271) (v := a2) kc_195_270 rfl (by decide) hov0 (xi_in (by omega) (by omega)) ea2 ?_
  refine xi_aload_n (pc' := 272) (x := 1000000) kc_195_271 rfl rfl ?_
  refine xi_iload (pc' := 274) (x := x4) kc_195_272 rfl rfl ?_
  refine xi_iconst (pc' := 275) (v := 2) kc_195_274 rfl rfl ?_
  refine xi_iadd (pc' := 276) (v := v3) kc_195_275 rfl ev3 ?_
  refine xi_ialoadO (pc' := 277) (v := a4) kc_195_276 rfl (by decide) hov0 (xi_in (by omega) (by omega)) ea4 ?_
  refine xi_aload_n (pc' := 278) (x := 1000000) kc_195_277 rfl rfl ?_
  refine xi_iload (pc' := 280) (x := x4) kc_195_278 rfl rfl ?_
  refine xi_iconst (pc' := 281) (v := 3) kc_195_280 rfl rfl ?_
  refine xi_iadd (pc' := 282) (v := v5) kc_195_281 rfl ev5 ?_
  refine xi_ialoadO (pc' := 283) (v := a6) kc_195_282 rfl (by decide) hov0 (xi_in (by omega) (by omega)) ea6 ?_
  obtain ⟨u18, u19, u20, u21, u22, u23, u24, u25, u26, u27, u28, u29, u30, bu18, bu19, bu20, bu21, bu22, bu23, bu24, bu25, bu26, bu27, bu28, bu29, bu30, A31⟩ := xq_115 K13.1
  refine xi_virtual (mj := 15) (as := [.int a2, .int a4, .int a6]) (st1 := []) (lv0 := [(0, .ref 115), (1, .int a2), (2, .int a4), (3, .int a6)]) kc_195_283 rfl rfl rfl rfl rfl A31 (Nat.le_of_ble_eq_true rfl) (hJ _ _ _ _ (by decide)) (xm_le ml_15 rfl) rfl ?_
  refine mt_15_0 hJ hov1 hov2 (d := 97) (x1 := a2) (x2 := a4) (x3 := a6) K13.1 (fun r32 hh33 K34 => ?_)
  have br32 := xc_rng r32
  have K35 := xk_tr K13 K34 rfl
  obtain ⟨u36, u37, bu36, bu37, A38⟩ := xq_0 K35.1
  have e39 : u8 = u37 := xk_eqi (q := 9) K34 rfl A16 A38 rfl rfl
  subst e39
  obtain ⟨u40, u41, u42, u43, u44, u45, u46, u47, u48, u49, u50, u51, u52, bu40, bu41, bu42, bu43, bu44, bu45, bu46, bu47, bu48, bu49, bu50, bu51, bu52, A53⟩ := xq_115 K35.1
  have e54 : u19 = u41 := xk_eqi (q := 1) K34 rfl A31 A53 rfl rfl
  subst e54
  have e55 : u22 = u44 := xk_eqi (q := 23) K34 rfl A31 A53 rfl rfl
  subst e55
  show xw J ov 100 195 (286, [(4, .int x4), (3, .ref 167), (2, .ref 115), (1, .ref 0), (0, .ref 1000000)], [.int r32], hh33) _
  refine xi_pop (pc' := 287) kc_195_286 rfl rfl ?_
  refine xi_goto (pc' := 1501) kc_195_287 rfl ?_
  obtain ⟨v56, ev56⟩ : ∃ q : Int32, x4 + 6 = q := ⟨_, rfl⟩
  have zv56 : v56.toInt = (x4.toInt + 6) := by rw [← ev56]; exact (xz_add (X := x4.toInt) (Y := 6) rfl (by decide) (by omega) (by omega)).trans (by omega)
  refine xi_iinc (pc' := 1504) (x := x4) (v := v56) (lv' := [(4, .int v56), (3, .ref 167), (2, .ref 115), (1, .ref 0), (0, .ref 1000000)]) kc_195_1501 rfl rfl ev56 rfl (xm_lt ml_195 rfl) ?_
  refine xi_goto (pc' := 23) kc_195_1504 rfl ?_
  exact kk v56 hh33 (by omega) K35
set_option maxHeartbeats 8000000 in
theorem lc_2 {J : xe_J} {ov : List (List Int32)} (hJ : ∀ d mj as h, mj ≠ xe_loff → J d mj as h = none) (hov1 : ov[1]? = some [10, 0, 0, 0, 0, 0]) (hov2 : ov[2]? = some [99, 30, 50, 50, 1, 99999]) {xs : List Int32} (hov0 : ov[0]? = some xs) {Q : Option Value → xe_H → Prop} {h : xe_H} {x4 : Int32} (hi0 : 0 ≤ x4.toInt) (hi1 : x4.toInt + 6 ≤ xs.length) (hi2 : x4.toInt ≤ 3066) (T : xt h) (kk : ∀ (i : Int32) (h' : xe_H), i.toInt = x4.toInt + 6 → xk [(29, 0), (31, 0), (33, 0), (35, 0), (37, 0), (39, 0), (41, 0), (43, 0), (45, 0), (47, 0), (49, 0), (51, 0), (125, 0), (29, 2), (31, 2), (33, 2), (35, 2), (37, 2), (39, 2), (41, 2), (43, 2), (45, 2), (47, 2), (49, 2), (51, 2), (127, 0), (1, 5), (115, 23)] h h' → xw J ov 100 195 (23, [(4, .int i), (3, .ref 167), (2, .ref 115), (1, .ref 0), (0, .ref 1000000)], [], h') Q) : xw J ov 100 195 (290, [(4, .int x4), (3, .ref 167), (2, .ref 115), (1, .ref 0), (0, .ref 1000000)], [], h) Q := by
  have K : xk [(29, 0), (31, 0), (33, 0), (35, 0), (37, 0), (39, 0), (41, 0), (43, 0), (45, 0), (47, 0), (49, 0), (51, 0), (125, 0), (29, 2), (31, 2), (33, 2), (35, 2), (37, 2), (39, 2), (41, 2), (43, 2), (45, 2), (47, 2), (49, 2), (51, 2), (127, 0), (1, 5), (115, 23)] h h := xk_re T
  refine xi_aload_n (pc' := 291) (x := 0) kc_195_290 rfl rfl ?_
  refine xi_aload_n (pc' := 292) (x := 1000000) kc_195_291 rfl rfl ?_
  refine xi_iload (pc' := 294) (x := x4) kc_195_292 rfl rfl ?_
  refine xi_iconst (pc' := 295) (v := 1) kc_195_294 rfl rfl ?_
  obtain ⟨v1, ev1⟩ : ∃ q : Int32, x4 + 1 = q := ⟨_, rfl⟩
  have zv1 : v1.toInt = (x4.toInt + 1) := by rw [← ev1]; exact (xz_add (X := x4.toInt) (Y := 1) rfl (by decide) (by omega) (by omega)).trans (by omega)
  refine xi_iadd (pc' := 296) (v := v1) kc_195_295 rfl ev1 ?_
  obtain ⟨a2, ea2⟩ : ∃ q : Int32, xs.getD (Int32.toNatClampNeg v1) 0 = q := ⟨_, rfl⟩
  have ra2 := xc_rng a2
  refine xi_ialoadO (pc' := 297) (v := a2) kc_195_296 rfl (by decide) hov0 (xi_in (by omega) (by omega)) ea2 ?_
  refine xi_aload_n (pc' := 298) (x := 1000000) kc_195_297 rfl rfl ?_
  refine xi_iload (pc' := 300) (x := x4) kc_195_298 rfl rfl ?_
  refine xi_iconst (pc' := 301) (v := 2) kc_195_300 rfl rfl ?_
  obtain ⟨v3, ev3⟩ : ∃ q : Int32, x4 + 2 = q := ⟨_, rfl⟩
  have zv3 : v3.toInt = (x4.toInt + 2) := by rw [← ev3]; exact (xz_add (X := x4.toInt) (Y := 2) rfl (by decide) (by omega) (by omega)).trans (by omega)
  refine xi_iadd (pc' := 302) (v := v3) kc_195_301 rfl ev3 ?_
  obtain ⟨a4, ea4⟩ : ∃ q : Int32, xs.getD (Int32.toNatClampNeg v3) 0 = q := ⟨_, rfl⟩
  have ra4 := xc_rng a4
  refine xi_ialoadO (pc' := 303) (v := a4) kc_195_302 rfl (by decide) hov0 (xi_in (by omega) (by omega)) ea4 ?_
  refine xi_aload_n (pc' := 304) (x := 1000000) kc_195_303 rfl rfl ?_
  refine xi_iload (pc' := 306) (x := x4) kc_195_304 rfl rfl ?_
  refine xi_iconst (pc' := 307) (v := 3) kc_195_306 rfl rfl ?_
  obtain ⟨v5, ev5⟩ : ∃ q : Int32, x4 + 3 = q := ⟨_, rfl⟩
  have zv5 : v5.toInt = (x4.toInt + 3) := by rw [← ev5]; exact (xz_add (X := x4.toInt) (Y := 3) rfl (by decide) (by omega) (by omega)).trans (by omega)
  refine xi_iadd (pc' := 308) (v := v5) kc_195_307 rfl ev5 ?_
  obtain ⟨a6, ea6⟩ : ∃ q : Int32, xs.getD (Int32.toNatClampNeg v5) 0 = q := ⟨_, rfl⟩
  have ra6 := xc_rng a6
  refine xi_ialoadO (pc' := 309) (v := a6) kc_195_308 rfl (by decide) hov0 (xi_in (by omega) (by omega)) ea6 ?_
  obtain ⟨u7, u8, bu7, bu8, A9⟩ := xq_0 K.1
  refine xi_virtual (mj := 95) (as := [.int a2, .int a4, .int a6]) (st1 := []) (lv0 := [(0, .ref 0), (1, .int a2), (2, .int a4), (3, .int a6)]) kc_195_309 rfl rfl rfl rfl rfl A9 (Nat.le_of_ble_eq_true rfl) (hJ _ _ _ _ (by decide)) (xm_le ml_95 rfl) rfl ?_
  refine mt_95_0 hJ hov1 hov2 (d := 97) (x1 := a2) (x2 := a4) (x3 := a6) K.1 (fun r10 hh11 K12 => ?_)
  have br10 := xc_rng r10
  have K13 := xk_tr K K12 rfl
  obtain ⟨u14, u15, bu14, bu15, A16⟩ := xq_0 K13.1
  have e17 : u8 = u15 := xk_eqi (q := 9) K12 rfl A9 A16 rfl rfl
  subst e17
  show xw J ov 100 195 (312, [(4, .int x4), (3, .ref 167), (2, .ref 115), (1, .ref 0), (0, .ref 1000000)], [.int r10], hh11) _
  refine xi_pop (pc' := 313) kc_195_312 rfl rfl ?_
  refine xi_aload_n (pc' := 314) (x := 115) kc_195_313 rfl rfl ?_
  refine xi_aload_n (pc' := 315) (x := 1000000) kc_195_314 rfl rfl ?_
  refine xi_iload (pc' := 317) (x := x4) kc_195_315 rfl rfl ?_
  refine xi_iconst (pc' := 318) (v := 1) kc_195_317 rfl rfl ?_
  refine xi_iadd (pc' := 319) (v := v1) kc_195_318 rfl ev1 ?_
  refine xi_ialoadO (pc' := 320) (v := a2) kc_195_319 rfl (by decide) hov0 (xi_in (by omega) (by omega)) ea2 ?_
  refine xi_aload_n (pc' := 321) (x := 1000000) kc_195_320 rfl rfl ?_
  refine xi_iload (pc' := 323) (x := x4) kc_195_321 rfl rfl ?_
  refine xi_iconst (pc' := 324) (v := 2) kc_195_323 rfl rfl ?_
  refine xi_iadd (pc' := 325) (v := v3) kc_195_324 rfl ev3 ?_
  refine xi_ialoadO (pc' := 326) (v := a4) kc_195_325 rfl (by decide) hov0 (xi_in (by omega) (by omega)) ea4 ?_
  refine xi_aload_n (pc' := 327) (x := 1000000) kc_195_326 rfl rfl ?_
  refine xi_iload (pc' := 329) (x := x4) kc_195_327 rfl rfl ?_
  refine xi_iconst (pc' := 330) (v := 3) kc_195_329 rfl rfl ?_
  refine xi_iadd (pc' := 331) (v := v5) kc_195_330 rfl ev5 ?_
  refine xi_ialoadO (pc' := 332) (v := a6) kc_195_331 rfl (by decide) hov0 (xi_in (by omega) (by omega)) ea6 ?_
  obtain ⟨u18, u19, u20, u21, u22, u23, u24, u25, u26, u27, u28, u29, u30, bu18, bu19, bu20, bu21, bu22, bu23, bu24, bu25, bu26, bu27, bu28, bu29, bu30, A31⟩ := xq_115 K13.1
  refine xi_virtual (mj := 16) (as := [.int a2, .int a4, .int a6]) (st1 := []) (lv0 := [(0, .ref 115), (1, .int a2), (2, .int a4), (3, .int a6)]) kc_195_332 rfl rfl rfl rfl rfl A31 (Nat.le_of_ble_eq_true rfl) (hJ _ _ _ _ (by decide)) (xm_le ml_16 rfl) rfl ?_
  refine mt_16_0 hJ hov1 hov2 (d := 98) (x1 := a2) (x2 := a4) (x3 := a6) K13.1 (fun r32 hh33 K34 => ?_)
  have br32 := xc_rng r32
  have K35 := xk_tr K13 K34 rfl
  obtain ⟨u36, u37, bu36, bu37, A38⟩ := xq_0 K35.1
  have e39 : u8 = u37 := xk_eqi (q := 9) K34 rfl A16 A38 rfl rfl
  subst e39
  obtain ⟨u40, u41, u42, u43, u44, u45, u46, u47, u48, u49, u50, u51, u52, bu40, bu41, bu42, bu43, bu44, bu45, bu46, bu47, bu48, bu49, bu50, bu51, bu52, A53⟩ := xq_115 K35.1
  have e54 : u19 = u41 := xk_eqi (q := 1) K34 rfl A31 A53 rfl rfl
  subst e54
  have e55 : u22 = u44 := xk_eqi (q := 23) K34 rfl A31 A53 rfl rfl
  subst e55
  show xw J ov 100 195 (335, [(4, .int x4), (3, .ref 167), (2, .ref 115), (1, .ref 0), (0, .ref 1000000)], [.int r32], hh33) _
  refine xi_pop (pc' := 336) kc_195_335 rfl rfl ?_
  refine xi_goto (pc' := 1501) kc_195_336 rfl ?_
  obtain ⟨v56, ev56⟩ : ∃ q : Int32, x4 + 6 = q := ⟨_, rfl⟩
  have zv56 : v56.toInt = (x4.toInt + 6) := by rw [← ev56]; exact (xz_add (X := x4.toInt) (Y := 6) rfl (by decide) (by omega) (by omega)).trans (by omega)
  refine xi_iinc (pc' := 1504) (x := x4) (v := v56) (lv' := [(4, .int v56), (3, .ref 167), (2, .ref 115), (1, .ref 0), (0, .ref 1000000)]) kc_195_1501 rfl rfl ev56 rfl (xm_lt ml_195 rfl) ?_
  refine xi_goto (pc' := 23) kc_195_1504 rfl ?_
  exact kk v56 hh33 (by omega) K35
set_option maxHeartbeats 8000000 in
theorem lc_3 {J : xe_J} {ov : List (List Int32)} (hJ : ∀ d mj as h, mj ≠ xe_loff → J d mj as h = none) (hov1 : ov[1]? = some [10, 0, 0, 0, 0, 0]) (hov2 : ov[2]? = some [99, 30, 50, 50, 1, 99999]) {xs : List Int32} (hov0 : ov[0]? = some xs) {Q : Option Value → xe_H → Prop} {h : xe_H} {x4 : Int32} (hi0 : 0 ≤ x4.toInt) (hi1 : x4.toInt + 6 ≤ xs.length) (hi2 : x4.toInt ≤ 3066) (T : xt h) (kk : ∀ (i : Int32) (h' : xe_H), i.toInt = x4.toInt + 6 → xk [(29, 0), (31, 0), (33, 0), (35, 0), (37, 0), (39, 0), (41, 0), (43, 0), (45, 0), (47, 0), (49, 0), (51, 0), (125, 0), (29, 2), (31, 2), (33, 2), (35, 2), (37, 2), (39, 2), (41, 2), (43, 2), (45, 2), (47, 2), (49, 2), (51, 2), (127, 0), (1, 5), (115, 23)] h h' → xw J ov 100 195 (23, [(4, .int i), (3, .ref 167), (2, .ref 115), (1, .ref 0), (0, .ref 1000000)], [], h') Q) : xw J ov 100 195 (339, [(4, .int x4), (3, .ref 167), (2, .ref 115), (1, .ref 0), (0, .ref 1000000)], [], h) Q := by
  have K : xk [(29, 0), (31, 0), (33, 0), (35, 0), (37, 0), (39, 0), (41, 0), (43, 0), (45, 0), (47, 0), (49, 0), (51, 0), (125, 0), (29, 2), (31, 2), (33, 2), (35, 2), (37, 2), (39, 2), (41, 2), (43, 2), (45, 2), (47, 2), (49, 2), (51, 2), (127, 0), (1, 5), (115, 23)] h h := xk_re T
  refine xi_aload_n (pc' := 340) (x := 0) kc_195_339 rfl rfl ?_
  refine xi_aload_n (pc' := 341) (x := 1000000) kc_195_340 rfl rfl ?_
  refine xi_iload (pc' := 343) (x := x4) kc_195_341 rfl rfl ?_
  refine xi_iconst (pc' := 344) (v := 1) kc_195_343 rfl rfl ?_
  obtain ⟨v1, ev1⟩ : ∃ q : Int32, x4 + 1 = q := ⟨_, rfl⟩
  have zv1 : v1.toInt = (x4.toInt + 1) := by rw [← ev1]; exact (xz_add (X := x4.toInt) (Y := 1) rfl (by decide) (by omega) (by omega)).trans (by omega)
  refine xi_iadd (pc' := 345) (v := v1) kc_195_344 rfl ev1 ?_
  obtain ⟨a2, ea2⟩ : ∃ q : Int32, xs.getD (Int32.toNatClampNeg v1) 0 = q := ⟨_, rfl⟩
  have ra2 := xc_rng a2
  refine xi_ialoadO (pc' := 346) (v := a2) kc_195_345 rfl (by decide) hov0 (xi_in (by omega) (by omega)) ea2 ?_
  refine xi_aload_n (pc' := 347) (x := 1000000) kc_195_346 rfl rfl ?_
  refine xi_iload (pc' := 349) (x := x4) kc_195_347 rfl rfl ?_
  refine xi_iconst (pc' := 350) (v := 2) kc_195_349 rfl rfl ?_
  obtain ⟨v3, ev3⟩ : ∃ q : Int32, x4 + 2 = q := ⟨_, rfl⟩
  have zv3 : v3.toInt = (x4.toInt + 2) := by rw [← ev3]; exact (xz_add (X := x4.toInt) (Y := 2) rfl (by decide) (by omega) (by omega)).trans (by omega)
  refine xi_iadd (pc' := 351) (v := v3) kc_195_350 rfl ev3 ?_
  obtain ⟨a4, ea4⟩ : ∃ q : Int32, xs.getD (Int32.toNatClampNeg v3) 0 = q := ⟨_, rfl⟩
  have ra4 := xc_rng a4
  refine xi_ialoadO (pc' := 352) (v := a4) kc_195_351 rfl (by decide) hov0 (xi_in (by omega) (by omega)) ea4 ?_
  obtain ⟨u5, u6, bu5, bu6, A7⟩ := xq_0 K.1
  refine xi_virtual (mj := 100) (as := [.int a2, .int a4]) (st1 := []) (lv0 := [(0, .ref 0), (1, .int a2), (2, .int a4)]) kc_195_352 rfl rfl rfl rfl rfl A7 (Nat.le_of_ble_eq_true rfl) (hJ _ _ _ _ (by decide)) (xm_le ml_100 rfl) rfl ?_
  refine mt_100_0 hJ hov1 hov2 (d := 97) (x1 := a2) (x2 := a4) K.1 (fun r8 hh9 K10 => ?_)
  have br8 := xc_rng r8
  have K11 := xk_tr K K10 rfl
  obtain ⟨u12, u13, bu12, bu13, A14⟩ := xq_0 K11.1
  have e15 : u6 = u13 := xk_eqi (q := 9) K10 rfl A7 A14 rfl rfl
  subst e15
  show xw J ov 100 195 (355, [(4, .int x4), (3, .ref 167), (2, .ref 115), (1, .ref 0), (0, .ref 1000000)], [.int r8], hh9) _
  refine xi_pop (pc' := 356) kc_195_355 rfl rfl ?_
  refine xi_aload_n (pc' := 357) (x := 115) kc_195_356 rfl rfl ?_
  refine xi_aload_n (pc' := 358) (x := 1000000) kc_195_357 rfl rfl ?_
  refine xi_iload (pc' := 360) (x := x4) kc_195_358 rfl rfl ?_
  refine xi_iconst (pc' := 361) (v := 1) kc_195_360 rfl rfl ?_
  refine xi_iadd (pc' := 362) (v := v1) kc_195_361 rfl ev1 ?_
  refine xi_ialoadO (pc' := 363) (v := a2) kc_195_362 rfl (by decide) hov0 (xi_in (by omega) (by omega)) ea2 ?_
  refine xi_aload_n (pc' := 364) (x := 1000000) kc_195_363 rfl rfl ?_
  refine xi_iload (pc' := 366) (x := x4) kc_195_364 rfl rfl ?_
  refine xi_iconst (pc' := 367) (v := 2) kc_195_366 rfl rfl ?_
  refine xi_iadd (pc' := 368) (v := v3) kc_195_367 rfl ev3 ?_
  refine xi_ialoadO (pc' := 369) (v := a4) kc_195_368 rfl (by decide) hov0 (xi_in (by omega) (by omega)) ea4 ?_
  obtain ⟨u16, u17, u18, u19, u20, u21, u22, u23, u24, u25, u26, u27, u28, bu16, bu17, bu18, bu19, bu20, bu21, bu22, bu23, bu24, bu25, bu26, bu27, bu28, A29⟩ := xq_115 K11.1
  refine xi_virtual (mj := 18) (as := [.int a2, .int a4]) (st1 := []) (lv0 := [(0, .ref 115), (1, .int a2), (2, .int a4)]) kc_195_369 rfl rfl rfl rfl rfl A29 (Nat.le_of_ble_eq_true rfl) (hJ _ _ _ _ (by decide)) (xm_le ml_18 rfl) rfl ?_
  refine mt_18_0 hJ hov1 hov2 (d := 97) (x1 := a2) (x2 := a4) K11.1 (fun r30 hh31 K32 => ?_)
  have br30 := xc_rng r30
  have K33 := xk_tr K11 K32 rfl
  obtain ⟨u34, u35, bu34, bu35, A36⟩ := xq_0 K33.1
  have e37 : u6 = u35 := xk_eqi (q := 9) K32 rfl A14 A36 rfl rfl
  subst e37
  obtain ⟨u38, u39, u40, u41, u42, u43, u44, u45, u46, u47, u48, u49, u50, bu38, bu39, bu40, bu41, bu42, bu43, bu44, bu45, bu46, bu47, bu48, bu49, bu50, A51⟩ := xq_115 K33.1
  have e52 : u17 = u39 := xk_eqi (q := 1) K32 rfl A29 A51 rfl rfl
  subst e52
  have e53 : u20 = u42 := xk_eqi (q := 23) K32 rfl A29 A51 rfl rfl
  subst e53
  show xw J ov 100 195 (372, [(4, .int x4), (3, .ref 167), (2, .ref 115), (1, .ref 0), (0, .ref 1000000)], [.int r30], hh31) _
  refine xi_pop (pc' := 373) kc_195_372 rfl rfl ?_
  refine xi_goto (pc' := 1501) kc_195_373 rfl ?_
  obtain ⟨v54, ev54⟩ : ∃ q : Int32, x4 + 6 = q := ⟨_, rfl⟩
  have zv54 : v54.toInt = (x4.toInt + 6) := by rw [← ev54]; exact (xz_add (X := x4.toInt) (Y := 6) rfl (by decide) (by omega) (by omega)).trans (by omega)
  refine xi_iinc (pc' := 1504) (x := x4) (v := v54) (lv' := [(4, .int v54), (3, .ref 167), (2, .ref 115), (1, .ref 0), (0, .ref 1000000)]) kc_195_1501 rfl rfl ev54 rfl (xm_lt ml_195 rfl) ?_
  refine xi_goto (pc' := 23) kc_195_1504 rfl ?_
  exact kk v54 hh31 (by omega) K33
set_option maxHeartbeats 8000000 in
theorem lc_4 {J : xe_J} {ov : List (List Int32)} (hJ : ∀ d mj as h, mj ≠ xe_loff → J d mj as h = none) (hov1 : ov[1]? = some [10, 0, 0, 0, 0, 0]) (hov2 : ov[2]? = some [99, 30, 50, 50, 1, 99999]) {xs : List Int32} (hov0 : ov[0]? = some xs) {Q : Option Value → xe_H → Prop} {h : xe_H} {x4 : Int32} (hi0 : 0 ≤ x4.toInt) (hi1 : x4.toInt + 6 ≤ xs.length) (hi2 : x4.toInt ≤ 3066) (T : xt h) (kk : ∀ (i : Int32) (h' : xe_H), i.toInt = x4.toInt + 6 → xk [(29, 0), (31, 0), (33, 0), (35, 0), (37, 0), (39, 0), (41, 0), (43, 0), (45, 0), (47, 0), (49, 0), (51, 0), (125, 0), (29, 2), (31, 2), (33, 2), (35, 2), (37, 2), (39, 2), (41, 2), (43, 2), (45, 2), (47, 2), (49, 2), (51, 2), (127, 0), (1, 5), (115, 23)] h h' → xw J ov 100 195 (23, [(4, .int i), (3, .ref 167), (2, .ref 115), (1, .ref 0), (0, .ref 1000000)], [], h') Q) : xw J ov 100 195 (376, [(4, .int x4), (3, .ref 167), (2, .ref 115), (1, .ref 0), (0, .ref 1000000)], [], h) Q := by
  have K : xk [(29, 0), (31, 0), (33, 0), (35, 0), (37, 0), (39, 0), (41, 0), (43, 0), (45, 0), (47, 0), (49, 0), (51, 0), (125, 0), (29, 2), (31, 2), (33, 2), (35, 2), (37, 2), (39, 2), (41, 2), (43, 2), (45, 2), (47, 2), (49, 2), (51, 2), (127, 0), (1, 5), (115, 23)] h h := xk_re T
  refine xi_aload_n (pc' := 377) (x := 0) kc_195_376 rfl rfl ?_
  refine xi_aload_n (pc' := 378) (x := 1000000) kc_195_377 rfl rfl ?_
  refine xi_iload (pc' := 380) (x := x4) kc_195_378 rfl rfl ?_
  refine xi_iconst (pc' := 381) (v := 1) kc_195_380 rfl rfl ?_
  obtain ⟨v1, ev1⟩ : ∃ q : Int32, x4 + 1 = q := ⟨_, rfl⟩
  have zv1 : v1.toInt = (x4.toInt + 1) := by rw [← ev1]; exact (xz_add (X := x4.toInt) (Y := 1) rfl (by decide) (by omega) (by omega)).trans (by omega)
  refine xi_iadd (pc' := 382) (v := v1) kc_195_381 rfl ev1 ?_
  obtain ⟨a2, ea2⟩ : ∃ q : Int32, xs.getD (Int32.toNatClampNeg v1) 0 = q := ⟨_, rfl⟩
  have ra2 := xc_rng a2
  refine xi_ialoadO (pc' := 383) (v := a2) kc_195_382 rfl (by decide) hov0 (xi_in (by omega) (by omega)) ea2 ?_
  obtain ⟨u3, u4, bu3, bu4, A5⟩ := xq_0 K.1
  refine xi_virtual (mj := 101) (as := [.int a2]) (st1 := []) (lv0 := [(0, .ref 0), (1, .int a2)]) kc_195_383 rfl rfl rfl rfl rfl A5 (Nat.le_of_ble_eq_true rfl) (hJ _ _ _ _ (by decide)) (xm_le ml_101 rfl) rfl ?_
  refine mt_101_0 hJ hov1 hov2 (d := 96) (x1 := a2) K.1 (fun r6 hh7 br6 K8 => ?_)
  have K9 := xk_tr K K8 rfl
  obtain ⟨u10, u11, bu10, bu11, A12⟩ := xq_0 K9.1
  have e13 : u4 = u11 := xk_eqi (q := 9) K8 rfl A5 A12 rfl rfl
  subst e13
  show xw J ov 100 195 (386, [(4, .int x4), (3, .ref 167), (2, .ref 115), (1, .ref 0), (0, .ref 1000000)], [.int r6], hh7) _
  refine xi_pop (pc' := 387) kc_195_386 rfl rfl ?_
  refine xi_aload_n (pc' := 388) (x := 115) kc_195_387 rfl rfl ?_
  refine xi_aload_n (pc' := 389) (x := 1000000) kc_195_388 rfl rfl ?_
  refine xi_iload (pc' := 391) (x := x4) kc_195_389 rfl rfl ?_
  refine xi_iconst (pc' := 392) (v := 1) kc_195_391 rfl rfl ?_
  refine xi_iadd (pc' := 393) (v := v1) kc_195_392 rfl ev1 ?_
  refine xi_ialoadO (pc' := 394) (v := a2) kc_195_393 rfl (by decide) hov0 (xi_in (by omega) (by omega)) ea2 ?_
  obtain ⟨u14, u15, u16, u17, u18, u19, u20, u21, u22, u23, u24, u25, u26, bu14, bu15, bu16, bu17, bu18, bu19, bu20, bu21, bu22, bu23, bu24, bu25, bu26, A27⟩ := xq_115 K9.1
  refine xi_virtual (mj := 21) (as := [.int a2]) (st1 := []) (lv0 := [(0, .ref 115), (1, .int a2)]) kc_195_394 rfl rfl rfl rfl rfl A27 (Nat.le_of_ble_eq_true rfl) (hJ _ _ _ _ (by decide)) (xm_le ml_21 rfl) rfl ?_
  refine mt_21_0 hJ hov1 hov2 (d := 97) (x1 := a2) K9.1 (fun r28 hh29 br28 K30 => ?_)
  have K31 := xk_tr K9 K30 rfl
  obtain ⟨u32, u33, bu32, bu33, A34⟩ := xq_0 K31.1
  have e35 : u4 = u33 := xk_eqi (q := 9) K30 rfl A12 A34 rfl rfl
  subst e35
  obtain ⟨u36, u37, u38, u39, u40, u41, u42, u43, u44, u45, u46, u47, u48, bu36, bu37, bu38, bu39, bu40, bu41, bu42, bu43, bu44, bu45, bu46, bu47, bu48, A49⟩ := xq_115 K31.1
  have e50 : u15 = u37 := xk_eqi (q := 1) K30 rfl A27 A49 rfl rfl
  subst e50
  have e51 : u18 = u40 := xk_eqi (q := 23) K30 rfl A27 A49 rfl rfl
  subst e51
  show xw J ov 100 195 (397, [(4, .int x4), (3, .ref 167), (2, .ref 115), (1, .ref 0), (0, .ref 1000000)], [.int r28], hh29) _
  refine xi_pop (pc' := 398) kc_195_397 rfl rfl ?_
  refine xi_goto (pc' := 1501) kc_195_398 rfl ?_
  obtain ⟨v52, ev52⟩ : ∃ q : Int32, x4 + 6 = q := ⟨_, rfl⟩
  have zv52 : v52.toInt = (x4.toInt + 6) := by rw [← ev52]; exact (xz_add (X := x4.toInt) (Y := 6) rfl (by decide) (by omega) (by omega)).trans (by omega)
  refine xi_iinc (pc' := 1504) (x := x4) (v := v52) (lv' := [(4, .int v52), (3, .ref 167), (2, .ref 115), (1, .ref 0), (0, .ref 1000000)]) kc_195_1501 rfl rfl ev52 rfl (xm_lt ml_195 rfl) ?_
  refine xi_goto (pc' := 23) kc_195_1504 rfl ?_
  exact kk v52 hh29 (by omega) K31
set_option maxHeartbeats 8000000 in
theorem lc_5 {J : xe_J} {ov : List (List Int32)} (hJ : ∀ d mj as h, mj ≠ xe_loff → J d mj as h = none) (hov1 : ov[1]? = some [10, 0, 0, 0, 0, 0]) (hov2 : ov[2]? = some [99, 30, 50, 50, 1, 99999]) {xs : List Int32} (hov0 : ov[0]? = some xs) {Q : Option Value → xe_H → Prop} {h : xe_H} {x4 : Int32} (hi0 : 0 ≤ x4.toInt) (hi1 : x4.toInt + 6 ≤ xs.length) (hi2 : x4.toInt ≤ 3066) (T : xt h) (I : xI h) (kk : ∀ (i : Int32) (h' : xe_H), i.toInt = x4.toInt + 6 → xk [] h h' → xI h' → xw J ov 100 195 (23, [(4, .int i), (3, .ref 167), (2, .ref 115), (1, .ref 0), (0, .ref 1000000)], [], h') Q) : xw J ov 100 195 (401, [(4, .int x4), (3, .ref 167), (2, .ref 115), (1, .ref 0), (0, .ref 1000000)], [], h) Q := by
  have K : xk [] h h := xk_re T
  obtain ⟨u1, u2, bu1, bu2, A3⟩ := xq_1 K.1
  obtain ⟨u4, u5, u6, u7, u8, u9, u10, u11, u12, u13, u14, u15, u16, bu4, bu5, bu6, bu7, bu8, bu9, bu10, bu11, bu12, bu13, bu14, bu15, bu16, A17⟩ := xq_115 K.1
  have ee2 : u1 = u8 := xl_eqf I.2.2 A3 A17 rfl rfl
  subst ee2
  refine xi_aload_n (pc' := 402) (x := 0) kc_195_401 rfl rfl ?_
  refine xi_aload_n (pc' := 403) (x := 1000000) kc_195_402 rfl rfl ?_
  refine xi_iload (pc' := 405) (x := x4) kc_195_403 rfl rfl ?_
  refine xi_iconst (pc' := 406) (v := 1) kc_195_405 rfl rfl ?_
  obtain ⟨v18, ev18⟩ : ∃ q : Int32, x4 + 1 = q := ⟨_, rfl⟩
  have zv18 : v18.toInt = (x4.toInt + 1) := by rw [← ev18]; exact (xz_add (X := x4.toInt) (Y := 1) rfl (by decide) (by omega) (by omega)).trans (by omega)
  refine xi_iadd (pc' := 407) (v := v18) kc_195_406 rfl ev18 ?_
  obtain ⟨a19, ea19⟩ : ∃ q : Int32, xs.getD (Int32.toNatClampNeg v18) 0 = q := ⟨_, rfl⟩
  have ra19 := xc_rng a19
  refine xi_ialoadO (pc' := 408) (v := a19) kc_195_407 rfl (by decide) hov0 (xi_in (by omega) (by omega)) ea19 ?_
  refine xi_aload_n (pc' := 409) (x := 1000000) kc_195_408 rfl rfl ?_
  refine xi_iload (pc' := 411) (x := x4) kc_195_409 rfl rfl ?_
  refine xi_iconst (pc' := 412) (v := 2) kc_195_411 rfl rfl ?_
  obtain ⟨v20, ev20⟩ : ∃ q : Int32, x4 + 2 = q := ⟨_, rfl⟩
  have zv20 : v20.toInt = (x4.toInt + 2) := by rw [← ev20]; exact (xz_add (X := x4.toInt) (Y := 2) rfl (by decide) (by omega) (by omega)).trans (by omega)
  refine xi_iadd (pc' := 413) (v := v20) kc_195_412 rfl ev20 ?_
  obtain ⟨a21, ea21⟩ : ∃ q : Int32, xs.getD (Int32.toNatClampNeg v20) 0 = q := ⟨_, rfl⟩
  have ra21 := xc_rng a21
  refine xi_ialoadO (pc' := 414) (v := a21) kc_195_413 rfl (by decide) hov0 (xi_in (by omega) (by omega)) ea21 ?_
  refine xi_aload_n (pc' := 415) (x := 1000000) kc_195_414 rfl rfl ?_
  refine xi_iload (pc' := 417) (x := x4) kc_195_415 rfl rfl ?_
  refine xi_iconst (pc' := 418) (v := 3) kc_195_417 rfl rfl ?_
  obtain ⟨v22, ev22⟩ : ∃ q : Int32, x4 + 3 = q := ⟨_, rfl⟩
  have zv22 : v22.toInt = (x4.toInt + 3) := by rw [← ev22]; exact (xz_add (X := x4.toInt) (Y := 3) rfl (by decide) (by omega) (by omega)).trans (by omega)
  refine xi_iadd (pc' := 419) (v := v22) kc_195_418 rfl ev22 ?_
  obtain ⟨a23, ea23⟩ : ∃ q : Int32, xs.getD (Int32.toNatClampNeg v22) 0 = q := ⟨_, rfl⟩
  have ra23 := xc_rng a23
  refine xi_ialoadO (pc' := 420) (v := a23) kc_195_419 rfl (by decide) hov0 (xi_in (by omega) (by omega)) ea23 ?_
  refine xi_aload_n (pc' := 421) (x := 1000000) kc_195_420 rfl rfl ?_
  refine xi_iload (pc' := 423) (x := x4) kc_195_421 rfl rfl ?_
  refine xi_iconst (pc' := 424) (v := 4) kc_195_423 rfl rfl ?_
  obtain ⟨v24, ev24⟩ : ∃ q : Int32, x4 + 4 = q := ⟨_, rfl⟩
  have zv24 : v24.toInt = (x4.toInt + 4) := by rw [← ev24]; exact (xz_add (X := x4.toInt) (Y := 4) rfl (by decide) (by omega) (by omega)).trans (by omega)
  refine xi_iadd (pc' := 425) (v := v24) kc_195_424 rfl ev24 ?_
  obtain ⟨a25, ea25⟩ : ∃ q : Int32, xs.getD (Int32.toNatClampNeg v24) 0 = q := ⟨_, rfl⟩
  have ra25 := xc_rng a25
  refine xi_ialoadO (pc' := 426) (v := a25) kc_195_425 rfl (by decide) hov0 (xi_in (by omega) (by omega)) ea25 ?_
  by_cases c26 : a25.toInt = 0
  · refine xi_ift (pc' := 433) kc_195_426 rfl (xc_eq_t (X := a25.toInt) (Y := 0) rfl (by decide) (by omega)) ?_
    refine xi_iconst (pc' := 434) (v := 0) kc_195_433 rfl rfl ?_
    obtain ⟨u27, u28, bu27, bu28, A29⟩ := xq_0 K.1
    refine xi_virtual (mj := 103) (as := [.int a19, .int a21, .int a23, .int 0]) (st1 := []) (lv0 := [(0, .ref 0), (1, .int a19), (2, .int a21), (3, .int a23), (4, .int 0)]) kc_195_434 rfl rfl rfl rfl rfl A29 (Nat.le_of_ble_eq_true rfl) (hJ _ _ _ _ (by decide)) (xm_le ml_103 rfl) rfl ?_
    refine xi_iload_n (pc' := 1) (x := a19) kc_103_0 rfl rfl ?_
    refine xi_static (mj := 104) (as := [.int a19]) (st1 := []) (lv0 := [(0, .int a19)]) kc_103_1 rfl rfl (Nat.le_of_ble_eq_true rfl) rfl rfl (Nat.le_of_ble_eq_true rfl) (hJ _ _ _ _ (by decide)) (xm_le ml_104 rfl) rfl ?_
    refine xi_iload_n (pc' := 1) (x := a19) kc_104_0 rfl rfl ?_
    by_cases c30 : a19.toInt < 0
    · refine xi_ift (pc' := 14) kc_104_1 rfl (xc_lt_t (X := a19.toInt) (Y := 0) rfl (by decide) (by omega)) ?_
      refine xi_iconst (pc' := 15) (v := 0) kc_104_14 rfl rfl ?_
      refine xi_ireturn kc_104_15 mr_104 rfl ?_
      show xw J ov 99 103 (4, [(0, .ref 0), (1, .int a19), (2, .int a21), (3, .int a23), (4, .int 0)], [.int 0], h) _
      refine xi_ift (pc' := 14) kc_103_4 rfl rfl ?_
      refine xi_aload_n (pc' := 15) (x := 0) kc_103_14 rfl rfl ?_
      refine xi_iconst (pc' := 16) (v := (-1)) kc_103_15 rfl rfl ?_
      refine xi_virtual (mj := 90) (as := [.int (-1)]) (st1 := []) (lv0 := [(0, .ref 0), (1, .int (-1))]) kc_103_16 rfl rfl rfl rfl rfl A29 (Nat.le_of_ble_eq_true rfl) (hJ _ _ _ _ (by decide)) (xm_le ml_90 rfl) rfl ?_
      refine xi_iload_n (pc' := 1) (x := (-1)) kc_90_0 rfl rfl ?_
      refine xi_ineg (pc' := 2) (v := 1) kc_90_1 rfl rfl ?_
      refine xi_istore_n (pc' := 3) (lv' := [(2, .int 1), (0, .ref 0), (1, .int (-1))]) kc_90_2 rfl rfl (xm_lt ml_90 rfl) ?_
      refine xi_iload_n (pc' := 4) (x := 1) kc_90_3 rfl rfl ?_
      refine xi_iff (pc' := 7) kc_90_4 rfl rfl ?_
      refine xi_iload_n (pc' := 8) (x := 1) kc_90_7 rfl rfl ?_
      refine xi_aload_n (pc' := 9) (x := 0) kc_90_8 rfl rfl ?_
      refine xi_getfield (pc' := 12) (v := .ref 94) kc_90_9 rfl rfl rfl A29 rfl ?_
      obtain ⟨y31, A31, hy31, ry31⟩ := xk_arr K.1 xD_94
      refine xi_arraylength (pc' := 13) (n := 7) (v := 7) kc_90_12 rfl (xl_lenI (by decide) (by decide) A31 hy31) rfl ?_
      refine xi_cmf (pc' := 16) kc_90_13 rfl rfl ?_
      refine xi_aload_n (pc' := 17) (x := 0) kc_90_16 rfl rfl ?_
      refine xi_getfield (pc' := 20) (v := .ref 94) kc_90_17 rfl rfl rfl A29 rfl ?_
      refine xi_iload_n (pc' := 21) (x := 1) kc_90_20 rfl rfl ?_
      refine xi_dup2 (pc' := 22) kc_90_21 rfl ⟨rfl, rfl⟩ ?_
      obtain ⟨v32, ev32, bv32, dv32⟩ := xj_get hy31 ry31 (i := 1) (by decide) (by decide)
      refine xi_iaload (pc' := 23) (v := v32) kc_90_22 rfl A31 (by decide) rfl (xi_in (by decide) (by rw [hy31]; decide)) ev32 ?_
      refine xi_iconst (pc' := 24) (v := 1) kc_90_23 rfl rfl ?_
      obtain ⟨v33, ev33⟩ : ∃ q : Int32, (v32 : Int32) + 1 = q := ⟨_, rfl⟩
      have rv33 := xc_rng v33
      refine xi_iadd (pc' := 25) (v := v33) kc_90_24 rfl ev33 ?_
      obtain ⟨y34, s34, hy34, ry34⟩ := xj_set (v := v33) hy31 ry31 1 (by first | omega | decide) (by first | omega | decide)
      refine xi_iastore (pc' := 26) (x' := y34) kc_90_25 rfl A31 rfl (xi_in (by decide) (by rw [hy31]; decide)) s34 (fun hh34 eh34 => ?_)
      have K35 := xk_pa K (xk_wa rfl) xD_94 hy34 ry34 eh34
      refine xi_iload_n (pc' := 27) (x := (-1)) kc_90_26 rfl rfl ?_
      refine xi_ireturn kc_90_27 mr_90 rfl ?_
      show xw J ov 99 103 (19, [(0, .ref 0), (1, .int a19), (2, .int a21), (3, .int a23), (4, .int 0)], [.int (-1)], hh34) _
      refine xi_ireturn kc_103_19 mr_103 rfl ?_
      show xw J ov 100 195 (437, [(4, .int x4), (3, .ref 167), (2, .ref 115), (1, .ref 0), (0, .ref 1000000)], [.int (-1)], hh34) _
      refine xi_pop (pc' := 438) kc_195_437 rfl rfl ?_
      refine xi_aload_n (pc' := 439) (x := 115) kc_195_438 rfl rfl ?_
      refine xi_aload_n (pc' := 440) (x := 1000000) kc_195_439 rfl rfl ?_
      refine xi_iload (pc' := 442) (x := x4) kc_195_440 rfl rfl ?_
      refine xi_iconst (pc' := 443) (v := 1) kc_195_442 rfl rfl ?_
      refine xi_iadd (pc' := 444) (v := v18) kc_195_443 rfl ev18 ?_
      refine xi_ialoadO (pc' := 445) (v := a19) kc_195_444 rfl (by decide) hov0 (xi_in (by omega) (by omega)) ea19 ?_
      refine xi_aload_n (pc' := 446) (x := 1000000) kc_195_445 rfl rfl ?_
      refine xi_iload (pc' := 448) (x := x4) kc_195_446 rfl rfl ?_
      refine xi_iconst (pc' := 449) (v := 2) kc_195_448 rfl rfl ?_
      refine xi_iadd (pc' := 450) (v := v20) kc_195_449 rfl ev20 ?_
      refine xi_ialoadO (pc' := 451) (v := a21) kc_195_450 rfl (by decide) hov0 (xi_in (by omega) (by omega)) ea21 ?_
      refine xi_aload_n (pc' := 452) (x := 1000000) kc_195_451 rfl rfl ?_
      refine xi_iload (pc' := 454) (x := x4) kc_195_452 rfl rfl ?_
      refine xi_iconst (pc' := 455) (v := 3) kc_195_454 rfl rfl ?_
      refine xi_iadd (pc' := 456) (v := v22) kc_195_455 rfl ev22 ?_
      refine xi_ialoadO (pc' := 457) (v := a23) kc_195_456 rfl (by decide) hov0 (xi_in (by omega) (by omega)) ea23 ?_
      refine xi_aload_n (pc' := 458) (x := 1000000) kc_195_457 rfl rfl ?_
      refine xi_iload (pc' := 460) (x := x4) kc_195_458 rfl rfl ?_
      refine xi_iconst (pc' := 461) (v := 4) kc_195_460 rfl rfl ?_
      refine xi_iadd (pc' := 462) (v := v24) kc_195_461 rfl ev24 ?_
      refine xi_ialoadO (pc' := 463) (v := a25) kc_195_462 rfl (by decide) hov0 (xi_in (by omega) (by omega)) ea25 ?_
      refine xi_ift (pc' := 470) kc_195_463 rfl (xc_eq_t (X := a25.toInt) (Y := 0) rfl (by decide) (by omega)) ?_
      refine xi_iconst (pc' := 471) (v := 0) kc_195_470 rfl rfl ?_
      have A36 := ((eh34.2.1 115 (by decide)).trans A17)
      refine xi_virtual (mj := 23) (as := [.int a19, .int a21, .int a23, .int 0]) (st1 := []) (lv0 := [(0, .ref 115), (1, .int a19), (2, .int a21), (3, .int a23), (4, .int 0)]) kc_195_471 rfl rfl rfl rfl rfl A36 (Nat.le_of_ble_eq_true rfl) (hJ _ _ _ _ (by decide)) (xm_le ml_23 rfl) rfl ?_
      refine xi_aload_n (pc' := 1) (x := 115) kc_23_0 rfl rfl ?_
      refine xi_iconst (pc' := 2) (v := 0) kc_23_1 rfl rfl ?_
      refine xi_putfield (pc' := 5) (fs' := [.int 0, .int u5, .ref 116, .ref 117, .ref 118, .ref 119, .ref 120, .ref 121, .ref 122, .ref 123, .ref 124, .ref 125, .ref 126, .ref 127, .ref 128, .ref 129, .int u6, .ref 130, .int u7, .ref 131, .ref 132, .ref 133, .ref 134, .int u1, .ref 135, .ref 136, .ref 137, .ref 138, .ref 139, .ref 140, .ref 141, .ref 142, .int u9, .int u10, .int u11, .ref 143, .ref 144, .ref 145, .ref 146, .ref 147, .ref 148, .int u12, .ref 149, .ref 150, .ref 151, .int u13, .ref 152, .ref 153, .ref 154, .ref 155, .ref 156, .ref 157, .ref 158, .ref 159, .int u14, .ref 160, .int u15, .ref 161, .ref 162, .ref 163, .ref 164, .int u16, .ref 165, .ref 166]) kc_23_2 rfl rfl rfl A36 rfl rfl rfl (Nat.le_of_ble_eq_true rfl) rfl (fun hh38 eh37 => ?_)
      have K39 := xk_pf (k := 0) (v := 0) K35 (xk_wf rfl) xD_115 A36 rfl (by first | omega | decide) (by first | omega | decide) eh37 rfl
      refine xi_iload_n (pc' := 6) (x := a19) kc_23_5 rfl rfl ?_
      refine xi_static (mj := 24) (as := [.int a19]) (st1 := []) (lv0 := [(0, .int a19)]) kc_23_6 rfl rfl (Nat.le_of_ble_eq_true rfl) rfl rfl (Nat.le_of_ble_eq_true rfl) (hJ _ _ _ _ (by decide)) (xm_le ml_24 rfl) rfl ?_
      refine xi_iload_n (pc' := 1) (x := a19) kc_24_0 rfl rfl ?_
      refine xi_iconst (pc' := 2) (v := 0) kc_24_1 rfl rfl ?_
      refine xi_bipush (pc' := 4) (v := 11) kc_24_2 rfl rfl ?_
      refine xi_static (mj := 11) (as := [.int a19, .int 0, .int 11]) (st1 := []) (lv0 := [(0, .int a19), (1, .int 0), (2, .int 11)]) kc_24_4 rfl rfl (Nat.le_of_ble_eq_true rfl) rfl rfl (Nat.le_of_ble_eq_true rfl) (hJ _ _ _ _ (by decide)) (xm_le ml_11 rfl) rfl ?_
      refine xi_iload_n (pc' := 1) (x := a19) kc_11_0 rfl rfl ?_
      refine xi_iload_n (pc' := 2) (x := 0) kc_11_1 rfl rfl ?_
      refine xi_cmt (pc' := 14) kc_11_2 rfl (xc_lt_t (X := a19.toInt) (Y := 0) rfl (by decide) (by omega)) ?_
      refine xi_iconst (pc' := 15) (v := 0) kc_11_14 rfl rfl ?_
      refine xi_ireturn kc_11_15 mr_11 rfl ?_
      show xw J ov 98 24 (7, [(0, .int a19)], [.int 0], hh38) _
      refine xi_ireturn kc_24_7 mr_24 rfl ?_
      show xw J ov 99 23 (9, [(0, .ref 115), (1, .int a19), (2, .int a21), (3, .int a23), (4, .int 0)], [.int 0], hh38) _
      refine xi_ift (pc' := 19) kc_23_9 rfl rfl ?_
      refine xi_aload_n (pc' := 20) (x := 115) kc_23_19 rfl rfl ?_
      refine xi_iconst (pc' := 21) (v := (-1)) kc_23_20 rfl rfl ?_
      refine xi_virtual (mj := 12) (as := [.int (-1)]) (st1 := []) (lv0 := [(0, .ref 115), (1, .int (-1))]) kc_23_21 rfl rfl rfl rfl rfl eh37.1 (Nat.le_of_ble_eq_true rfl) (hJ _ _ _ _ (by decide)) (xm_le ml_12 rfl) rfl ?_
      refine xi_aload_n (pc' := 1) (x := 115) kc_12_0 rfl rfl ?_
      refine xi_getfield (pc' := 4) (v := .ref 140) kc_12_1 rfl rfl rfl eh37.1 rfl ?_
      refine xi_iload_n (pc' := 5) (x := (-1)) kc_12_4 rfl rfl ?_
      refine xi_ineg (pc' := 6) (v := 1) kc_12_5 rfl rfl ?_
      refine xi_dup2 (pc' := 7) kc_12_6 rfl ⟨rfl, rfl⟩ ?_
      obtain ⟨y40, A40, hy40, ry40⟩ := xk_arr K.1 xD_140
      obtain ⟨v41, ev41, bv41, dv41⟩ := xj_get hy40 ry40 (i := 1) (by decide) (by decide)
      have A42 := ((eh37.2.1 140 (by decide)).trans ((eh34.2.1 140 (by decide)).trans A40))
      refine xi_iaload (pc' := 8) (v := v41) kc_12_7 rfl A42 (by decide) rfl (xi_in (by decide) (by rw [hy40]; decide)) ev41 ?_
      refine xi_iconst (pc' := 9) (v := 1) kc_12_8 rfl rfl ?_
      obtain ⟨v43, ev43⟩ : ∃ q : Int32, (v41 : Int32) + 1 = q := ⟨_, rfl⟩
      have rv43 := xc_rng v43
      refine xi_iadd (pc' := 10) (v := v43) kc_12_9 rfl ev43 ?_
      obtain ⟨y44, s44, hy44, ry44⟩ := xj_set (v := v43) hy40 ry40 1 (by first | omega | decide) (by first | omega | decide)
      refine xi_iastore (pc' := 11) (x' := y44) kc_12_10 rfl A42 rfl (xi_in (by decide) (by rw [hy40]; decide)) s44 (fun hh44 eh44 => ?_)
      have K45 := xk_pa K39 (xk_wa rfl) xD_140 hy44 ry44 eh44
      refine xi_iload_n (pc' := 12) (x := (-1)) kc_12_11 rfl rfl ?_
      refine xi_ireturn kc_12_12 mr_12 rfl ?_
      show xw J ov 99 23 (24, [(0, .ref 115), (1, .int a19), (2, .int a21), (3, .int a23), (4, .int 0)], [.int (-1)], hh44) _
      refine xi_ireturn kc_23_24 mr_23 rfl ?_
      show xw J ov 100 195 (474, [(4, .int x4), (3, .ref 167), (2, .ref 115), (1, .ref 0), (0, .ref 1000000)], [.int (-1)], hh44) _
      refine xi_pop (pc' := 475) kc_195_474 rfl rfl ?_
      refine xi_goto (pc' := 1501) kc_195_475 rfl ?_
      obtain ⟨v46, ev46⟩ : ∃ q : Int32, x4 + 6 = q := ⟨_, rfl⟩
      have zv46 : v46.toInt = (x4.toInt + 6) := by rw [← ev46]; exact (xz_add (X := x4.toInt) (Y := 6) rfl (by decide) (by omega) (by omega)).trans (by omega)
      refine xi_iinc (pc' := 1504) (x := x4) (v := v46) (lv' := [(4, .int v46), (3, .ref 167), (2, .ref 115), (1, .ref 0), (0, .ref 1000000)]) kc_195_1501 rfl rfl ev46 rfl (xm_lt ml_195 rfl) ?_
      refine xi_goto (pc' := 23) kc_195_1504 rfl ?_
      have A47 := ((eh44.2.1 1 (by decide)).trans ((eh37.2.1 1 (by decide)).trans ((eh34.2.1 1 (by decide)).trans A3)))
      have A48 := ((eh44.2.1 115 (by decide)).trans eh37.1)
      exact kk v46 hh44 (by omega) K45 ⟨(xGR_kept I.1 (fun c hc => ((eh44.2.1 c (Ne.symm (xk_nc hc rfl))).trans ((eh37.2.1 c (Ne.symm (xk_nc hc rfl))).trans (eh34.2.1 c (Ne.symm (xk_nc hc rfl)))))) ((eh44.2.1 125 (by decide)).trans ((eh37.2.1 125 (by decide)).trans (eh34.2.1 125 (by decide))))), (xGR_kept I.2.1 (fun c hc => ((eh44.2.1 c (Ne.symm (xk_nc hc rfl))).trans ((eh37.2.1 c (Ne.symm (xk_nc hc rfl))).trans (eh34.2.1 c (Ne.symm (xk_nc hc rfl)))))) ((eh44.2.1 127 (by decide)).trans ((eh37.2.1 127 (by decide)).trans (eh34.2.1 127 (by decide))))), ((xl_of A47 rfl).trans (xl_of A48 rfl).symm)⟩
    · refine xi_iff (pc' := 4) kc_104_1 rfl (xc_lt_f (X := a19.toInt) (Y := 0) rfl (by decide) (by omega)) ?_
      refine xi_iload_n (pc' := 5) (x := a19) kc_104_4 rfl rfl ?_
      refine xi_bipush (pc' := 7) (v := 12) kc_104_5 rfl rfl ?_
      by_cases c49 : 12 ≤ a19.toInt
      · refine xi_cmt (pc' := 14) kc_104_7 rfl (xc_ge_t (X := a19.toInt) (Y := 12) rfl (by decide) (by omega)) ?_
        refine xi_iconst (pc' := 15) (v := 0) kc_104_14 rfl rfl ?_
        refine xi_ireturn kc_104_15 mr_104 rfl ?_
        show xw J ov 99 103 (4, [(0, .ref 0), (1, .int a19), (2, .int a21), (3, .int a23), (4, .int 0)], [.int 0], h) _
        refine xi_ift (pc' := 14) kc_103_4 rfl rfl ?_
        refine xi_aload_n (pc' := 15) (x := 0) kc_103_14 rfl rfl ?_
        refine xi_iconst (pc' := 16) (v := (-1)) kc_103_15 rfl rfl ?_
        refine xi_virtual (mj := 90) (as := [.int (-1)]) (st1 := []) (lv0 := [(0, .ref 0), (1, .int (-1))]) kc_103_16 rfl rfl rfl rfl rfl A29 (Nat.le_of_ble_eq_true rfl) (hJ _ _ _ _ (by decide)) (xm_le ml_90 rfl) rfl ?_
        refine xi_iload_n (pc' := 1) (x := (-1)) kc_90_0 rfl rfl ?_
        refine xi_ineg (pc' := 2) (v := 1) kc_90_1 rfl rfl ?_
        refine xi_istore_n (pc' := 3) (lv' := [(2, .int 1), (0, .ref 0), (1, .int (-1))]) kc_90_2 rfl rfl (xm_lt ml_90 rfl) ?_
        refine xi_iload_n (pc' := 4) (x := 1) kc_90_3 rfl rfl ?_
        refine xi_iff (pc' := 7) kc_90_4 rfl rfl ?_
        refine xi_iload_n (pc' := 8) (x := 1) kc_90_7 rfl rfl ?_
        refine xi_aload_n (pc' := 9) (x := 0) kc_90_8 rfl rfl ?_
        refine xi_getfield (pc' := 12) (v := .ref 94) kc_90_9 rfl rfl rfl A29 rfl ?_
        obtain ⟨y50, A50, hy50, ry50⟩ := xk_arr K.1 xD_94
        refine xi_arraylength (pc' := 13) (n := 7) (v := 7) kc_90_12 rfl (xl_lenI (by decide) (by decide) A50 hy50) rfl ?_
        refine xi_cmf (pc' := 16) kc_90_13 rfl rfl ?_
        refine xi_aload_n (pc' := 17) (x := 0) kc_90_16 rfl rfl ?_
        refine xi_getfield (pc' := 20) (v := .ref 94) kc_90_17 rfl rfl rfl A29 rfl ?_
        refine xi_iload_n (pc' := 21) (x := 1) kc_90_20 rfl rfl ?_
        refine xi_dup2 (pc' := 22) kc_90_21 rfl ⟨rfl, rfl⟩ ?_
        obtain ⟨v51, ev51, bv51, dv51⟩ := xj_get hy50 ry50 (i := 1) (by decide) (by decide)
        refine xi_iaload (pc' := 23) (v := v51) kc_90_22 rfl A50 (by decide) rfl (xi_in (by decide) (by rw [hy50]; decide)) ev51 ?_
        refine xi_iconst (pc' := 24) (v := 1) kc_90_23 rfl rfl ?_
        obtain ⟨v52, ev52⟩ : ∃ q : Int32, (v51 : Int32) + 1 = q := ⟨_, rfl⟩
        have rv52 := xc_rng v52
        refine xi_iadd (pc' := 25) (v := v52) kc_90_24 rfl ev52 ?_
        obtain ⟨y53, s53, hy53, ry53⟩ := xj_set (v := v52) hy50 ry50 1 (by first | omega | decide) (by first | omega | decide)
        refine xi_iastore (pc' := 26) (x' := y53) kc_90_25 rfl A50 rfl (xi_in (by decide) (by rw [hy50]; decide)) s53 (fun hh53 eh53 => ?_)
        have K54 := xk_pa K (xk_wa rfl) xD_94 hy53 ry53 eh53
        refine xi_iload_n (pc' := 27) (x := (-1)) kc_90_26 rfl rfl ?_
        refine xi_ireturn kc_90_27 mr_90 rfl ?_
        show xw J ov 99 103 (19, [(0, .ref 0), (1, .int a19), (2, .int a21), (3, .int a23), (4, .int 0)], [.int (-1)], hh53) _
        refine xi_ireturn kc_103_19 mr_103 rfl ?_
        show xw J ov 100 195 (437, [(4, .int x4), (3, .ref 167), (2, .ref 115), (1, .ref 0), (0, .ref 1000000)], [.int (-1)], hh53) _
        refine xi_pop (pc' := 438) kc_195_437 rfl rfl ?_
        refine xi_aload_n (pc' := 439) (x := 115) kc_195_438 rfl rfl ?_
        refine xi_aload_n (pc' := 440) (x := 1000000) kc_195_439 rfl rfl ?_
        refine xi_iload (pc' := 442) (x := x4) kc_195_440 rfl rfl ?_
        refine xi_iconst (pc' := 443) (v := 1) kc_195_442 rfl rfl ?_
        refine xi_iadd (pc' := 444) (v := v18) kc_195_443 rfl ev18 ?_
        refine xi_ialoadO (pc' := 445) (v := a19) kc_195_444 rfl (by decide) hov0 (xi_in (by omega) (by omega)) ea19 ?_
        refine xi_aload_n (pc' := 446) (x := 1000000) kc_195_445 rfl rfl ?_
        refine xi_iload (pc' := 448) (x := x4) kc_195_446 rfl rfl ?_
        refine xi_iconst (pc' := 449) (v := 2) kc_195_448 rfl rfl ?_
        refine xi_iadd (pc' := 450) (v := v20) kc_195_449 rfl ev20 ?_
        refine xi_ialoadO (pc' := 451) (v := a21) kc_195_450 rfl (by decide) hov0 (xi_in (by omega) (by omega)) ea21 ?_
        refine xi_aload_n (pc' := 452) (x := 1000000) kc_195_451 rfl rfl ?_
        refine xi_iload (pc' := 454) (x := x4) kc_195_452 rfl rfl ?_
        refine xi_iconst (pc' := 455) (v := 3) kc_195_454 rfl rfl ?_
        refine xi_iadd (pc' := 456) (v := v22) kc_195_455 rfl ev22 ?_
        refine xi_ialoadO (pc' := 457) (v := a23) kc_195_456 rfl (by decide) hov0 (xi_in (by omega) (by omega)) ea23 ?_
        refine xi_aload_n (pc' := 458) (x := 1000000) kc_195_457 rfl rfl ?_
        refine xi_iload (pc' := 460) (x := x4) kc_195_458 rfl rfl ?_
        refine xi_iconst (pc' := 461) (v := 4) kc_195_460 rfl rfl ?_
        refine xi_iadd (pc' := 462) (v := v24) kc_195_461 rfl ev24 ?_
        refine xi_ialoadO (pc' := 463) (v := a25) kc_195_462 rfl (by decide) hov0 (xi_in (by omega) (by omega)) ea25 ?_
        refine xi_ift (pc' := 470) kc_195_463 rfl (xc_eq_t (X := a25.toInt) (Y := 0) rfl (by decide) (by omega)) ?_
        refine xi_iconst (pc' := 471) (v := 0) kc_195_470 rfl rfl ?_
        have A55 := ((eh53.2.1 115 (by decide)).trans A17)
        refine xi_virtual (mj := 23) (as := [.int a19, .int a21, .int a23, .int 0]) (st1 := []) (lv0 := [(0, .ref 115), (1, .int a19), (2, .int a21), (3, .int a23), (4, .int 0)]) kc_195_471 rfl rfl rfl rfl rfl A55 (Nat.le_of_ble_eq_true rfl) (hJ _ _ _ _ (by decide)) (xm_le ml_23 rfl) rfl ?_
        refine xi_aload_n (pc' := 1) (x := 115) kc_23_0 rfl rfl ?_
        refine xi_iconst (pc' := 2) (v := 0) kc_23_1 rfl rfl ?_
        refine xi_putfield (pc' := 5) (fs' := [.int 0, .int u5, .ref 116, .ref 117, .ref 118, .ref 119, .ref 120, .ref 121, .ref 122, .ref 123, .ref 124, .ref 125, .ref 126, .ref 127, .ref 128, .ref 129, .int u6, .ref 130, .int u7, .ref 131, .ref 132, .ref 133, .ref 134, .int u1, .ref 135, .ref 136, .ref 137, .ref 138, .ref 139, .ref 140, .ref 141, .ref 142, .int u9, .int u10, .int u11, .ref 143, .ref 144, .ref 145, .ref 146, .ref 147, .ref 148, .int u12, .ref 149, .ref 150, .ref 151, .int u13, .ref 152, .ref 153, .ref 154, .ref 155, .ref 156, .ref 157, .ref 158, .ref 159, .int u14, .ref 160, .int u15, .ref 161, .ref 162, .ref 163, .ref 164, .int u16, .ref 165, .ref 166]) kc_23_2 rfl rfl rfl A55 rfl rfl rfl (Nat.le_of_ble_eq_true rfl) rfl (fun hh57 eh56 => ?_)
        have K58 := xk_pf (k := 0) (v := 0) K54 (xk_wf rfl) xD_115 A55 rfl (by first | omega | decide) (by first | omega | decide) eh56 rfl
        refine xi_iload_n (pc' := 6) (x := a19) kc_23_5 rfl rfl ?_
        refine xi_static (mj := 24) (as := [.int a19]) (st1 := []) (lv0 := [(0, .int a19)]) kc_23_6 rfl rfl (Nat.le_of_ble_eq_true rfl) rfl rfl (Nat.le_of_ble_eq_true rfl) (hJ _ _ _ _ (by decide)) (xm_le ml_24 rfl) rfl ?_
        refine xi_iload_n (pc' := 1) (x := a19) kc_24_0 rfl rfl ?_
        refine xi_iconst (pc' := 2) (v := 0) kc_24_1 rfl rfl ?_
        refine xi_bipush (pc' := 4) (v := 11) kc_24_2 rfl rfl ?_
        refine xi_static (mj := 11) (as := [.int a19, .int 0, .int 11]) (st1 := []) (lv0 := [(0, .int a19), (1, .int 0), (2, .int 11)]) kc_24_4 rfl rfl (Nat.le_of_ble_eq_true rfl) rfl rfl (Nat.le_of_ble_eq_true rfl) (hJ _ _ _ _ (by decide)) (xm_le ml_11 rfl) rfl ?_
        refine xi_iload_n (pc' := 1) (x := a19) kc_11_0 rfl rfl ?_
        refine xi_iload_n (pc' := 2) (x := 0) kc_11_1 rfl rfl ?_
        refine xi_cmf (pc' := 5) kc_11_2 rfl (xc_lt_f (X := a19.toInt) (Y := 0) rfl (by decide) (by omega)) ?_
        refine xi_iload_n (pc' := 6) (x := a19) kc_11_5 rfl rfl ?_
        refine xi_iload_n (pc' := 7) (x := 11) kc_11_6 rfl rfl ?_
        refine xi_cmt (pc' := 14) kc_11_7 rfl (xc_gt_t (X := a19.toInt) (Y := 11) rfl (by decide) (by omega)) ?_
        refine xi_iconst (pc' := 15) (v := 0) kc_11_14 rfl rfl ?_
        refine xi_ireturn kc_11_15 mr_11 rfl ?_
        show xw J ov 98 24 (7, [(0, .int a19)], [.int 0], hh57) _
        refine xi_ireturn kc_24_7 mr_24 rfl ?_
        show xw J ov 99 23 (9, [(0, .ref 115), (1, .int a19), (2, .int a21), (3, .int a23), (4, .int 0)], [.int 0], hh57) _
        refine xi_ift (pc' := 19) kc_23_9 rfl rfl ?_
        refine xi_aload_n (pc' := 20) (x := 115) kc_23_19 rfl rfl ?_
        refine xi_iconst (pc' := 21) (v := (-1)) kc_23_20 rfl rfl ?_
        refine xi_virtual (mj := 12) (as := [.int (-1)]) (st1 := []) (lv0 := [(0, .ref 115), (1, .int (-1))]) kc_23_21 rfl rfl rfl rfl rfl eh56.1 (Nat.le_of_ble_eq_true rfl) (hJ _ _ _ _ (by decide)) (xm_le ml_12 rfl) rfl ?_
        refine xi_aload_n (pc' := 1) (x := 115) kc_12_0 rfl rfl ?_
        refine xi_getfield (pc' := 4) (v := .ref 140) kc_12_1 rfl rfl rfl eh56.1 rfl ?_
        refine xi_iload_n (pc' := 5) (x := (-1)) kc_12_4 rfl rfl ?_
        refine xi_ineg (pc' := 6) (v := 1) kc_12_5 rfl rfl ?_
        refine xi_dup2 (pc' := 7) kc_12_6 rfl ⟨rfl, rfl⟩ ?_
        obtain ⟨y59, A59, hy59, ry59⟩ := xk_arr K.1 xD_140
        obtain ⟨v60, ev60, bv60, dv60⟩ := xj_get hy59 ry59 (i := 1) (by decide) (by decide)
        have A61 := ((eh56.2.1 140 (by decide)).trans ((eh53.2.1 140 (by decide)).trans A59))
        refine xi_iaload (pc' := 8) (v := v60) kc_12_7 rfl A61 (by decide) rfl (xi_in (by decide) (by rw [hy59]; decide)) ev60 ?_
        refine xi_iconst (pc' := 9) (v := 1) kc_12_8 rfl rfl ?_
        obtain ⟨v62, ev62⟩ : ∃ q : Int32, (v60 : Int32) + 1 = q := ⟨_, rfl⟩
        have rv62 := xc_rng v62
        refine xi_iadd (pc' := 10) (v := v62) kc_12_9 rfl ev62 ?_
        obtain ⟨y63, s63, hy63, ry63⟩ := xj_set (v := v62) hy59 ry59 1 (by first | omega | decide) (by first | omega | decide)
        refine xi_iastore (pc' := 11) (x' := y63) kc_12_10 rfl A61 rfl (xi_in (by decide) (by rw [hy59]; decide)) s63 (fun hh63 eh63 => ?_)
        have K64 := xk_pa K58 (xk_wa rfl) xD_140 hy63 ry63 eh63
        refine xi_iload_n (pc' := 12) (x := (-1)) kc_12_11 rfl rfl ?_
        refine xi_ireturn kc_12_12 mr_12 rfl ?_
        show xw J ov 99 23 (24, [(0, .ref 115), (1, .int a19), (2, .int a21), (3, .int a23), (4, .int 0)], [.int (-1)], hh63) _
        refine xi_ireturn kc_23_24 mr_23 rfl ?_
        show xw J ov 100 195 (474, [(4, .int x4), (3, .ref 167), (2, .ref 115), (1, .ref 0), (0, .ref 1000000)], [.int (-1)], hh63) _
        refine xi_pop (pc' := 475) kc_195_474 rfl rfl ?_
        refine xi_goto (pc' := 1501) kc_195_475 rfl ?_
        obtain ⟨v65, ev65⟩ : ∃ q : Int32, x4 + 6 = q := ⟨_, rfl⟩
        have zv65 : v65.toInt = (x4.toInt + 6) := by rw [← ev65]; exact (xz_add (X := x4.toInt) (Y := 6) rfl (by decide) (by omega) (by omega)).trans (by omega)
        refine xi_iinc (pc' := 1504) (x := x4) (v := v65) (lv' := [(4, .int v65), (3, .ref 167), (2, .ref 115), (1, .ref 0), (0, .ref 1000000)]) kc_195_1501 rfl rfl ev65 rfl (xm_lt ml_195 rfl) ?_
        refine xi_goto (pc' := 23) kc_195_1504 rfl ?_
        have A66 := ((eh63.2.1 1 (by decide)).trans ((eh56.2.1 1 (by decide)).trans ((eh53.2.1 1 (by decide)).trans A3)))
        have A67 := ((eh63.2.1 115 (by decide)).trans eh56.1)
        exact kk v65 hh63 (by omega) K64 ⟨(xGR_kept I.1 (fun c hc => ((eh63.2.1 c (Ne.symm (xk_nc hc rfl))).trans ((eh56.2.1 c (Ne.symm (xk_nc hc rfl))).trans (eh53.2.1 c (Ne.symm (xk_nc hc rfl)))))) ((eh63.2.1 125 (by decide)).trans ((eh56.2.1 125 (by decide)).trans (eh53.2.1 125 (by decide))))), (xGR_kept I.2.1 (fun c hc => ((eh63.2.1 c (Ne.symm (xk_nc hc rfl))).trans ((eh56.2.1 c (Ne.symm (xk_nc hc rfl))).trans (eh53.2.1 c (Ne.symm (xk_nc hc rfl)))))) ((eh63.2.1 127 (by decide)).trans ((eh56.2.1 127 (by decide)).trans (eh53.2.1 127 (by decide))))), ((xl_of A66 rfl).trans (xl_of A67 rfl).symm)⟩
      · refine xi_cmf (pc' := 10) kc_104_7 rfl (xc_ge_f (X := a19.toInt) (Y := 12) rfl (by decide) (by omega)) ?_
        refine xi_iconst (pc' := 11) (v := 1) kc_104_10 rfl rfl ?_
        refine xi_goto (pc' := 15) kc_104_11 rfl ?_
        refine xi_ireturn kc_104_15 mr_104 rfl ?_
        show xw J ov 99 103 (4, [(0, .ref 0), (1, .int a19), (2, .int a21), (3, .int a23), (4, .int 0)], [.int 1], h) _
        refine xi_iff (pc' := 7) kc_103_4 rfl rfl ?_
        refine xi_iload_n (pc' := 8) (x := a21) kc_103_7 rfl rfl ?_
        refine xi_static (mj := 89) (as := [.int a21]) (st1 := []) (lv0 := [(0, .int a21)]) kc_103_8 rfl rfl (Nat.le_of_ble_eq_true rfl) rfl rfl (Nat.le_of_ble_eq_true rfl) (hJ _ _ _ _ (by decide)) (xm_le ml_89 rfl) rfl ?_
        refine xi_iload_n (pc' := 1) (x := a21) kc_89_0 rfl rfl ?_
        by_cases c68 : a21.toInt < 0
        · refine xi_ift (pc' := 14) kc_89_1 rfl (xc_lt_t (X := a21.toInt) (Y := 0) rfl (by decide) (by omega)) ?_
          refine xi_iconst (pc' := 15) (v := 0) kc_89_14 rfl rfl ?_
          refine xi_ireturn kc_89_15 mr_89 rfl ?_
          show xw J ov 99 103 (11, [(0, .ref 0), (1, .int a19), (2, .int a21), (3, .int a23), (4, .int 0)], [.int 0], h) _
          refine xi_iff (pc' := 14) kc_103_11 rfl rfl ?_
          refine xi_aload_n (pc' := 15) (x := 0) kc_103_14 rfl rfl ?_
          refine xi_iconst (pc' := 16) (v := (-1)) kc_103_15 rfl rfl ?_
          refine xi_virtual (mj := 90) (as := [.int (-1)]) (st1 := []) (lv0 := [(0, .ref 0), (1, .int (-1))]) kc_103_16 rfl rfl rfl rfl rfl A29 (Nat.le_of_ble_eq_true rfl) (hJ _ _ _ _ (by decide)) (xm_le ml_90 rfl) rfl ?_
          refine xi_iload_n (pc' := 1) (x := (-1)) kc_90_0 rfl rfl ?_
          refine xi_ineg (pc' := 2) (v := 1) kc_90_1 rfl rfl ?_
          refine xi_istore_n (pc' := 3) (lv' := [(2, .int 1), (0, .ref 0), (1, .int (-1))]) kc_90_2 rfl rfl (xm_lt ml_90 rfl) ?_
          refine xi_iload_n (pc' := 4) (x := 1) kc_90_3 rfl rfl ?_
          refine xi_iff (pc' := 7) kc_90_4 rfl rfl ?_
          refine xi_iload_n (pc' := 8) (x := 1) kc_90_7 rfl rfl ?_
          refine xi_aload_n (pc' := 9) (x := 0) kc_90_8 rfl rfl ?_
          refine xi_getfield (pc' := 12) (v := .ref 94) kc_90_9 rfl rfl rfl A29 rfl ?_
          obtain ⟨y69, A69, hy69, ry69⟩ := xk_arr K.1 xD_94
          refine xi_arraylength (pc' := 13) (n := 7) (v := 7) kc_90_12 rfl (xl_lenI (by decide) (by decide) A69 hy69) rfl ?_
          refine xi_cmf (pc' := 16) kc_90_13 rfl rfl ?_
          refine xi_aload_n (pc' := 17) (x := 0) kc_90_16 rfl rfl ?_
          refine xi_getfield (pc' := 20) (v := .ref 94) kc_90_17 rfl rfl rfl A29 rfl ?_
          refine xi_iload_n (pc' := 21) (x := 1) kc_90_20 rfl rfl ?_
          refine xi_dup2 (pc' := 22) kc_90_21 rfl ⟨rfl, rfl⟩ ?_
          obtain ⟨v70, ev70, bv70, dv70⟩ := xj_get hy69 ry69 (i := 1) (by decide) (by decide)
          refine xi_iaload (pc' := 23) (v := v70) kc_90_22 rfl A69 (by decide) rfl (xi_in (by decide) (by rw [hy69]; decide)) ev70 ?_
          refine xi_iconst (pc' := 24) (v := 1) kc_90_23 rfl rfl ?_
          obtain ⟨v71, ev71⟩ : ∃ q : Int32, (v70 : Int32) + 1 = q := ⟨_, rfl⟩
          have rv71 := xc_rng v71
          refine xi_iadd (pc' := 25) (v := v71) kc_90_24 rfl ev71 ?_
          obtain ⟨y72, s72, hy72, ry72⟩ := xj_set (v := v71) hy69 ry69 1 (by first | omega | decide) (by first | omega | decide)
          refine xi_iastore (pc' := 26) (x' := y72) kc_90_25 rfl A69 rfl (xi_in (by decide) (by rw [hy69]; decide)) s72 (fun hh72 eh72 => ?_)
          have K73 := xk_pa K (xk_wa rfl) xD_94 hy72 ry72 eh72
          refine xi_iload_n (pc' := 27) (x := (-1)) kc_90_26 rfl rfl ?_
          refine xi_ireturn kc_90_27 mr_90 rfl ?_
          show xw J ov 99 103 (19, [(0, .ref 0), (1, .int a19), (2, .int a21), (3, .int a23), (4, .int 0)], [.int (-1)], hh72) _
          refine xi_ireturn kc_103_19 mr_103 rfl ?_
          show xw J ov 100 195 (437, [(4, .int x4), (3, .ref 167), (2, .ref 115), (1, .ref 0), (0, .ref 1000000)], [.int (-1)], hh72) _
          refine xi_pop (pc' := 438) kc_195_437 rfl rfl ?_
          refine xi_aload_n (pc' := 439) (x := 115) kc_195_438 rfl rfl ?_
          refine xi_aload_n (pc' := 440) (x := 1000000) kc_195_439 rfl rfl ?_
          refine xi_iload (pc' := 442) (x := x4) kc_195_440 rfl rfl ?_
          refine xi_iconst (pc' := 443) (v := 1) kc_195_442 rfl rfl ?_
          refine xi_iadd (pc' := 444) (v := v18) kc_195_443 rfl ev18 ?_
          refine xi_ialoadO (pc' := 445) (v := a19) kc_195_444 rfl (by decide) hov0 (xi_in (by omega) (by omega)) ea19 ?_
          refine xi_aload_n (pc' := 446) (x := 1000000) kc_195_445 rfl rfl ?_
          refine xi_iload (pc' := 448) (x := x4) kc_195_446 rfl rfl ?_
          refine xi_iconst (pc' := 449) (v := 2) kc_195_448 rfl rfl ?_
          refine xi_iadd (pc' := 450) (v := v20) kc_195_449 rfl ev20 ?_
          refine xi_ialoadO (pc' := 451) (v := a21) kc_195_450 rfl (by decide) hov0 (xi_in (by omega) (by omega)) ea21 ?_
          refine xi_aload_n (pc' := 452) (x := 1000000) kc_195_451 rfl rfl ?_
          refine xi_iload (pc' := 454) (x := x4) kc_195_452 rfl rfl ?_
          refine xi_iconst (pc' := 455) (v := 3) kc_195_454 rfl rfl ?_
          refine xi_iadd (pc' := 456) (v := v22) kc_195_455 rfl ev22 ?_
          refine xi_ialoadO (pc' := 457) (v := a23) kc_195_456 rfl (by decide) hov0 (xi_in (by omega) (by omega)) ea23 ?_
          refine xi_aload_n (pc' := 458) (x := 1000000) kc_195_457 rfl rfl ?_
          refine xi_iload (pc' := 460) (x := x4) kc_195_458 rfl rfl ?_
          refine xi_iconst (pc' := 461) (v := 4) kc_195_460 rfl rfl ?_
          refine xi_iadd (pc' := 462) (v := v24) kc_195_461 rfl ev24 ?_
          refine xi_ialoadO (pc' := 463) (v := a25) kc_195_462 rfl (by decide) hov0 (xi_in (by omega) (by omega)) ea25 ?_
          refine xi_ift (pc' := 470) kc_195_463 rfl (xc_eq_t (X := a25.toInt) (Y := 0) rfl (by decide) (by omega)) ?_
          refine xi_iconst (pc' := 471) (v := 0) kc_195_470 rfl rfl ?_
          have A74 := ((eh72.2.1 115 (by decide)).trans A17)
          refine xi_virtual (mj := 23) (as := [.int a19, .int a21, .int a23, .int 0]) (st1 := []) (lv0 := [(0, .ref 115), (1, .int a19), (2, .int a21), (3, .int a23), (4, .int 0)]) kc_195_471 rfl rfl rfl rfl rfl A74 (Nat.le_of_ble_eq_true rfl) (hJ _ _ _ _ (by decide)) (xm_le ml_23 rfl) rfl ?_
          refine xi_aload_n (pc' := 1) (x := 115) kc_23_0 rfl rfl ?_
          refine xi_iconst (pc' := 2) (v := 0) kc_23_1 rfl rfl ?_
          refine xi_putfield (pc' := 5) (fs' := [.int 0, .int u5, .ref 116, .ref 117, .ref 118, .ref 119, .ref 120, .ref 121, .ref 122, .ref 123, .ref 124, .ref 125, .ref 126, .ref 127, .ref 128, .ref 129, .int u6, .ref 130, .int u7, .ref 131, .ref 132, .ref 133, .ref 134, .int u1, .ref 135, .ref 136, .ref 137, .ref 138, .ref 139, .ref 140, .ref 141, .ref 142, .int u9, .int u10, .int u11, .ref 143, .ref 144, .ref 145, .ref 146, .ref 147, .ref 148, .int u12, .ref 149, .ref 150, .ref 151, .int u13, .ref 152, .ref 153, .ref 154, .ref 155, .ref 156, .ref 157, .ref 158, .ref 159, .int u14, .ref 160, .int u15, .ref 161, .ref 162, .ref 163, .ref 164, .int u16, .ref 165, .ref 166]) kc_23_2 rfl rfl rfl A74 rfl rfl rfl (Nat.le_of_ble_eq_true rfl) rfl (fun hh76 eh75 => ?_)
          have K77 := xk_pf (k := 0) (v := 0) K73 (xk_wf rfl) xD_115 A74 rfl (by first | omega | decide) (by first | omega | decide) eh75 rfl
          refine xi_iload_n (pc' := 6) (x := a19) kc_23_5 rfl rfl ?_
          refine xi_static (mj := 24) (as := [.int a19]) (st1 := []) (lv0 := [(0, .int a19)]) kc_23_6 rfl rfl (Nat.le_of_ble_eq_true rfl) rfl rfl (Nat.le_of_ble_eq_true rfl) (hJ _ _ _ _ (by decide)) (xm_le ml_24 rfl) rfl ?_
          refine xi_iload_n (pc' := 1) (x := a19) kc_24_0 rfl rfl ?_
          refine xi_iconst (pc' := 2) (v := 0) kc_24_1 rfl rfl ?_
          refine xi_bipush (pc' := 4) (v := 11) kc_24_2 rfl rfl ?_
          refine xi_static (mj := 11) (as := [.int a19, .int 0, .int 11]) (st1 := []) (lv0 := [(0, .int a19), (1, .int 0), (2, .int 11)]) kc_24_4 rfl rfl (Nat.le_of_ble_eq_true rfl) rfl rfl (Nat.le_of_ble_eq_true rfl) (hJ _ _ _ _ (by decide)) (xm_le ml_11 rfl) rfl ?_
          refine xi_iload_n (pc' := 1) (x := a19) kc_11_0 rfl rfl ?_
          refine xi_iload_n (pc' := 2) (x := 0) kc_11_1 rfl rfl ?_
          refine xi_cmf (pc' := 5) kc_11_2 rfl (xc_lt_f (X := a19.toInt) (Y := 0) rfl (by decide) (by omega)) ?_
          refine xi_iload_n (pc' := 6) (x := a19) kc_11_5 rfl rfl ?_
          refine xi_iload_n (pc' := 7) (x := 11) kc_11_6 rfl rfl ?_
          refine xi_cmf (pc' := 10) kc_11_7 rfl (xc_gt_f (X := a19.toInt) (Y := 11) rfl (by decide) (by omega)) ?_
          refine xi_iconst (pc' := 11) (v := 1) kc_11_10 rfl rfl ?_
          refine xi_goto (pc' := 15) kc_11_11 rfl ?_
          refine xi_ireturn kc_11_15 mr_11 rfl ?_
          show xw J ov 98 24 (7, [(0, .int a19)], [.int 1], hh76) _
          refine xi_ireturn kc_24_7 mr_24 rfl ?_
          show xw J ov 99 23 (9, [(0, .ref 115), (1, .int a19), (2, .int a21), (3, .int a23), (4, .int 0)], [.int 1], hh76) _
          refine xi_iff (pc' := 12) kc_23_9 rfl rfl ?_
          refine xi_iload_n (pc' := 13) (x := a21) kc_23_12 rfl rfl ?_
          refine xi_static (mj := 10) (as := [.int a21]) (st1 := []) (lv0 := [(0, .int a21)]) kc_23_13 rfl rfl (Nat.le_of_ble_eq_true rfl) rfl rfl (Nat.le_of_ble_eq_true rfl) (hJ _ _ _ _ (by decide)) (xm_le ml_10 rfl) rfl ?_
          refine xi_iload_n (pc' := 1) (x := a21) kc_10_0 rfl rfl ?_
          refine xi_iconst (pc' := 2) (v := 0) kc_10_1 rfl rfl ?_
          refine xi_iconst (pc' := 3) (v := 5) kc_10_2 rfl rfl ?_
          refine xi_static (mj := 11) (as := [.int a21, .int 0, .int 5]) (st1 := []) (lv0 := [(0, .int a21), (1, .int 0), (2, .int 5)]) kc_10_3 rfl rfl (Nat.le_of_ble_eq_true rfl) rfl rfl (Nat.le_of_ble_eq_true rfl) (hJ _ _ _ _ (by decide)) (xm_le ml_11 rfl) rfl ?_
          refine xi_iload_n (pc' := 1) (x := a21) kc_11_0 rfl rfl ?_
          refine xi_iload_n (pc' := 2) (x := 0) kc_11_1 rfl rfl ?_
          refine xi_cmt (pc' := 14) kc_11_2 rfl (xc_lt_t (X := a21.toInt) (Y := 0) rfl (by decide) (by omega)) ?_
          refine xi_iconst (pc' := 15) (v := 0) kc_11_14 rfl rfl ?_
          refine xi_ireturn kc_11_15 mr_11 rfl ?_
          show xw J ov 98 10 (6, [(0, .int a21)], [.int 0], hh76) _
          refine xi_ireturn kc_10_6 mr_10 rfl ?_
          show xw J ov 99 23 (16, [(0, .ref 115), (1, .int a19), (2, .int a21), (3, .int a23), (4, .int 0)], [.int 0], hh76) _
          refine xi_iff (pc' := 19) kc_23_16 rfl rfl ?_
          refine xi_aload_n (pc' := 20) (x := 115) kc_23_19 rfl rfl ?_
          refine xi_iconst (pc' := 21) (v := (-1)) kc_23_20 rfl rfl ?_
          refine xi_virtual (mj := 12) (as := [.int (-1)]) (st1 := []) (lv0 := [(0, .ref 115), (1, .int (-1))]) kc_23_21 rfl rfl rfl rfl rfl eh75.1 (Nat.le_of_ble_eq_true rfl) (hJ _ _ _ _ (by decide)) (xm_le ml_12 rfl) rfl ?_
          refine xi_aload_n (pc' := 1) (x := 115) kc_12_0 rfl rfl ?_
          refine xi_getfield (pc' := 4) (v := .ref 140) kc_12_1 rfl rfl rfl eh75.1 rfl ?_
          refine xi_iload_n (pc' := 5) (x := (-1)) kc_12_4 rfl rfl ?_
          refine xi_ineg (pc' := 6) (v := 1) kc_12_5 rfl rfl ?_
          refine xi_dup2 (pc' := 7) kc_12_6 rfl ⟨rfl, rfl⟩ ?_
          obtain ⟨y78, A78, hy78, ry78⟩ := xk_arr K.1 xD_140
          obtain ⟨v79, ev79, bv79, dv79⟩ := xj_get hy78 ry78 (i := 1) (by decide) (by decide)
          have A80 := ((eh75.2.1 140 (by decide)).trans ((eh72.2.1 140 (by decide)).trans A78))
          refine xi_iaload (pc' := 8) (v := v79) kc_12_7 rfl A80 (by decide) rfl (xi_in (by decide) (by rw [hy78]; decide)) ev79 ?_
          refine xi_iconst (pc' := 9) (v := 1) kc_12_8 rfl rfl ?_
          obtain ⟨v81, ev81⟩ : ∃ q : Int32, (v79 : Int32) + 1 = q := ⟨_, rfl⟩
          have rv81 := xc_rng v81
          refine xi_iadd (pc' := 10) (v := v81) kc_12_9 rfl ev81 ?_
          obtain ⟨y82, s82, hy82, ry82⟩ := xj_set (v := v81) hy78 ry78 1 (by first | omega | decide) (by first | omega | decide)
          refine xi_iastore (pc' := 11) (x' := y82) kc_12_10 rfl A80 rfl (xi_in (by decide) (by rw [hy78]; decide)) s82 (fun hh82 eh82 => ?_)
          have K83 := xk_pa K77 (xk_wa rfl) xD_140 hy82 ry82 eh82
          refine xi_iload_n (pc' := 12) (x := (-1)) kc_12_11 rfl rfl ?_
          refine xi_ireturn kc_12_12 mr_12 rfl ?_
          show xw J ov 99 23 (24, [(0, .ref 115), (1, .int a19), (2, .int a21), (3, .int a23), (4, .int 0)], [.int (-1)], hh82) _
          refine xi_ireturn kc_23_24 mr_23 rfl ?_
          show xw J ov 100 195 (474, [(4, .int x4), (3, .ref 167), (2, .ref 115), (1, .ref 0), (0, .ref 1000000)], [.int (-1)], hh82) _
          refine xi_pop (pc' := 475) kc_195_474 rfl rfl ?_
          refine xi_goto (pc' := 1501) kc_195_475 rfl ?_
          obtain ⟨v84, ev84⟩ : ∃ q : Int32, x4 + 6 = q := ⟨_, rfl⟩
          have zv84 : v84.toInt = (x4.toInt + 6) := by rw [← ev84]; exact (xz_add (X := x4.toInt) (Y := 6) rfl (by decide) (by omega) (by omega)).trans (by omega)
          refine xi_iinc (pc' := 1504) (x := x4) (v := v84) (lv' := [(4, .int v84), (3, .ref 167), (2, .ref 115), (1, .ref 0), (0, .ref 1000000)]) kc_195_1501 rfl rfl ev84 rfl (xm_lt ml_195 rfl) ?_
          refine xi_goto (pc' := 23) kc_195_1504 rfl ?_
          have A85 := ((eh82.2.1 1 (by decide)).trans ((eh75.2.1 1 (by decide)).trans ((eh72.2.1 1 (by decide)).trans A3)))
          have A86 := ((eh82.2.1 115 (by decide)).trans eh75.1)
          exact kk v84 hh82 (by omega) K83 ⟨(xGR_kept I.1 (fun c hc => ((eh82.2.1 c (Ne.symm (xk_nc hc rfl))).trans ((eh75.2.1 c (Ne.symm (xk_nc hc rfl))).trans (eh72.2.1 c (Ne.symm (xk_nc hc rfl)))))) ((eh82.2.1 125 (by decide)).trans ((eh75.2.1 125 (by decide)).trans (eh72.2.1 125 (by decide))))), (xGR_kept I.2.1 (fun c hc => ((eh82.2.1 c (Ne.symm (xk_nc hc rfl))).trans ((eh75.2.1 c (Ne.symm (xk_nc hc rfl))).trans (eh72.2.1 c (Ne.symm (xk_nc hc rfl)))))) ((eh82.2.1 127 (by decide)).trans ((eh75.2.1 127 (by decide)).trans (eh72.2.1 127 (by decide))))), ((xl_of A85 rfl).trans (xl_of A86 rfl).symm)⟩
        · refine xi_iff (pc' := 4) kc_89_1 rfl (xc_lt_f (X := a21.toInt) (Y := 0) rfl (by decide) (by omega)) ?_
          refine xi_iload_n (pc' := 5) (x := a21) kc_89_4 rfl rfl ?_
          refine xi_bipush (pc' := 7) (v := 6) kc_89_5 rfl rfl ?_
          by_cases c87 : 6 ≤ a21.toInt
          · refine xi_cmt (pc' := 14) kc_89_7 rfl (xc_ge_t (X := a21.toInt) (Y := 6) rfl (by decide) (by omega)) ?_
            refine xi_iconst (pc' := 15) (v := 0) kc_89_14 rfl rfl ?_
            refine xi_ireturn kc_89_15 mr_89 rfl ?_
            show xw J ov 99 103 (11, [(0, .ref 0), (1, .int a19), (2, .int a21), (3, .int a23), (4, .int 0)], [.int 0], h) _
            refine xi_iff (pc' := 14) kc_103_11 rfl rfl ?_
            refine xi_aload_n (pc' := 15) (x := 0) kc_103_14 rfl rfl ?_
            refine xi_iconst (pc' := 16) (v := (-1)) kc_103_15 rfl rfl ?_
            refine xi_virtual (mj := 90) (as := [.int (-1)]) (st1 := []) (lv0 := [(0, .ref 0), (1, .int (-1))]) kc_103_16 rfl rfl rfl rfl rfl A29 (Nat.le_of_ble_eq_true rfl) (hJ _ _ _ _ (by decide)) (xm_le ml_90 rfl) rfl ?_
            refine xi_iload_n (pc' := 1) (x := (-1)) kc_90_0 rfl rfl ?_
            refine xi_ineg (pc' := 2) (v := 1) kc_90_1 rfl rfl ?_
            refine xi_istore_n (pc' := 3) (lv' := [(2, .int 1), (0, .ref 0), (1, .int (-1))]) kc_90_2 rfl rfl (xm_lt ml_90 rfl) ?_
            refine xi_iload_n (pc' := 4) (x := 1) kc_90_3 rfl rfl ?_
            refine xi_iff (pc' := 7) kc_90_4 rfl rfl ?_
            refine xi_iload_n (pc' := 8) (x := 1) kc_90_7 rfl rfl ?_
            refine xi_aload_n (pc' := 9) (x := 0) kc_90_8 rfl rfl ?_
            refine xi_getfield (pc' := 12) (v := .ref 94) kc_90_9 rfl rfl rfl A29 rfl ?_
            obtain ⟨y88, A88, hy88, ry88⟩ := xk_arr K.1 xD_94
            refine xi_arraylength (pc' := 13) (n := 7) (v := 7) kc_90_12 rfl (xl_lenI (by decide) (by decide) A88 hy88) rfl ?_
            refine xi_cmf (pc' := 16) kc_90_13 rfl rfl ?_
            refine xi_aload_n (pc' := 17) (x := 0) kc_90_16 rfl rfl ?_
            refine xi_getfield (pc' := 20) (v := .ref 94) kc_90_17 rfl rfl rfl A29 rfl ?_
            refine xi_iload_n (pc' := 21) (x := 1) kc_90_20 rfl rfl ?_
            refine xi_dup2 (pc' := 22) kc_90_21 rfl ⟨rfl, rfl⟩ ?_
            obtain ⟨v89, ev89, bv89, dv89⟩ := xj_get hy88 ry88 (i := 1) (by decide) (by decide)
            refine xi_iaload (pc' := 23) (v := v89) kc_90_22 rfl A88 (by decide) rfl (xi_in (by decide) (by rw [hy88]; decide)) ev89 ?_
            refine xi_iconst (pc' := 24) (v := 1) kc_90_23 rfl rfl ?_
            obtain ⟨v90, ev90⟩ : ∃ q : Int32, (v89 : Int32) + 1 = q := ⟨_, rfl⟩
            have rv90 := xc_rng v90
            refine xi_iadd (pc' := 25) (v := v90) kc_90_24 rfl ev90 ?_
            obtain ⟨y91, s91, hy91, ry91⟩ := xj_set (v := v90) hy88 ry88 1 (by first | omega | decide) (by first | omega | decide)
            refine xi_iastore (pc' := 26) (x' := y91) kc_90_25 rfl A88 rfl (xi_in (by decide) (by rw [hy88]; decide)) s91 (fun hh91 eh91 => ?_)
            have K92 := xk_pa K (xk_wa rfl) xD_94 hy91 ry91 eh91
            refine xi_iload_n (pc' := 27) (x := (-1)) kc_90_26 rfl rfl ?_
            refine xi_ireturn kc_90_27 mr_90 rfl ?_
            show xw J ov 99 103 (19, [(0, .ref 0), (1, .int a19), (2, .int a21), (3, .int a23), (4, .int 0)], [.int (-1)], hh91) _
            refine xi_ireturn kc_103_19 mr_103 rfl ?_
            show xw J ov 100 195 (437, [(4, .int x4), (3, .ref 167), (2, .ref 115), (1, .ref 0), (0, .ref 1000000)], [.int (-1)], hh91) _
            refine xi_pop (pc' := 438) kc_195_437 rfl rfl ?_
            refine xi_aload_n (pc' := 439) (x := 115) kc_195_438 rfl rfl ?_
            refine xi_aload_n (pc' := 440) (x := 1000000) kc_195_439 rfl rfl ?_
            refine xi_iload (pc' := 442) (x := x4) kc_195_440 rfl rfl ?_
            refine xi_iconst (pc' := 443) (v := 1) kc_195_442 rfl rfl ?_
            refine xi_iadd (pc' := 444) (v := v18) kc_195_443 rfl ev18 ?_
            refine xi_ialoadO (pc' := 445) (v := a19) kc_195_444 rfl (by decide) hov0 (xi_in (by omega) (by omega)) ea19 ?_
            refine xi_aload_n (pc' := 446) (x := 1000000) kc_195_445 rfl rfl ?_
            refine xi_iload (pc' := 448) (x := x4) kc_195_446 rfl rfl ?_
            refine xi_iconst (pc' := 449) (v := 2) kc_195_448 rfl rfl ?_
            refine xi_iadd (pc' := 450) (v := v20) kc_195_449 rfl ev20 ?_
            refine xi_ialoadO (pc' := 451) (v := a21) kc_195_450 rfl (by decide) hov0 (xi_in (by omega) (by omega)) ea21 ?_
            refine xi_aload_n (pc' := 452) (x := 1000000) kc_195_451 rfl rfl ?_
            refine xi_iload (pc' := 454) (x := x4) kc_195_452 rfl rfl ?_
            refine xi_iconst (pc' := 455) (v := 3) kc_195_454 rfl rfl ?_
            refine xi_iadd (pc' := 456) (v := v22) kc_195_455 rfl ev22 ?_
            refine xi_ialoadO (pc' := 457) (v := a23) kc_195_456 rfl (by decide) hov0 (xi_in (by omega) (by omega)) ea23 ?_
            refine xi_aload_n (pc' := 458) (x := 1000000) kc_195_457 rfl rfl ?_
            refine xi_iload (pc' := 460) (x := x4) kc_195_458 rfl rfl ?_
            refine xi_iconst (pc' := 461) (v := 4) kc_195_460 rfl rfl ?_
            refine xi_iadd (pc' := 462) (v := v24) kc_195_461 rfl ev24 ?_
            refine xi_ialoadO (pc' := 463) (v := a25) kc_195_462 rfl (by decide) hov0 (xi_in (by omega) (by omega)) ea25 ?_
            refine xi_ift (pc' := 470) kc_195_463 rfl (xc_eq_t (X := a25.toInt) (Y := 0) rfl (by decide) (by omega)) ?_
            refine xi_iconst (pc' := 471) (v := 0) kc_195_470 rfl rfl ?_
            have A93 := ((eh91.2.1 115 (by decide)).trans A17)
            refine xi_virtual (mj := 23) (as := [.int a19, .int a21, .int a23, .int 0]) (st1 := []) (lv0 := [(0, .ref 115), (1, .int a19), (2, .int a21), (3, .int a23), (4, .int 0)]) kc_195_471 rfl rfl rfl rfl rfl A93 (Nat.le_of_ble_eq_true rfl) (hJ _ _ _ _ (by decide)) (xm_le ml_23 rfl) rfl ?_
            refine xi_aload_n (pc' := 1) (x := 115) kc_23_0 rfl rfl ?_
            refine xi_iconst (pc' := 2) (v := 0) kc_23_1 rfl rfl ?_
            refine xi_putfield (pc' := 5) (fs' := [.int 0, .int u5, .ref 116, .ref 117, .ref 118, .ref 119, .ref 120, .ref 121, .ref 122, .ref 123, .ref 124, .ref 125, .ref 126, .ref 127, .ref 128, .ref 129, .int u6, .ref 130, .int u7, .ref 131, .ref 132, .ref 133, .ref 134, .int u1, .ref 135, .ref 136, .ref 137, .ref 138, .ref 139, .ref 140, .ref 141, .ref 142, .int u9, .int u10, .int u11, .ref 143, .ref 144, .ref 145, .ref 146, .ref 147, .ref 148, .int u12, .ref 149, .ref 150, .ref 151, .int u13, .ref 152, .ref 153, .ref 154, .ref 155, .ref 156, .ref 157, .ref 158, .ref 159, .int u14, .ref 160, .int u15, .ref 161, .ref 162, .ref 163, .ref 164, .int u16, .ref 165, .ref 166]) kc_23_2 rfl rfl rfl A93 rfl rfl rfl (Nat.le_of_ble_eq_true rfl) rfl (fun hh95 eh94 => ?_)
            have K96 := xk_pf (k := 0) (v := 0) K92 (xk_wf rfl) xD_115 A93 rfl (by first | omega | decide) (by first | omega | decide) eh94 rfl
            refine xi_iload_n (pc' := 6) (x := a19) kc_23_5 rfl rfl ?_
            refine xi_static (mj := 24) (as := [.int a19]) (st1 := []) (lv0 := [(0, .int a19)]) kc_23_6 rfl rfl (Nat.le_of_ble_eq_true rfl) rfl rfl (Nat.le_of_ble_eq_true rfl) (hJ _ _ _ _ (by decide)) (xm_le ml_24 rfl) rfl ?_
            refine xi_iload_n (pc' := 1) (x := a19) kc_24_0 rfl rfl ?_
            refine xi_iconst (pc' := 2) (v := 0) kc_24_1 rfl rfl ?_
            refine xi_bipush (pc' := 4) (v := 11) kc_24_2 rfl rfl ?_
            refine xi_static (mj := 11) (as := [.int a19, .int 0, .int 11]) (st1 := []) (lv0 := [(0, .int a19), (1, .int 0), (2, .int 11)]) kc_24_4 rfl rfl (Nat.le_of_ble_eq_true rfl) rfl rfl (Nat.le_of_ble_eq_true rfl) (hJ _ _ _ _ (by decide)) (xm_le ml_11 rfl) rfl ?_
            refine xi_iload_n (pc' := 1) (x := a19) kc_11_0 rfl rfl ?_
            refine xi_iload_n (pc' := 2) (x := 0) kc_11_1 rfl rfl ?_
            refine xi_cmf (pc' := 5) kc_11_2 rfl (xc_lt_f (X := a19.toInt) (Y := 0) rfl (by decide) (by omega)) ?_
            refine xi_iload_n (pc' := 6) (x := a19) kc_11_5 rfl rfl ?_
            refine xi_iload_n (pc' := 7) (x := 11) kc_11_6 rfl rfl ?_
            refine xi_cmf (pc' := 10) kc_11_7 rfl (xc_gt_f (X := a19.toInt) (Y := 11) rfl (by decide) (by omega)) ?_
            refine xi_iconst (pc' := 11) (v := 1) kc_11_10 rfl rfl ?_
            refine xi_goto (pc' := 15) kc_11_11 rfl ?_
            refine xi_ireturn kc_11_15 mr_11 rfl ?_
            show xw J ov 98 24 (7, [(0, .int a19)], [.int 1], hh95) _
            refine xi_ireturn kc_24_7 mr_24 rfl ?_
            show xw J ov 99 23 (9, [(0, .ref 115), (1, .int a19), (2, .int a21), (3, .int a23), (4, .int 0)], [.int 1], hh95) _
            refine xi_iff (pc' := 12) kc_23_9 rfl rfl ?_
            refine xi_iload_n (pc' := 13) (x := a21) kc_23_12 rfl rfl ?_
            refine xi_static (mj := 10) (as := [.int a21]) (st1 := []) (lv0 := [(0, .int a21)]) kc_23_13 rfl rfl (Nat.le_of_ble_eq_true rfl) rfl rfl (Nat.le_of_ble_eq_true rfl) (hJ _ _ _ _ (by decide)) (xm_le ml_10 rfl) rfl ?_
            refine xi_iload_n (pc' := 1) (x := a21) kc_10_0 rfl rfl ?_
            refine xi_iconst (pc' := 2) (v := 0) kc_10_1 rfl rfl ?_
            refine xi_iconst (pc' := 3) (v := 5) kc_10_2 rfl rfl ?_
            refine xi_static (mj := 11) (as := [.int a21, .int 0, .int 5]) (st1 := []) (lv0 := [(0, .int a21), (1, .int 0), (2, .int 5)]) kc_10_3 rfl rfl (Nat.le_of_ble_eq_true rfl) rfl rfl (Nat.le_of_ble_eq_true rfl) (hJ _ _ _ _ (by decide)) (xm_le ml_11 rfl) rfl ?_
            refine xi_iload_n (pc' := 1) (x := a21) kc_11_0 rfl rfl ?_
            refine xi_iload_n (pc' := 2) (x := 0) kc_11_1 rfl rfl ?_
            refine xi_cmf (pc' := 5) kc_11_2 rfl (xc_lt_f (X := a21.toInt) (Y := 0) rfl (by decide) (by omega)) ?_
            refine xi_iload_n (pc' := 6) (x := a21) kc_11_5 rfl rfl ?_
            refine xi_iload_n (pc' := 7) (x := 5) kc_11_6 rfl rfl ?_
            refine xi_cmt (pc' := 14) kc_11_7 rfl (xc_gt_t (X := a21.toInt) (Y := 5) rfl (by decide) (by omega)) ?_
            refine xi_iconst (pc' := 15) (v := 0) kc_11_14 rfl rfl ?_
            refine xi_ireturn kc_11_15 mr_11 rfl ?_
            show xw J ov 98 10 (6, [(0, .int a21)], [.int 0], hh95) _
            refine xi_ireturn kc_10_6 mr_10 rfl ?_
            show xw J ov 99 23 (16, [(0, .ref 115), (1, .int a19), (2, .int a21), (3, .int a23), (4, .int 0)], [.int 0], hh95) _
            refine xi_iff (pc' := 19) kc_23_16 rfl rfl ?_
            refine xi_aload_n (pc' := 20) (x := 115) kc_23_19 rfl rfl ?_
            refine xi_iconst (pc' := 21) (v := (-1)) kc_23_20 rfl rfl ?_
            refine xi_virtual (mj := 12) (as := [.int (-1)]) (st1 := []) (lv0 := [(0, .ref 115), (1, .int (-1))]) kc_23_21 rfl rfl rfl rfl rfl eh94.1 (Nat.le_of_ble_eq_true rfl) (hJ _ _ _ _ (by decide)) (xm_le ml_12 rfl) rfl ?_
            refine xi_aload_n (pc' := 1) (x := 115) kc_12_0 rfl rfl ?_
            refine xi_getfield (pc' := 4) (v := .ref 140) kc_12_1 rfl rfl rfl eh94.1 rfl ?_
            refine xi_iload_n (pc' := 5) (x := (-1)) kc_12_4 rfl rfl ?_
            refine xi_ineg (pc' := 6) (v := 1) kc_12_5 rfl rfl ?_
            refine xi_dup2 (pc' := 7) kc_12_6 rfl ⟨rfl, rfl⟩ ?_
            obtain ⟨y97, A97, hy97, ry97⟩ := xk_arr K.1 xD_140
            obtain ⟨v98, ev98, bv98, dv98⟩ := xj_get hy97 ry97 (i := 1) (by decide) (by decide)
            have A99 := ((eh94.2.1 140 (by decide)).trans ((eh91.2.1 140 (by decide)).trans A97))
            refine xi_iaload (pc' := 8) (v := v98) kc_12_7 rfl A99 (by decide) rfl (xi_in (by decide) (by rw [hy97]; decide)) ev98 ?_
            refine xi_iconst (pc' := 9) (v := 1) kc_12_8 rfl rfl ?_
            obtain ⟨v100, ev100⟩ : ∃ q : Int32, (v98 : Int32) + 1 = q := ⟨_, rfl⟩
            have rv100 := xc_rng v100
            refine xi_iadd (pc' := 10) (v := v100) kc_12_9 rfl ev100 ?_
            obtain ⟨y101, s101, hy101, ry101⟩ := xj_set (v := v100) hy97 ry97 1 (by first | omega | decide) (by first | omega | decide)
            refine xi_iastore (pc' := 11) (x' := y101) kc_12_10 rfl A99 rfl (xi_in (by decide) (by rw [hy97]; decide)) s101 (fun hh101 eh101 => ?_)
            have K102 := xk_pa K96 (xk_wa rfl) xD_140 hy101 ry101 eh101
            refine xi_iload_n (pc' := 12) (x := (-1)) kc_12_11 rfl rfl ?_
            refine xi_ireturn kc_12_12 mr_12 rfl ?_
            show xw J ov 99 23 (24, [(0, .ref 115), (1, .int a19), (2, .int a21), (3, .int a23), (4, .int 0)], [.int (-1)], hh101) _
            refine xi_ireturn kc_23_24 mr_23 rfl ?_
            show xw J ov 100 195 (474, [(4, .int x4), (3, .ref 167), (2, .ref 115), (1, .ref 0), (0, .ref 1000000)], [.int (-1)], hh101) _
            refine xi_pop (pc' := 475) kc_195_474 rfl rfl ?_
            refine xi_goto (pc' := 1501) kc_195_475 rfl ?_
            obtain ⟨v103, ev103⟩ : ∃ q : Int32, x4 + 6 = q := ⟨_, rfl⟩
            have zv103 : v103.toInt = (x4.toInt + 6) := by rw [← ev103]; exact (xz_add (X := x4.toInt) (Y := 6) rfl (by decide) (by omega) (by omega)).trans (by omega)
            refine xi_iinc (pc' := 1504) (x := x4) (v := v103) (lv' := [(4, .int v103), (3, .ref 167), (2, .ref 115), (1, .ref 0), (0, .ref 1000000)]) kc_195_1501 rfl rfl ev103 rfl (xm_lt ml_195 rfl) ?_
            refine xi_goto (pc' := 23) kc_195_1504 rfl ?_
            have A104 := ((eh101.2.1 1 (by decide)).trans ((eh94.2.1 1 (by decide)).trans ((eh91.2.1 1 (by decide)).trans A3)))
            have A105 := ((eh101.2.1 115 (by decide)).trans eh94.1)
            exact kk v103 hh101 (by omega) K102 ⟨(xGR_kept I.1 (fun c hc => ((eh101.2.1 c (Ne.symm (xk_nc hc rfl))).trans ((eh94.2.1 c (Ne.symm (xk_nc hc rfl))).trans (eh91.2.1 c (Ne.symm (xk_nc hc rfl)))))) ((eh101.2.1 125 (by decide)).trans ((eh94.2.1 125 (by decide)).trans (eh91.2.1 125 (by decide))))), (xGR_kept I.2.1 (fun c hc => ((eh101.2.1 c (Ne.symm (xk_nc hc rfl))).trans ((eh94.2.1 c (Ne.symm (xk_nc hc rfl))).trans (eh91.2.1 c (Ne.symm (xk_nc hc rfl)))))) ((eh101.2.1 127 (by decide)).trans ((eh94.2.1 127 (by decide)).trans (eh91.2.1 127 (by decide))))), ((xl_of A104 rfl).trans (xl_of A105 rfl).symm)⟩
          · refine xi_cmf (pc' := 10) kc_89_7 rfl (xc_ge_f (X := a21.toInt) (Y := 6) rfl (by decide) (by omega)) ?_
            refine xi_iconst (pc' := 11) (v := 1) kc_89_10 rfl rfl ?_
            refine xi_goto (pc' := 15) kc_89_11 rfl ?_
            refine xi_ireturn kc_89_15 mr_89 rfl ?_
            show xw J ov 99 103 (11, [(0, .ref 0), (1, .int a19), (2, .int a21), (3, .int a23), (4, .int 0)], [.int 1], h) _
            refine xi_ift (pc' := 20) kc_103_11 rfl rfl ?_
            refine xi_iload_n (pc' := 21) (x := a23) kc_103_20 rfl rfl ?_
            by_cases c106 : 0 ≤ a23.toInt
            · refine xi_ift (pc' := 31) kc_103_21 rfl (xc_ge_t (X := a23.toInt) (Y := 0) rfl (by decide) (by omega)) ?_
              refine xi_iload_n (pc' := 32) (x := a23) kc_103_31 rfl rfl ?_
              refine xi_bipush (pc' := 34) (v := 100) kc_103_32 rfl rfl ?_
              by_cases c107 : a23.toInt ≤ 100
              · refine xi_cmt (pc' := 44) kc_103_34 rfl (xc_le_t (X := a23.toInt) (Y := 100) rfl (by decide) (by omega)) ?_
                refine xi_aload_n (pc' := 45) (x := 0) kc_103_44 rfl rfl ?_
                refine xi_getfield (pc' := 48) (v := .ref 66) kc_103_45 rfl rfl rfl A29 rfl ?_
                obtain ⟨u109, wl108, bu109, A110⟩ := xq_66 K.1
                refine xi_virtual (mj := 91) (as := []) (st1 := []) (lv0 := [(0, .ref 66)]) kc_103_48 rfl rfl rfl rfl rfl A110 (Nat.le_of_ble_eq_true rfl) (hJ _ _ _ _ (by decide)) (xm_le ml_91 rfl) rfl ?_
                refine xi_aload_n (pc' := 1) (x := 66) kc_91_0 rfl rfl ?_
                refine xi_lconst (pc' := 2) (v := 0) kc_91_1 rfl rfl ?_
                refine xi_putfield (pc' := 5) (fs' := [.ref 1, .ref 67, .ref 70, .ref 71, .ref 72, .ref 73, .ref 74, .long 0, .int u109]) kc_91_2 rfl rfl rfl A110 rfl rfl rfl (Nat.le_of_ble_eq_true rfl) rfl (fun hh112 eh111 => ?_)
                have K113 := xk_pl (k := 7) (v := 0) K (xk_wf rfl) xD_66 A110 rfl eh111 rfl
                refine xi_return kc_91_5 mr_91 ?_
                show xw J ov 99 103 (51, [(0, .ref 0), (1, .int a19), (2, .int a21), (3, .int a23), (4, .int 0)], [], hh112) _
                refine xi_aload_n (pc' := 52) (x := 0) kc_103_51 rfl rfl ?_
                have A114 := ((eh111.2.1 0 (by decide)).trans A29)
                refine xi_getfield (pc' := 55) (v := .ref 1) kc_103_52 rfl rfl rfl A114 rfl ?_
                have A115 := ((eh111.2.1 1 (by decide)).trans A3)
                refine xi_getfield (pc' := 58) (v := .ref 3) kc_103_55 rfl rfl rfl A115 rfl ?_
                refine xi_iload_n (pc' := 59) (x := a19) kc_103_58 rfl rfl ?_
                have A116 := xk_ex K.1 xD_3
                obtain ⟨pt117, ept117, mpt117⟩ := xR_3 (i := a19) (by omega) (by omega)
                have A118 := ((eh111.2.1 3 (by decide)).trans A116)
                refine xj_aaload (pc' := 60) (b := pt117) kc_103_59 rfl A118 rfl (xi_in (n := 12) (by omega) (by omega)) ept117 ?_
                refine xi_astore (pc' := 62) (lv' := [(5, .ref pt117), (0, .ref 0), (1, .int a19), (2, .int a21), (3, .int a23), (4, .int 0)]) kc_103_60 rfl rfl (xm_lt ml_103 rfl) ?_
                refine xi_aload (pc' := 64) (x := pt117) kc_103_62 rfl rfl ?_
                obtain ⟨u119, u120, u121, u122, pt123, bu119, bu120, bu121, bu122, mpt123, A124⟩ := xg_wall K.1 mpt117
                obtain ⟨y125, A125, hy125, ry125⟩ := xk_arr K.1 xD_125
                have HG126 : y125.getD (Int32.toNatClampNeg a19) 0 = u119 := xGR_ld (Lo := [some 29, some 31, some 33, some 35, some 37, some 39, some 41, some 43, some 45, some 47, some 49, some 51]) I.1 rfl ept117 (by omega) (by show _ < ((12 : Nat) : Int); omega) A124 rfl A125
                have bHG126 : (-9) ≤ u119.toInt ∧ u119.toInt ≤ 5 := by rw [← HG126]; exact ry125 _ (xj_nat (n := 12) (by omega) (by omega))
                obtain ⟨y127, A127, hy127, ry127⟩ := xk_arr K.1 xD_127
                have HG128 : y127.getD (Int32.toNatClampNeg a19) 0 = u121 := xGR_ld (Lo := [some 29, some 31, some 33, some 35, some 37, some 39, some 41, some 43, some 45, some 47, some 49, some 51]) I.2.1 rfl ept117 (by omega) (by show _ < ((12 : Nat) : Int); omega) A124 rfl A127
                have bHG128 : 0 ≤ u121.toInt ∧ u121.toInt ≤ 1 := by rw [← HG128]; exact ry127 _ (xj_nat (n := 12) (by omega) (by omega))
                have A129 := ((eh111.2.1 pt117 (Ne.symm (xk_nc mpt117 rfl))).trans A124)
                refine xi_virtual (mj := 105) (as := []) (st1 := []) (lv0 := [(0, .ref pt117)]) kc_103_64 rfl rfl rfl rfl rfl A129 (Nat.le_of_ble_eq_true rfl) (hJ _ _ _ _ (by decide)) (xm_le ml_105 rfl) rfl ?_
                refine xi_aload_n (pc' := 1) (x := pt117) kc_105_0 rfl rfl ?_
                refine xi_getfield (pc' := 4) (v := .int u119) kc_105_1 rfl rfl rfl A129 rfl ?_
                refine xi_static (mj := 89) (as := [.int u119]) (st1 := []) (lv0 := [(0, .int u119)]) kc_105_4 rfl rfl (Nat.le_of_ble_eq_true rfl) rfl rfl (Nat.le_of_ble_eq_true rfl) (hJ _ _ _ _ (by decide)) (xm_le ml_89 rfl) rfl ?_
                refine xi_iload_n (pc' := 1) (x := u119) kc_89_0 rfl rfl ?_
                by_cases c130 : u119.toInt < 0
                · refine xi_ift (pc' := 14) kc_89_1 rfl (xc_lt_t (X := u119.toInt) (Y := 0) rfl (by decide) (by omega)) ?_
                  refine xi_iconst (pc' := 15) (v := 0) kc_89_14 rfl rfl ?_
                  refine xi_ireturn kc_89_15 mr_89 rfl ?_
                  show xw J ov 98 105 (7, [(0, .ref pt117)], [.int 0], hh112) _
                  refine xi_ireturn kc_105_7 mr_105 rfl ?_
                  show xw J ov 99 103 (67, [(5, .ref pt117), (0, .ref 0), (1, .int a19), (2, .int a21), (3, .int a23), (4, .int 0)], [.int 0], hh112) _
                  refine xi_ift (pc' := 74) kc_103_67 rfl rfl ?_
                  refine xi_iconst (pc' := 75) (v := 1) kc_103_74 rfl rfl ?_
                  refine xi_istore (pc' := 77) (lv' := [(6, .int 1), (5, .ref pt117), (0, .ref 0), (1, .int a19), (2, .int a21), (3, .int a23), (4, .int 0)]) kc_103_75 rfl rfl (xm_lt ml_103 rfl) ?_
                  refine xi_aload (pc' := 79) (x := pt117) kc_103_77 rfl rfl ?_
                  refine xi_iload_n (pc' := 80) (x := a21) kc_103_79 rfl rfl ?_
                  refine xi_putfield (pc' := 83) (fs' := [.int a21, .int u120, .int u121, .int u122, .ref pt123]) kc_103_80 rfl rfl rfl A129 rfl rfl rfl (Nat.le_of_ble_eq_true rfl) rfl (fun hh132 eh131 => ?_)
                  obtain ⟨ds133, Dds133, dds133_0, dds133_1, dds133_2, dds133_3⟩ := xGo_wall mpt117
                  have K134 := xk_pf (k := 0) (v := a21) K113 (xk_gf mpt117 rfl) Dds133 A129 dds133_0 (by first | omega | decide) (by first | omega | decide) eh131 rfl
                  refine xi_aload (pc' := 85) (x := pt117) kc_103_83 rfl rfl ?_
                  refine xi_iload_n (pc' := 86) (x := a23) kc_103_85 rfl rfl ?_
                  refine xi_putfield (pc' := 89) (fs' := [.int a21, .int a23, .int u121, .int u122, .ref pt123]) kc_103_86 rfl rfl rfl eh131.1 rfl rfl rfl (Nat.le_of_ble_eq_true rfl) rfl (fun hh136 eh135 => ?_)
                  obtain ⟨ds137, Dds137, dds137_0, dds137_1, dds137_2, dds137_3⟩ := xGo_wall mpt117
                  have K138 := xk_pf (k := 1) (v := a23) K134 (xk_gf mpt117 rfl) Dds137 eh131.1 dds137_1 (by first | omega | decide) (by first | omega | decide) eh135 rfl
                  refine xi_aload (pc' := 91) (x := pt117) kc_103_89 rfl rfl ?_
                  refine xi_iload (pc' := 93) (x := 0) kc_103_91 rfl rfl ?_
                  refine xi_putfield (pc' := 96) (fs' := [.int a21, .int a23, .int 0, .int u122, .ref pt123]) kc_103_93 rfl rfl rfl eh135.1 rfl rfl rfl (Nat.le_of_ble_eq_true rfl) rfl (fun hh140 eh139 => ?_)
                  obtain ⟨ds141, Dds141, dds141_0, dds141_1, dds141_2, dds141_3⟩ := xGo_wall mpt117
                  have K142 := xk_pf (k := 2) (v := 0) K138 (xk_gf mpt117 rfl) Dds141 eh135.1 dds141_2 (by first | omega | decide) (by first | omega | decide) eh139 rfl
                  refine xi_iload (pc' := 98) (x := 1) kc_103_96 rfl rfl ?_
                  refine xi_ireturn kc_103_98 mr_103 rfl ?_
                  show xw J ov 100 195 (437, [(4, .int x4), (3, .ref 167), (2, .ref 115), (1, .ref 0), (0, .ref 1000000)], [.int 1], hh140) _
                  refine xi_pop (pc' := 438) kc_195_437 rfl rfl ?_
                  refine xi_aload_n (pc' := 439) (x := 115) kc_195_438 rfl rfl ?_
                  refine xi_aload_n (pc' := 440) (x := 1000000) kc_195_439 rfl rfl ?_
                  refine xi_iload (pc' := 442) (x := x4) kc_195_440 rfl rfl ?_
                  refine xi_iconst (pc' := 443) (v := 1) kc_195_442 rfl rfl ?_
                  refine xi_iadd (pc' := 444) (v := v18) kc_195_443 rfl ev18 ?_
                  refine xi_ialoadO (pc' := 445) (v := a19) kc_195_444 rfl (by decide) hov0 (xi_in (by omega) (by omega)) ea19 ?_
                  refine xi_aload_n (pc' := 446) (x := 1000000) kc_195_445 rfl rfl ?_
                  refine xi_iload (pc' := 448) (x := x4) kc_195_446 rfl rfl ?_
                  refine xi_iconst (pc' := 449) (v := 2) kc_195_448 rfl rfl ?_
                  refine xi_iadd (pc' := 450) (v := v20) kc_195_449 rfl ev20 ?_
                  refine xi_ialoadO (pc' := 451) (v := a21) kc_195_450 rfl (by decide) hov0 (xi_in (by omega) (by omega)) ea21 ?_
                  refine xi_aload_n (pc' := 452) (x := 1000000) kc_195_451 rfl rfl ?_
                  refine xi_iload (pc' := 454) (x := x4) kc_195_452 rfl rfl ?_
                  refine xi_iconst (pc' := 455) (v := 3) kc_195_454 rfl rfl ?_
                  refine xi_iadd (pc' := 456) (v := v22) kc_195_455 rfl ev22 ?_
                  refine xi_ialoadO (pc' := 457) (v := a23) kc_195_456 rfl (by decide) hov0 (xi_in (by omega) (by omega)) ea23 ?_
                  refine xi_aload_n (pc' := 458) (x := 1000000) kc_195_457 rfl rfl ?_
                  refine xi_iload (pc' := 460) (x := x4) kc_195_458 rfl rfl ?_
                  refine xi_iconst (pc' := 461) (v := 4) kc_195_460 rfl rfl ?_
                  refine xi_iadd (pc' := 462) (v := v24) kc_195_461 rfl ev24 ?_
                  refine xi_ialoadO (pc' := 463) (v := a25) kc_195_462 rfl (by decide) hov0 (xi_in (by omega) (by omega)) ea25 ?_
                  refine xi_ift (pc' := 470) kc_195_463 rfl (xc_eq_t (X := a25.toInt) (Y := 0) rfl (by decide) (by omega)) ?_
                  refine xi_iconst (pc' := 471) (v := 0) kc_195_470 rfl rfl ?_
                  have A143 := ((eh139.2.1 115 (xk_nc mpt117 rfl)).trans ((eh135.2.1 115 (xk_nc mpt117 rfl)).trans ((eh131.2.1 115 (xk_nc mpt117 rfl)).trans ((eh111.2.1 115 (by decide)).trans A17))))
                  refine xi_virtual (mj := 23) (as := [.int a19, .int a21, .int a23, .int 0]) (st1 := []) (lv0 := [(0, .ref 115), (1, .int a19), (2, .int a21), (3, .int a23), (4, .int 0)]) kc_195_471 rfl rfl rfl rfl rfl A143 (Nat.le_of_ble_eq_true rfl) (hJ _ _ _ _ (by decide)) (xm_le ml_23 rfl) rfl ?_
                  refine xi_aload_n (pc' := 1) (x := 115) kc_23_0 rfl rfl ?_
                  refine xi_iconst (pc' := 2) (v := 0) kc_23_1 rfl rfl ?_
                  refine xi_putfield (pc' := 5) (fs' := [.int 0, .int u5, .ref 116, .ref 117, .ref 118, .ref 119, .ref 120, .ref 121, .ref 122, .ref 123, .ref 124, .ref 125, .ref 126, .ref 127, .ref 128, .ref 129, .int u6, .ref 130, .int u7, .ref 131, .ref 132, .ref 133, .ref 134, .int u1, .ref 135, .ref 136, .ref 137, .ref 138, .ref 139, .ref 140, .ref 141, .ref 142, .int u9, .int u10, .int u11, .ref 143, .ref 144, .ref 145, .ref 146, .ref 147, .ref 148, .int u12, .ref 149, .ref 150, .ref 151, .int u13, .ref 152, .ref 153, .ref 154, .ref 155, .ref 156, .ref 157, .ref 158, .ref 159, .int u14, .ref 160, .int u15, .ref 161, .ref 162, .ref 163, .ref 164, .int u16, .ref 165, .ref 166]) kc_23_2 rfl rfl rfl A143 rfl rfl rfl (Nat.le_of_ble_eq_true rfl) rfl (fun hh145 eh144 => ?_)
                  have K146 := xk_pf (k := 0) (v := 0) K142 (xk_wf rfl) xD_115 A143 rfl (by first | omega | decide) (by first | omega | decide) eh144 rfl
                  refine xi_iload_n (pc' := 6) (x := a19) kc_23_5 rfl rfl ?_
                  refine xi_static (mj := 24) (as := [.int a19]) (st1 := []) (lv0 := [(0, .int a19)]) kc_23_6 rfl rfl (Nat.le_of_ble_eq_true rfl) rfl rfl (Nat.le_of_ble_eq_true rfl) (hJ _ _ _ _ (by decide)) (xm_le ml_24 rfl) rfl ?_
                  refine xi_iload_n (pc' := 1) (x := a19) kc_24_0 rfl rfl ?_
                  refine xi_iconst (pc' := 2) (v := 0) kc_24_1 rfl rfl ?_
                  refine xi_bipush (pc' := 4) (v := 11) kc_24_2 rfl rfl ?_
                  refine xi_static (mj := 11) (as := [.int a19, .int 0, .int 11]) (st1 := []) (lv0 := [(0, .int a19), (1, .int 0), (2, .int 11)]) kc_24_4 rfl rfl (Nat.le_of_ble_eq_true rfl) rfl rfl (Nat.le_of_ble_eq_true rfl) (hJ _ _ _ _ (by decide)) (xm_le ml_11 rfl) rfl ?_
                  refine xi_iload_n (pc' := 1) (x := a19) kc_11_0 rfl rfl ?_
                  refine xi_iload_n (pc' := 2) (x := 0) kc_11_1 rfl rfl ?_
                  refine xi_cmf (pc' := 5) kc_11_2 rfl (xc_lt_f (X := a19.toInt) (Y := 0) rfl (by decide) (by omega)) ?_
                  refine xi_iload_n (pc' := 6) (x := a19) kc_11_5 rfl rfl ?_
                  refine xi_iload_n (pc' := 7) (x := 11) kc_11_6 rfl rfl ?_
                  refine xi_cmf (pc' := 10) kc_11_7 rfl (xc_gt_f (X := a19.toInt) (Y := 11) rfl (by decide) (by omega)) ?_
                  refine xi_iconst (pc' := 11) (v := 1) kc_11_10 rfl rfl ?_
                  refine xi_goto (pc' := 15) kc_11_11 rfl ?_
                  refine xi_ireturn kc_11_15 mr_11 rfl ?_
                  show xw J ov 98 24 (7, [(0, .int a19)], [.int 1], hh145) _
                  refine xi_ireturn kc_24_7 mr_24 rfl ?_
                  show xw J ov 99 23 (9, [(0, .ref 115), (1, .int a19), (2, .int a21), (3, .int a23), (4, .int 0)], [.int 1], hh145) _
                  refine xi_iff (pc' := 12) kc_23_9 rfl rfl ?_
                  refine xi_iload_n (pc' := 13) (x := a21) kc_23_12 rfl rfl ?_
                  refine xi_static (mj := 10) (as := [.int a21]) (st1 := []) (lv0 := [(0, .int a21)]) kc_23_13 rfl rfl (Nat.le_of_ble_eq_true rfl) rfl rfl (Nat.le_of_ble_eq_true rfl) (hJ _ _ _ _ (by decide)) (xm_le ml_10 rfl) rfl ?_
                  refine xi_iload_n (pc' := 1) (x := a21) kc_10_0 rfl rfl ?_
                  refine xi_iconst (pc' := 2) (v := 0) kc_10_1 rfl rfl ?_
                  refine xi_iconst (pc' := 3) (v := 5) kc_10_2 rfl rfl ?_
                  refine xi_static (mj := 11) (as := [.int a21, .int 0, .int 5]) (st1 := []) (lv0 := [(0, .int a21), (1, .int 0), (2, .int 5)]) kc_10_3 rfl rfl (Nat.le_of_ble_eq_true rfl) rfl rfl (Nat.le_of_ble_eq_true rfl) (hJ _ _ _ _ (by decide)) (xm_le ml_11 rfl) rfl ?_
                  refine xi_iload_n (pc' := 1) (x := a21) kc_11_0 rfl rfl ?_
                  refine xi_iload_n (pc' := 2) (x := 0) kc_11_1 rfl rfl ?_
                  refine xi_cmf (pc' := 5) kc_11_2 rfl (xc_lt_f (X := a21.toInt) (Y := 0) rfl (by decide) (by omega)) ?_
                  refine xi_iload_n (pc' := 6) (x := a21) kc_11_5 rfl rfl ?_
                  refine xi_iload_n (pc' := 7) (x := 5) kc_11_6 rfl rfl ?_
                  refine xi_cmf (pc' := 10) kc_11_7 rfl (xc_gt_f (X := a21.toInt) (Y := 5) rfl (by decide) (by omega)) ?_
                  refine xi_iconst (pc' := 11) (v := 1) kc_11_10 rfl rfl ?_
                  refine xi_goto (pc' := 15) kc_11_11 rfl ?_
                  refine xi_ireturn kc_11_15 mr_11 rfl ?_
                  show xw J ov 98 10 (6, [(0, .int a21)], [.int 1], hh145) _
                  refine xi_ireturn kc_10_6 mr_10 rfl ?_
                  show xw J ov 99 23 (16, [(0, .ref 115), (1, .int a19), (2, .int a21), (3, .int a23), (4, .int 0)], [.int 1], hh145) _
                  refine xi_ift (pc' := 25) kc_23_16 rfl rfl ?_
                  refine xi_iload_n (pc' := 26) (x := a23) kc_23_25 rfl rfl ?_
                  refine xi_ift (pc' := 36) kc_23_26 rfl (xc_ge_t (X := a23.toInt) (Y := 0) rfl (by decide) (by omega)) ?_
                  refine xi_iload_n (pc' := 37) (x := a23) kc_23_36 rfl rfl ?_
                  refine xi_bipush (pc' := 39) (v := 100) kc_23_37 rfl rfl ?_
                  refine xi_cmt (pc' := 49) kc_23_39 rfl (xc_le_t (X := a23.toInt) (Y := 100) rfl (by decide) (by omega)) ?_
                  refine xi_aload_n (pc' := 50) (x := 115) kc_23_49 rfl rfl ?_
                  refine xi_getfield (pc' := 53) (v := .ref 125) kc_23_50 rfl rfl rfl eh144.1 rfl ?_
                  refine xi_iload_n (pc' := 54) (x := a19) kc_23_53 rfl rfl ?_
                  have A147 := ((eh144.2.1 125 (by decide)).trans ((eh139.2.1 125 (xk_nc mpt117 rfl)).trans ((eh135.2.1 125 (xk_nc mpt117 rfl)).trans ((eh131.2.1 125 (xk_nc mpt117 rfl)).trans ((eh111.2.1 125 (by decide)).trans A125)))))
                  refine xi_iaload (pc' := 55) (v := u119) kc_23_54 rfl A147 (by decide) rfl (xi_in (by omega) (by rw [hy125]; omega)) HG126 ?_
                  refine xi_ift (pc' := 62) kc_23_55 rfl (xc_lt_t (X := u119.toInt) (Y := 0) rfl (by decide) (by omega)) ?_
                  refine xi_iconst (pc' := 63) (v := 0) kc_23_62 rfl rfl ?_
                  refine xi_istore (pc' := 65) (lv' := [(5, .int 0), (0, .ref 115), (1, .int a19), (2, .int a21), (3, .int a23), (4, .int 0)]) kc_23_63 rfl rfl (xm_lt ml_23 rfl) ?_
                  refine xi_aload_n (pc' := 66) (x := 115) kc_23_65 rfl rfl ?_
                  refine xi_getfield (pc' := 69) (v := .ref 125) kc_23_66 rfl rfl rfl eh144.1 rfl ?_
                  refine xi_iload_n (pc' := 70) (x := a19) kc_23_69 rfl rfl ?_
                  refine xi_iload_n (pc' := 71) (x := a21) kc_23_70 rfl rfl ?_
                  obtain ⟨y148, s148, hy148, ry148⟩ := xj_set (v := a21) hy125 ry125 a19 (by first | omega | decide) (by first | omega | decide)
                  refine xi_iastore (pc' := 72) (x' := y148) kc_23_71 rfl A147 rfl (xi_in (by omega) (by rw [hy125]; omega)) s148 (fun hh148 eh148 => ?_)
                  have K149 := xk_pa K146 (xk_wa rfl) xD_125 hy148 ry148 eh148
                  refine xi_aload_n (pc' := 73) (x := 115) kc_23_72 rfl rfl ?_
                  have A150 := ((eh148.2.1 115 (by decide)).trans eh144.1)
                  refine xi_getfield (pc' := 76) (v := .ref 126) kc_23_73 rfl rfl rfl A150 rfl ?_
                  refine xi_iload_n (pc' := 77) (x := a19) kc_23_76 rfl rfl ?_
                  refine xi_iload_n (pc' := 78) (x := a23) kc_23_77 rfl rfl ?_
                  obtain ⟨y151, A151, hy151, ry151⟩ := xk_arr K.1 xD_126
                  have A152 := ((eh148.2.1 126 (by decide)).trans ((eh144.2.1 126 (by decide)).trans ((eh139.2.1 126 (xk_nc mpt117 rfl)).trans ((eh135.2.1 126 (xk_nc mpt117 rfl)).trans ((eh131.2.1 126 (xk_nc mpt117 rfl)).trans ((eh111.2.1 126 (by decide)).trans A151))))))
                  obtain ⟨y153, s153, hy153, ry153⟩ := xj_set (v := a23) hy151 ry151 a19 (by first | omega | decide) (by first | omega | decide)
                  refine xi_iastore (pc' := 79) (x' := y153) kc_23_78 rfl A152 rfl (xi_in (by omega) (by rw [hy151]; omega)) s153 (fun hh153 eh153 => ?_)
                  have K154 := xk_pa K149 (xk_wa rfl) xD_126 hy153 ry153 eh153
                  refine xi_aload_n (pc' := 80) (x := 115) kc_23_79 rfl rfl ?_
                  have A155 := ((eh153.2.1 115 (by decide)).trans A150)
                  refine xi_getfield (pc' := 83) (v := .ref 127) kc_23_80 rfl rfl rfl A155 rfl ?_
                  refine xi_iload_n (pc' := 84) (x := a19) kc_23_83 rfl rfl ?_
                  refine xi_iload (pc' := 86) (x := 0) kc_23_84 rfl rfl ?_
                  have A156 := ((eh153.2.1 127 (by decide)).trans ((eh148.2.1 127 (by decide)).trans ((eh144.2.1 127 (by decide)).trans ((eh139.2.1 127 (xk_nc mpt117 rfl)).trans ((eh135.2.1 127 (xk_nc mpt117 rfl)).trans ((eh131.2.1 127 (xk_nc mpt117 rfl)).trans ((eh111.2.1 127 (by decide)).trans A127)))))))
                  obtain ⟨y157, s157, hy157, ry157⟩ := xj_set (v := 0) hy127 ry127 a19 (by first | omega | decide) (by first | omega | decide)
                  refine xi_bastore (pc' := 87) (x' := y157) kc_23_86 rfl A156 rfl (xi_in (by omega) (by rw [hy127]; omega)) s157 (fun hh157 eh157 => ?_)
                  have K158 := xk_pa K154 (xk_wa rfl) xD_127 hy157 ry157 eh157
                  refine xi_aload_n (pc' := 88) (x := 115) kc_23_87 rfl rfl ?_
                  refine xi_iconst (pc' := 89) (v := 0) kc_23_88 rfl rfl ?_
                  have A159 := ((eh157.2.1 115 (by decide)).trans A155)
                  refine xi_putfield (pc' := 92) (fs' := [.int 0, .int u5, .ref 116, .ref 117, .ref 118, .ref 119, .ref 120, .ref 121, .ref 122, .ref 123, .ref 124, .ref 125, .ref 126, .ref 127, .ref 128, .ref 129, .int u6, .ref 130, .int u7, .ref 131, .ref 132, .ref 133, .ref 134, .int u1, .ref 135, .ref 136, .ref 137, .ref 138, .ref 139, .ref 140, .ref 141, .ref 142, .int u9, .int u10, .int u11, .ref 143, .ref 144, .ref 145, .ref 146, .ref 147, .ref 148, .int 0, .ref 149, .ref 150, .ref 151, .int u13, .ref 152, .ref 153, .ref 154, .ref 155, .ref 156, .ref 157, .ref 158, .ref 159, .int u14, .ref 160, .int u15, .ref 161, .ref 162, .ref 163, .ref 164, .int u16, .ref 165, .ref 166]) kc_23_89 rfl rfl rfl A159 rfl rfl rfl (Nat.le_of_ble_eq_true rfl) rfl (fun hh161 eh160 => ?_)
                  have K162 := xk_pf (k := 41) (v := 0) K158 (xk_wf rfl) xD_115 A159 rfl (by first | omega | decide) (by first | omega | decide) eh160 rfl
                  refine xi_iload (pc' := 94) (x := 0) kc_23_92 rfl rfl ?_
                  refine xi_ift (pc' := 101) kc_23_94 rfl rfl ?_
                  refine xi_iconst (pc' := 102) (v := 1) kc_23_101 rfl rfl ?_
                  refine xi_ireturn kc_23_102 mr_23 rfl ?_
                  show xw J ov 100 195 (474, [(4, .int x4), (3, .ref 167), (2, .ref 115), (1, .ref 0), (0, .ref 1000000)], [.int 1], hh161) _
                  refine xi_pop (pc' := 475) kc_195_474 rfl rfl ?_
                  refine xi_goto (pc' := 1501) kc_195_475 rfl ?_
                  obtain ⟨v163, ev163⟩ : ∃ q : Int32, x4 + 6 = q := ⟨_, rfl⟩
                  have zv163 : v163.toInt = (x4.toInt + 6) := by rw [← ev163]; exact (xz_add (X := x4.toInt) (Y := 6) rfl (by decide) (by omega) (by omega)).trans (by omega)
                  refine xi_iinc (pc' := 1504) (x := x4) (v := v163) (lv' := [(4, .int v163), (3, .ref 167), (2, .ref 115), (1, .ref 0), (0, .ref 1000000)]) kc_195_1501 rfl rfl ev163 rfl (xm_lt ml_195 rfl) ?_
                  refine xi_goto (pc' := 23) kc_195_1504 rfl ?_
                  have A164 := ((eh160.2.1 pt117 (Ne.symm (xk_nc mpt117 rfl))).trans ((eh157.2.1 pt117 (Ne.symm (xk_nc mpt117 rfl))).trans ((eh153.2.1 pt117 (Ne.symm (xk_nc mpt117 rfl))).trans ((eh148.2.1 pt117 (Ne.symm (xk_nc mpt117 rfl))).trans ((eh144.2.1 pt117 (Ne.symm (xk_nc mpt117 rfl))).trans eh139.1)))))
                  have A165 := ((eh160.2.1 125 (by decide)).trans ((eh157.2.1 125 (by decide)).trans ((eh153.2.1 125 (by decide)).trans eh148.1)))
                  have A166 := ((eh160.2.1 127 (by decide)).trans eh157.1)
                  have A167 := ((eh160.2.1 1 (by decide)).trans ((eh157.2.1 1 (by decide)).trans ((eh153.2.1 1 (by decide)).trans ((eh148.2.1 1 (by decide)).trans ((eh144.2.1 1 (by decide)).trans ((eh139.2.1 1 (xk_nc mpt117 rfl)).trans ((eh135.2.1 1 (xk_nc mpt117 rfl)).trans ((eh131.2.1 1 (xk_nc mpt117 rfl)).trans A115))))))))
                  exact kk v163 hh161 (by omega) K162 ⟨(xGR_set (Lo := [some 29, some 31, some 33, some 35, some 37, some 39, some 41, some 43, some 45, some 47, some 49, some 51]) I.1 (by decide) rfl ept117 (by omega) (by show _ < ((12 : Nat) : Int); omega) A125 (by rw [hy125]; decide) A164 rfl A165 s148 (fun c hc hne => ((eh160.2.1 c (Ne.symm (xk_nc hc rfl))).trans ((eh157.2.1 c (Ne.symm (xk_nc hc rfl))).trans ((eh153.2.1 c (Ne.symm (xk_nc hc rfl))).trans ((eh148.2.1 c (Ne.symm (xk_nc hc rfl))).trans ((eh144.2.1 c (Ne.symm (xk_nc hc rfl))).trans ((eh139.2.1 c hne).trans ((eh135.2.1 c hne).trans ((eh131.2.1 c hne).trans (eh111.2.1 c (Ne.symm (xk_nc hc rfl))))))))))))), (xGR_set (Lo := [some 29, some 31, some 33, some 35, some 37, some 39, some 41, some 43, some 45, some 47, some 49, some 51]) I.2.1 (by decide) rfl ept117 (by omega) (by show _ < ((12 : Nat) : Int); omega) A127 (by rw [hy127]; decide) A164 rfl A166 s157 (fun c hc hne => ((eh160.2.1 c (Ne.symm (xk_nc hc rfl))).trans ((eh157.2.1 c (Ne.symm (xk_nc hc rfl))).trans ((eh153.2.1 c (Ne.symm (xk_nc hc rfl))).trans ((eh148.2.1 c (Ne.symm (xk_nc hc rfl))).trans ((eh144.2.1 c (Ne.symm (xk_nc hc rfl))).trans ((eh139.2.1 c hne).trans ((eh135.2.1 c hne).trans ((eh131.2.1 c hne).trans (eh111.2.1 c (Ne.symm (xk_nc hc rfl))))))))))))), ((xl_of A167 rfl).trans (xl_of eh160.1 rfl).symm)⟩
                · refine xi_iff (pc' := 4) kc_89_1 rfl (xc_lt_f (X := u119.toInt) (Y := 0) rfl (by decide) (by omega)) ?_
                  refine xi_iload_n (pc' := 5) (x := u119) kc_89_4 rfl rfl ?_
                  refine xi_bipush (pc' := 7) (v := 6) kc_89_5 rfl rfl ?_
                  refine xi_cmf (pc' := 10) kc_89_7 rfl (xc_ge_f (X := u119.toInt) (Y := 6) rfl (by decide) (by omega)) ?_
                  refine xi_iconst (pc' := 11) (v := 1) kc_89_10 rfl rfl ?_
                  refine xi_goto (pc' := 15) kc_89_11 rfl ?_
                  refine xi_ireturn kc_89_15 mr_89 rfl ?_
                  show xw J ov 98 105 (7, [(0, .ref pt117)], [.int 1], hh112) _
                  refine xi_ireturn kc_105_7 mr_105 rfl ?_
                  show xw J ov 99 103 (67, [(5, .ref pt117), (0, .ref 0), (1, .int a19), (2, .int a21), (3, .int a23), (4, .int 0)], [.int 1], hh112) _
                  refine xi_iff (pc' := 70) kc_103_67 rfl rfl ?_
                  refine xi_iconst (pc' := 71) (v := 0) kc_103_70 rfl rfl ?_
                  refine xi_goto (pc' := 75) kc_103_71 rfl ?_
                  refine xi_istore (pc' := 77) (lv' := [(6, .int 0), (5, .ref pt117), (0, .ref 0), (1, .int a19), (2, .int a21), (3, .int a23), (4, .int 0)]) kc_103_75 rfl rfl (xm_lt ml_103 rfl) ?_
                  refine xi_aload (pc' := 79) (x := pt117) kc_103_77 rfl rfl ?_
                  refine xi_iload_n (pc' := 80) (x := a21) kc_103_79 rfl rfl ?_
                  refine xi_putfield (pc' := 83) (fs' := [.int a21, .int u120, .int u121, .int u122, .ref pt123]) kc_103_80 rfl rfl rfl A129 rfl rfl rfl (Nat.le_of_ble_eq_true rfl) rfl (fun hh169 eh168 => ?_)
                  obtain ⟨ds170, Dds170, dds170_0, dds170_1, dds170_2, dds170_3⟩ := xGo_wall mpt117
                  have K171 := xk_pf (k := 0) (v := a21) K113 (xk_gf mpt117 rfl) Dds170 A129 dds170_0 (by first | omega | decide) (by first | omega | decide) eh168 rfl
                  refine xi_aload (pc' := 85) (x := pt117) kc_103_83 rfl rfl ?_
                  refine xi_iload_n (pc' := 86) (x := a23) kc_103_85 rfl rfl ?_
                  refine xi_putfield (pc' := 89) (fs' := [.int a21, .int a23, .int u121, .int u122, .ref pt123]) kc_103_86 rfl rfl rfl eh168.1 rfl rfl rfl (Nat.le_of_ble_eq_true rfl) rfl (fun hh173 eh172 => ?_)
                  obtain ⟨ds174, Dds174, dds174_0, dds174_1, dds174_2, dds174_3⟩ := xGo_wall mpt117
                  have K175 := xk_pf (k := 1) (v := a23) K171 (xk_gf mpt117 rfl) Dds174 eh168.1 dds174_1 (by first | omega | decide) (by first | omega | decide) eh172 rfl
                  refine xi_aload (pc' := 91) (x := pt117) kc_103_89 rfl rfl ?_
                  refine xi_iload (pc' := 93) (x := 0) kc_103_91 rfl rfl ?_
                  refine xi_putfield (pc' := 96) (fs' := [.int a21, .int a23, .int 0, .int u122, .ref pt123]) kc_103_93 rfl rfl rfl eh172.1 rfl rfl rfl (Nat.le_of_ble_eq_true rfl) rfl (fun hh177 eh176 => ?_)
                  obtain ⟨ds178, Dds178, dds178_0, dds178_1, dds178_2, dds178_3⟩ := xGo_wall mpt117
                  have K179 := xk_pf (k := 2) (v := 0) K175 (xk_gf mpt117 rfl) Dds178 eh172.1 dds178_2 (by first | omega | decide) (by first | omega | decide) eh176 rfl
                  refine xi_iload (pc' := 98) (x := 0) kc_103_96 rfl rfl ?_
                  refine xi_ireturn kc_103_98 mr_103 rfl ?_
                  show xw J ov 100 195 (437, [(4, .int x4), (3, .ref 167), (2, .ref 115), (1, .ref 0), (0, .ref 1000000)], [.int 0], hh177) _
                  refine xi_pop (pc' := 438) kc_195_437 rfl rfl ?_
                  refine xi_aload_n (pc' := 439) (x := 115) kc_195_438 rfl rfl ?_
                  refine xi_aload_n (pc' := 440) (x := 1000000) kc_195_439 rfl rfl ?_
                  refine xi_iload (pc' := 442) (x := x4) kc_195_440 rfl rfl ?_
                  refine xi_iconst (pc' := 443) (v := 1) kc_195_442 rfl rfl ?_
                  refine xi_iadd (pc' := 444) (v := v18) kc_195_443 rfl ev18 ?_
                  refine xi_ialoadO (pc' := 445) (v := a19) kc_195_444 rfl (by decide) hov0 (xi_in (by omega) (by omega)) ea19 ?_
                  refine xi_aload_n (pc' := 446) (x := 1000000) kc_195_445 rfl rfl ?_
                  refine xi_iload (pc' := 448) (x := x4) kc_195_446 rfl rfl ?_
                  refine xi_iconst (pc' := 449) (v := 2) kc_195_448 rfl rfl ?_
                  refine xi_iadd (pc' := 450) (v := v20) kc_195_449 rfl ev20 ?_
                  refine xi_ialoadO (pc' := 451) (v := a21) kc_195_450 rfl (by decide) hov0 (xi_in (by omega) (by omega)) ea21 ?_
                  refine xi_aload_n (pc' := 452) (x := 1000000) kc_195_451 rfl rfl ?_
                  refine xi_iload (pc' := 454) (x := x4) kc_195_452 rfl rfl ?_
                  refine xi_iconst (pc' := 455) (v := 3) kc_195_454 rfl rfl ?_
                  refine xi_iadd (pc' := 456) (v := v22) kc_195_455 rfl ev22 ?_
                  refine xi_ialoadO (pc' := 457) (v := a23) kc_195_456 rfl (by decide) hov0 (xi_in (by omega) (by omega)) ea23 ?_
                  refine xi_aload_n (pc' := 458) (x := 1000000) kc_195_457 rfl rfl ?_
                  refine xi_iload (pc' := 460) (x := x4) kc_195_458 rfl rfl ?_
                  refine xi_iconst (pc' := 461) (v := 4) kc_195_460 rfl rfl ?_
                  refine xi_iadd (pc' := 462) (v := v24) kc_195_461 rfl ev24 ?_
                  refine xi_ialoadO (pc' := 463) (v := a25) kc_195_462 rfl (by decide) hov0 (xi_in (by omega) (by omega)) ea25 ?_
                  refine xi_ift (pc' := 470) kc_195_463 rfl (xc_eq_t (X := a25.toInt) (Y := 0) rfl (by decide) (by omega)) ?_
                  refine xi_iconst (pc' := 471) (v := 0) kc_195_470 rfl rfl ?_
                  have A180 := ((eh176.2.1 115 (xk_nc mpt117 rfl)).trans ((eh172.2.1 115 (xk_nc mpt117 rfl)).trans ((eh168.2.1 115 (xk_nc mpt117 rfl)).trans ((eh111.2.1 115 (by decide)).trans A17))))
                  refine xi_virtual (mj := 23) (as := [.int a19, .int a21, .int a23, .int 0]) (st1 := []) (lv0 := [(0, .ref 115), (1, .int a19), (2, .int a21), (3, .int a23), (4, .int 0)]) kc_195_471 rfl rfl rfl rfl rfl A180 (Nat.le_of_ble_eq_true rfl) (hJ _ _ _ _ (by decide)) (xm_le ml_23 rfl) rfl ?_
                  refine xi_aload_n (pc' := 1) (x := 115) kc_23_0 rfl rfl ?_
                  refine xi_iconst (pc' := 2) (v := 0) kc_23_1 rfl rfl ?_
                  refine xi_putfield (pc' := 5) (fs' := [.int 0, .int u5, .ref 116, .ref 117, .ref 118, .ref 119, .ref 120, .ref 121, .ref 122, .ref 123, .ref 124, .ref 125, .ref 126, .ref 127, .ref 128, .ref 129, .int u6, .ref 130, .int u7, .ref 131, .ref 132, .ref 133, .ref 134, .int u1, .ref 135, .ref 136, .ref 137, .ref 138, .ref 139, .ref 140, .ref 141, .ref 142, .int u9, .int u10, .int u11, .ref 143, .ref 144, .ref 145, .ref 146, .ref 147, .ref 148, .int u12, .ref 149, .ref 150, .ref 151, .int u13, .ref 152, .ref 153, .ref 154, .ref 155, .ref 156, .ref 157, .ref 158, .ref 159, .int u14, .ref 160, .int u15, .ref 161, .ref 162, .ref 163, .ref 164, .int u16, .ref 165, .ref 166]) kc_23_2 rfl rfl rfl A180 rfl rfl rfl (Nat.le_of_ble_eq_true rfl) rfl (fun hh182 eh181 => ?_)
                  have K183 := xk_pf (k := 0) (v := 0) K179 (xk_wf rfl) xD_115 A180 rfl (by first | omega | decide) (by first | omega | decide) eh181 rfl
                  refine xi_iload_n (pc' := 6) (x := a19) kc_23_5 rfl rfl ?_
                  refine xi_static (mj := 24) (as := [.int a19]) (st1 := []) (lv0 := [(0, .int a19)]) kc_23_6 rfl rfl (Nat.le_of_ble_eq_true rfl) rfl rfl (Nat.le_of_ble_eq_true rfl) (hJ _ _ _ _ (by decide)) (xm_le ml_24 rfl) rfl ?_
                  refine xi_iload_n (pc' := 1) (x := a19) kc_24_0 rfl rfl ?_
                  refine xi_iconst (pc' := 2) (v := 0) kc_24_1 rfl rfl ?_
                  refine xi_bipush (pc' := 4) (v := 11) kc_24_2 rfl rfl ?_
                  refine xi_static (mj := 11) (as := [.int a19, .int 0, .int 11]) (st1 := []) (lv0 := [(0, .int a19), (1, .int 0), (2, .int 11)]) kc_24_4 rfl rfl (Nat.le_of_ble_eq_true rfl) rfl rfl (Nat.le_of_ble_eq_true rfl) (hJ _ _ _ _ (by decide)) (xm_le ml_11 rfl) rfl ?_
                  refine xi_iload_n (pc' := 1) (x := a19) kc_11_0 rfl rfl ?_
                  refine xi_iload_n (pc' := 2) (x := 0) kc_11_1 rfl rfl ?_
                  refine xi_cmf (pc' := 5) kc_11_2 rfl (xc_lt_f (X := a19.toInt) (Y := 0) rfl (by decide) (by omega)) ?_
                  refine xi_iload_n (pc' := 6) (x := a19) kc_11_5 rfl rfl ?_
                  refine xi_iload_n (pc' := 7) (x := 11) kc_11_6 rfl rfl ?_
                  refine xi_cmf (pc' := 10) kc_11_7 rfl (xc_gt_f (X := a19.toInt) (Y := 11) rfl (by decide) (by omega)) ?_
                  refine xi_iconst (pc' := 11) (v := 1) kc_11_10 rfl rfl ?_
                  refine xi_goto (pc' := 15) kc_11_11 rfl ?_
                  refine xi_ireturn kc_11_15 mr_11 rfl ?_
                  show xw J ov 98 24 (7, [(0, .int a19)], [.int 1], hh182) _
                  refine xi_ireturn kc_24_7 mr_24 rfl ?_
                  show xw J ov 99 23 (9, [(0, .ref 115), (1, .int a19), (2, .int a21), (3, .int a23), (4, .int 0)], [.int 1], hh182) _
                  refine xi_iff (pc' := 12) kc_23_9 rfl rfl ?_
                  refine xi_iload_n (pc' := 13) (x := a21) kc_23_12 rfl rfl ?_
                  refine xi_static (mj := 10) (as := [.int a21]) (st1 := []) (lv0 := [(0, .int a21)]) kc_23_13 rfl rfl (Nat.le_of_ble_eq_true rfl) rfl rfl (Nat.le_of_ble_eq_true rfl) (hJ _ _ _ _ (by decide)) (xm_le ml_10 rfl) rfl ?_
                  refine xi_iload_n (pc' := 1) (x := a21) kc_10_0 rfl rfl ?_
                  refine xi_iconst (pc' := 2) (v := 0) kc_10_1 rfl rfl ?_
                  refine xi_iconst (pc' := 3) (v := 5) kc_10_2 rfl rfl ?_
                  refine xi_static (mj := 11) (as := [.int a21, .int 0, .int 5]) (st1 := []) (lv0 := [(0, .int a21), (1, .int 0), (2, .int 5)]) kc_10_3 rfl rfl (Nat.le_of_ble_eq_true rfl) rfl rfl (Nat.le_of_ble_eq_true rfl) (hJ _ _ _ _ (by decide)) (xm_le ml_11 rfl) rfl ?_
                  refine xi_iload_n (pc' := 1) (x := a21) kc_11_0 rfl rfl ?_
                  refine xi_iload_n (pc' := 2) (x := 0) kc_11_1 rfl rfl ?_
                  refine xi_cmf (pc' := 5) kc_11_2 rfl (xc_lt_f (X := a21.toInt) (Y := 0) rfl (by decide) (by omega)) ?_
                  refine xi_iload_n (pc' := 6) (x := a21) kc_11_5 rfl rfl ?_
                  refine xi_iload_n (pc' := 7) (x := 5) kc_11_6 rfl rfl ?_
                  refine xi_cmf (pc' := 10) kc_11_7 rfl (xc_gt_f (X := a21.toInt) (Y := 5) rfl (by decide) (by omega)) ?_
                  refine xi_iconst (pc' := 11) (v := 1) kc_11_10 rfl rfl ?_
                  refine xi_goto (pc' := 15) kc_11_11 rfl ?_
                  refine xi_ireturn kc_11_15 mr_11 rfl ?_
                  show xw J ov 98 10 (6, [(0, .int a21)], [.int 1], hh182) _
                  refine xi_ireturn kc_10_6 mr_10 rfl ?_
                  show xw J ov 99 23 (16, [(0, .ref 115), (1, .int a19), (2, .int a21), (3, .int a23), (4, .int 0)], [.int 1], hh182) _
                  refine xi_ift (pc' := 25) kc_23_16 rfl rfl ?_
                  refine xi_iload_n (pc' := 26) (x := a23) kc_23_25 rfl rfl ?_
                  refine xi_ift (pc' := 36) kc_23_26 rfl (xc_ge_t (X := a23.toInt) (Y := 0) rfl (by decide) (by omega)) ?_
                  refine xi_iload_n (pc' := 37) (x := a23) kc_23_36 rfl rfl ?_
                  refine xi_bipush (pc' := 39) (v := 100) kc_23_37 rfl rfl ?_
                  refine xi_cmt (pc' := 49) kc_23_39 rfl (xc_le_t (X := a23.toInt) (Y := 100) rfl (by decide) (by omega)) ?_
                  refine xi_aload_n (pc' := 50) (x := 115) kc_23_49 rfl rfl ?_
                  refine xi_getfield (pc' := 53) (v := .ref 125) kc_23_50 rfl rfl rfl eh181.1 rfl ?_
                  refine xi_iload_n (pc' := 54) (x := a19) kc_23_53 rfl rfl ?_
                  have A184 := ((eh181.2.1 125 (by decide)).trans ((eh176.2.1 125 (xk_nc mpt117 rfl)).trans ((eh172.2.1 125 (xk_nc mpt117 rfl)).trans ((eh168.2.1 125 (xk_nc mpt117 rfl)).trans ((eh111.2.1 125 (by decide)).trans A125)))))
                  refine xi_iaload (pc' := 55) (v := u119) kc_23_54 rfl A184 (by decide) rfl (xi_in (by omega) (by rw [hy125]; omega)) HG126 ?_
                  refine xi_iff (pc' := 58) kc_23_55 rfl (xc_lt_f (X := u119.toInt) (Y := 0) rfl (by decide) (by omega)) ?_
                  refine xi_iconst (pc' := 59) (v := 1) kc_23_58 rfl rfl ?_
                  refine xi_goto (pc' := 63) kc_23_59 rfl ?_
                  refine xi_istore (pc' := 65) (lv' := [(5, .int 1), (0, .ref 115), (1, .int a19), (2, .int a21), (3, .int a23), (4, .int 0)]) kc_23_63 rfl rfl (xm_lt ml_23 rfl) ?_
                  refine xi_aload_n (pc' := 66) (x := 115) kc_23_65 rfl rfl ?_
                  refine xi_getfield (pc' := 69) (v := .ref 125) kc_23_66 rfl rfl rfl eh181.1 rfl ?_
                  refine xi_iload_n (pc' := 70) (x := a19) kc_23_69 rfl rfl ?_
                  refine xi_iload_n (pc' := 71) (x := a21) kc_23_70 rfl rfl ?_
                  obtain ⟨y185, s185, hy185, ry185⟩ := xj_set (v := a21) hy125 ry125 a19 (by first | omega | decide) (by first | omega | decide)
                  refine xi_iastore (pc' := 72) (x' := y185) kc_23_71 rfl A184 rfl (xi_in (by omega) (by rw [hy125]; omega)) s185 (fun hh185 eh185 => ?_)
                  have K186 := xk_pa K183 (xk_wa rfl) xD_125 hy185 ry185 eh185
                  refine xi_aload_n (pc' := 73) (x := 115) kc_23_72 rfl rfl ?_
                  have A187 := ((eh185.2.1 115 (by decide)).trans eh181.1)
                  refine xi_getfield (pc' := 76) (v := .ref 126) kc_23_73 rfl rfl rfl A187 rfl ?_
                  refine xi_iload_n (pc' := 77) (x := a19) kc_23_76 rfl rfl ?_
                  refine xi_iload_n (pc' := 78) (x := a23) kc_23_77 rfl rfl ?_
                  obtain ⟨y188, A188, hy188, ry188⟩ := xk_arr K.1 xD_126
                  have A189 := ((eh185.2.1 126 (by decide)).trans ((eh181.2.1 126 (by decide)).trans ((eh176.2.1 126 (xk_nc mpt117 rfl)).trans ((eh172.2.1 126 (xk_nc mpt117 rfl)).trans ((eh168.2.1 126 (xk_nc mpt117 rfl)).trans ((eh111.2.1 126 (by decide)).trans A188))))))
                  obtain ⟨y190, s190, hy190, ry190⟩ := xj_set (v := a23) hy188 ry188 a19 (by first | omega | decide) (by first | omega | decide)
                  refine xi_iastore (pc' := 79) (x' := y190) kc_23_78 rfl A189 rfl (xi_in (by omega) (by rw [hy188]; omega)) s190 (fun hh190 eh190 => ?_)
                  have K191 := xk_pa K186 (xk_wa rfl) xD_126 hy190 ry190 eh190
                  refine xi_aload_n (pc' := 80) (x := 115) kc_23_79 rfl rfl ?_
                  have A192 := ((eh190.2.1 115 (by decide)).trans A187)
                  refine xi_getfield (pc' := 83) (v := .ref 127) kc_23_80 rfl rfl rfl A192 rfl ?_
                  refine xi_iload_n (pc' := 84) (x := a19) kc_23_83 rfl rfl ?_
                  refine xi_iload (pc' := 86) (x := 0) kc_23_84 rfl rfl ?_
                  have A193 := ((eh190.2.1 127 (by decide)).trans ((eh185.2.1 127 (by decide)).trans ((eh181.2.1 127 (by decide)).trans ((eh176.2.1 127 (xk_nc mpt117 rfl)).trans ((eh172.2.1 127 (xk_nc mpt117 rfl)).trans ((eh168.2.1 127 (xk_nc mpt117 rfl)).trans ((eh111.2.1 127 (by decide)).trans A127)))))))
                  obtain ⟨y194, s194, hy194, ry194⟩ := xj_set (v := 0) hy127 ry127 a19 (by first | omega | decide) (by first | omega | decide)
                  refine xi_bastore (pc' := 87) (x' := y194) kc_23_86 rfl A193 rfl (xi_in (by omega) (by rw [hy127]; omega)) s194 (fun hh194 eh194 => ?_)
                  have K195 := xk_pa K191 (xk_wa rfl) xD_127 hy194 ry194 eh194
                  refine xi_aload_n (pc' := 88) (x := 115) kc_23_87 rfl rfl ?_
                  refine xi_iconst (pc' := 89) (v := 0) kc_23_88 rfl rfl ?_
                  have A196 := ((eh194.2.1 115 (by decide)).trans A192)
                  refine xi_putfield (pc' := 92) (fs' := [.int 0, .int u5, .ref 116, .ref 117, .ref 118, .ref 119, .ref 120, .ref 121, .ref 122, .ref 123, .ref 124, .ref 125, .ref 126, .ref 127, .ref 128, .ref 129, .int u6, .ref 130, .int u7, .ref 131, .ref 132, .ref 133, .ref 134, .int u1, .ref 135, .ref 136, .ref 137, .ref 138, .ref 139, .ref 140, .ref 141, .ref 142, .int u9, .int u10, .int u11, .ref 143, .ref 144, .ref 145, .ref 146, .ref 147, .ref 148, .int 0, .ref 149, .ref 150, .ref 151, .int u13, .ref 152, .ref 153, .ref 154, .ref 155, .ref 156, .ref 157, .ref 158, .ref 159, .int u14, .ref 160, .int u15, .ref 161, .ref 162, .ref 163, .ref 164, .int u16, .ref 165, .ref 166]) kc_23_89 rfl rfl rfl A196 rfl rfl rfl (Nat.le_of_ble_eq_true rfl) rfl (fun hh198 eh197 => ?_)
                  have K199 := xk_pf (k := 41) (v := 0) K195 (xk_wf rfl) xD_115 A196 rfl (by first | omega | decide) (by first | omega | decide) eh197 rfl
                  refine xi_iload (pc' := 94) (x := 1) kc_23_92 rfl rfl ?_
                  refine xi_iff (pc' := 97) kc_23_94 rfl rfl ?_
                  refine xi_iconst (pc' := 98) (v := 0) kc_23_97 rfl rfl ?_
                  refine xi_goto (pc' := 102) kc_23_98 rfl ?_
                  refine xi_ireturn kc_23_102 mr_23 rfl ?_
                  show xw J ov 100 195 (474, [(4, .int x4), (3, .ref 167), (2, .ref 115), (1, .ref 0), (0, .ref 1000000)], [.int 0], hh198) _
                  refine xi_pop (pc' := 475) kc_195_474 rfl rfl ?_
                  refine xi_goto (pc' := 1501) kc_195_475 rfl ?_
                  obtain ⟨v200, ev200⟩ : ∃ q : Int32, x4 + 6 = q := ⟨_, rfl⟩
                  have zv200 : v200.toInt = (x4.toInt + 6) := by rw [← ev200]; exact (xz_add (X := x4.toInt) (Y := 6) rfl (by decide) (by omega) (by omega)).trans (by omega)
                  refine xi_iinc (pc' := 1504) (x := x4) (v := v200) (lv' := [(4, .int v200), (3, .ref 167), (2, .ref 115), (1, .ref 0), (0, .ref 1000000)]) kc_195_1501 rfl rfl ev200 rfl (xm_lt ml_195 rfl) ?_
                  refine xi_goto (pc' := 23) kc_195_1504 rfl ?_
                  have A201 := ((eh197.2.1 pt117 (Ne.symm (xk_nc mpt117 rfl))).trans ((eh194.2.1 pt117 (Ne.symm (xk_nc mpt117 rfl))).trans ((eh190.2.1 pt117 (Ne.symm (xk_nc mpt117 rfl))).trans ((eh185.2.1 pt117 (Ne.symm (xk_nc mpt117 rfl))).trans ((eh181.2.1 pt117 (Ne.symm (xk_nc mpt117 rfl))).trans eh176.1)))))
                  have A202 := ((eh197.2.1 125 (by decide)).trans ((eh194.2.1 125 (by decide)).trans ((eh190.2.1 125 (by decide)).trans eh185.1)))
                  have A203 := ((eh197.2.1 127 (by decide)).trans eh194.1)
                  have A204 := ((eh197.2.1 1 (by decide)).trans ((eh194.2.1 1 (by decide)).trans ((eh190.2.1 1 (by decide)).trans ((eh185.2.1 1 (by decide)).trans ((eh181.2.1 1 (by decide)).trans ((eh176.2.1 1 (xk_nc mpt117 rfl)).trans ((eh172.2.1 1 (xk_nc mpt117 rfl)).trans ((eh168.2.1 1 (xk_nc mpt117 rfl)).trans A115))))))))
                  exact kk v200 hh198 (by omega) K199 ⟨(xGR_set (Lo := [some 29, some 31, some 33, some 35, some 37, some 39, some 41, some 43, some 45, some 47, some 49, some 51]) I.1 (by decide) rfl ept117 (by omega) (by show _ < ((12 : Nat) : Int); omega) A125 (by rw [hy125]; decide) A201 rfl A202 s185 (fun c hc hne => ((eh197.2.1 c (Ne.symm (xk_nc hc rfl))).trans ((eh194.2.1 c (Ne.symm (xk_nc hc rfl))).trans ((eh190.2.1 c (Ne.symm (xk_nc hc rfl))).trans ((eh185.2.1 c (Ne.symm (xk_nc hc rfl))).trans ((eh181.2.1 c (Ne.symm (xk_nc hc rfl))).trans ((eh176.2.1 c hne).trans ((eh172.2.1 c hne).trans ((eh168.2.1 c hne).trans (eh111.2.1 c (Ne.symm (xk_nc hc rfl))))))))))))), (xGR_set (Lo := [some 29, some 31, some 33, some 35, some 37, some 39, some 41, some 43, some 45, some 47, some 49, some 51]) I.2.1 (by decide) rfl ept117 (by omega) (by show _ < ((12 : Nat) : Int); omega) A127 (by rw [hy127]; decide) A201 rfl A203 s194 (fun c hc hne => ((eh197.2.1 c (Ne.symm (xk_nc hc rfl))).trans ((eh194.2.1 c (Ne.symm (xk_nc hc rfl))).trans ((eh190.2.1 c (Ne.symm (xk_nc hc rfl))).trans ((eh185.2.1 c (Ne.symm (xk_nc hc rfl))).trans ((eh181.2.1 c (Ne.symm (xk_nc hc rfl))).trans ((eh176.2.1 c hne).trans ((eh172.2.1 c hne).trans ((eh168.2.1 c hne).trans (eh111.2.1 c (Ne.symm (xk_nc hc rfl))))))))))))), ((xl_of A204 rfl).trans (xl_of eh197.1 rfl).symm)⟩
              · refine xi_cmf (pc' := 37) kc_103_34 rfl (xc_le_f (X := a23.toInt) (Y := 100) rfl (by decide) (by omega)) ?_
                refine xi_aload_n (pc' := 38) (x := 0) kc_103_37 rfl rfl ?_
                refine xi_bipush (pc' := 40) (v := (-6)) kc_103_38 rfl rfl ?_
                refine xi_virtual (mj := 90) (as := [.int (-6)]) (st1 := []) (lv0 := [(0, .ref 0), (1, .int (-6))]) kc_103_40 rfl rfl rfl rfl rfl A29 (Nat.le_of_ble_eq_true rfl) (hJ _ _ _ _ (by decide)) (xm_le ml_90 rfl) rfl ?_
                refine xi_iload_n (pc' := 1) (x := (-6)) kc_90_0 rfl rfl ?_
                refine xi_ineg (pc' := 2) (v := 6) kc_90_1 rfl rfl ?_
                refine xi_istore_n (pc' := 3) (lv' := [(2, .int 6), (0, .ref 0), (1, .int (-6))]) kc_90_2 rfl rfl (xm_lt ml_90 rfl) ?_
                refine xi_iload_n (pc' := 4) (x := 6) kc_90_3 rfl rfl ?_
                refine xi_iff (pc' := 7) kc_90_4 rfl rfl ?_
                refine xi_iload_n (pc' := 8) (x := 6) kc_90_7 rfl rfl ?_
                refine xi_aload_n (pc' := 9) (x := 0) kc_90_8 rfl rfl ?_
                refine xi_getfield (pc' := 12) (v := .ref 94) kc_90_9 rfl rfl rfl A29 rfl ?_
                obtain ⟨y205, A205, hy205, ry205⟩ := xk_arr K.1 xD_94
                refine xi_arraylength (pc' := 13) (n := 7) (v := 7) kc_90_12 rfl (xl_lenI (by decide) (by decide) A205 hy205) rfl ?_
                refine xi_cmf (pc' := 16) kc_90_13 rfl rfl ?_
                refine xi_aload_n (pc' := 17) (x := 0) kc_90_16 rfl rfl ?_
                refine xi_getfield (pc' := 20) (v := .ref 94) kc_90_17 rfl rfl rfl A29 rfl ?_
                refine xi_iload_n (pc' := 21) (x := 6) kc_90_20 rfl rfl ?_
                refine xi_dup2 (pc' := 22) kc_90_21 rfl ⟨rfl, rfl⟩ ?_
                obtain ⟨v206, ev206, bv206, dv206⟩ := xj_get hy205 ry205 (i := 6) (by decide) (by decide)
                refine xi_iaload (pc' := 23) (v := v206) kc_90_22 rfl A205 (by decide) rfl (xi_in (by decide) (by rw [hy205]; decide)) ev206 ?_
                refine xi_iconst (pc' := 24) (v := 1) kc_90_23 rfl rfl ?_
                obtain ⟨v207, ev207⟩ : ∃ q : Int32, (v206 : Int32) + 1 = q := ⟨_, rfl⟩
                have rv207 := xc_rng v207
                refine xi_iadd (pc' := 25) (v := v207) kc_90_24 rfl ev207 ?_
                obtain ⟨y208, s208, hy208, ry208⟩ := xj_set (v := v207) hy205 ry205 6 (by first | omega | decide) (by first | omega | decide)
                refine xi_iastore (pc' := 26) (x' := y208) kc_90_25 rfl A205 rfl (xi_in (by decide) (by rw [hy205]; decide)) s208 (fun hh208 eh208 => ?_)
                have K209 := xk_pa K (xk_wa rfl) xD_94 hy208 ry208 eh208
                refine xi_iload_n (pc' := 27) (x := (-6)) kc_90_26 rfl rfl ?_
                refine xi_ireturn kc_90_27 mr_90 rfl ?_
                show xw J ov 99 103 (43, [(0, .ref 0), (1, .int a19), (2, .int a21), (3, .int a23), (4, .int 0)], [.int (-6)], hh208) _
                refine xi_ireturn kc_103_43 mr_103 rfl ?_
                show xw J ov 100 195 (437, [(4, .int x4), (3, .ref 167), (2, .ref 115), (1, .ref 0), (0, .ref 1000000)], [.int (-6)], hh208) _
                refine xi_pop (pc' := 438) kc_195_437 rfl rfl ?_
                refine xi_aload_n (pc' := 439) (x := 115) kc_195_438 rfl rfl ?_
                refine xi_aload_n (pc' := 440) (x := 1000000) kc_195_439 rfl rfl ?_
                refine xi_iload (pc' := 442) (x := x4) kc_195_440 rfl rfl ?_
                refine xi_iconst (pc' := 443) (v := 1) kc_195_442 rfl rfl ?_
                refine xi_iadd (pc' := 444) (v := v18) kc_195_443 rfl ev18 ?_
                refine xi_ialoadO (pc' := 445) (v := a19) kc_195_444 rfl (by decide) hov0 (xi_in (by omega) (by omega)) ea19 ?_
                refine xi_aload_n (pc' := 446) (x := 1000000) kc_195_445 rfl rfl ?_
                refine xi_iload (pc' := 448) (x := x4) kc_195_446 rfl rfl ?_
                refine xi_iconst (pc' := 449) (v := 2) kc_195_448 rfl rfl ?_
                refine xi_iadd (pc' := 450) (v := v20) kc_195_449 rfl ev20 ?_
                refine xi_ialoadO (pc' := 451) (v := a21) kc_195_450 rfl (by decide) hov0 (xi_in (by omega) (by omega)) ea21 ?_
                refine xi_aload_n (pc' := 452) (x := 1000000) kc_195_451 rfl rfl ?_
                refine xi_iload (pc' := 454) (x := x4) kc_195_452 rfl rfl ?_
                refine xi_iconst (pc' := 455) (v := 3) kc_195_454 rfl rfl ?_
                refine xi_iadd (pc' := 456) (v := v22) kc_195_455 rfl ev22 ?_
                refine xi_ialoadO (pc' := 457) (v := a23) kc_195_456 rfl (by decide) hov0 (xi_in (by omega) (by omega)) ea23 ?_
                refine xi_aload_n (pc' := 458) (x := 1000000) kc_195_457 rfl rfl ?_
                refine xi_iload (pc' := 460) (x := x4) kc_195_458 rfl rfl ?_
                refine xi_iconst (pc' := 461) (v := 4) kc_195_460 rfl rfl ?_
                refine xi_iadd (pc' := 462) (v := v24) kc_195_461 rfl ev24 ?_
                refine xi_ialoadO (pc' := 463) (v := a25) kc_195_462 rfl (by decide) hov0 (xi_in (by omega) (by omega)) ea25 ?_
                refine xi_ift (pc' := 470) kc_195_463 rfl (xc_eq_t (X := a25.toInt) (Y := 0) rfl (by decide) (by omega)) ?_
                refine xi_iconst (pc' := 471) (v := 0) kc_195_470 rfl rfl ?_
                have A210 := ((eh208.2.1 115 (by decide)).trans A17)
                refine xi_virtual (mj := 23) (as := [.int a19, .int a21, .int a23, .int 0]) (st1 := []) (lv0 := [(0, .ref 115), (1, .int a19), (2, .int a21), (3, .int a23), (4, .int 0)]) kc_195_471 rfl rfl rfl rfl rfl A210 (Nat.le_of_ble_eq_true rfl) (hJ _ _ _ _ (by decide)) (xm_le ml_23 rfl) rfl ?_
                refine xi_aload_n (pc' := 1) (x := 115) kc_23_0 rfl rfl ?_
                refine xi_iconst (pc' := 2) (v := 0) kc_23_1 rfl rfl ?_
                refine xi_putfield (pc' := 5) (fs' := [.int 0, .int u5, .ref 116, .ref 117, .ref 118, .ref 119, .ref 120, .ref 121, .ref 122, .ref 123, .ref 124, .ref 125, .ref 126, .ref 127, .ref 128, .ref 129, .int u6, .ref 130, .int u7, .ref 131, .ref 132, .ref 133, .ref 134, .int u1, .ref 135, .ref 136, .ref 137, .ref 138, .ref 139, .ref 140, .ref 141, .ref 142, .int u9, .int u10, .int u11, .ref 143, .ref 144, .ref 145, .ref 146, .ref 147, .ref 148, .int u12, .ref 149, .ref 150, .ref 151, .int u13, .ref 152, .ref 153, .ref 154, .ref 155, .ref 156, .ref 157, .ref 158, .ref 159, .int u14, .ref 160, .int u15, .ref 161, .ref 162, .ref 163, .ref 164, .int u16, .ref 165, .ref 166]) kc_23_2 rfl rfl rfl A210 rfl rfl rfl (Nat.le_of_ble_eq_true rfl) rfl (fun hh212 eh211 => ?_)
                have K213 := xk_pf (k := 0) (v := 0) K209 (xk_wf rfl) xD_115 A210 rfl (by first | omega | decide) (by first | omega | decide) eh211 rfl
                refine xi_iload_n (pc' := 6) (x := a19) kc_23_5 rfl rfl ?_
                refine xi_static (mj := 24) (as := [.int a19]) (st1 := []) (lv0 := [(0, .int a19)]) kc_23_6 rfl rfl (Nat.le_of_ble_eq_true rfl) rfl rfl (Nat.le_of_ble_eq_true rfl) (hJ _ _ _ _ (by decide)) (xm_le ml_24 rfl) rfl ?_
                refine xi_iload_n (pc' := 1) (x := a19) kc_24_0 rfl rfl ?_
                refine xi_iconst (pc' := 2) (v := 0) kc_24_1 rfl rfl ?_
                refine xi_bipush (pc' := 4) (v := 11) kc_24_2 rfl rfl ?_
                refine xi_static (mj := 11) (as := [.int a19, .int 0, .int 11]) (st1 := []) (lv0 := [(0, .int a19), (1, .int 0), (2, .int 11)]) kc_24_4 rfl rfl (Nat.le_of_ble_eq_true rfl) rfl rfl (Nat.le_of_ble_eq_true rfl) (hJ _ _ _ _ (by decide)) (xm_le ml_11 rfl) rfl ?_
                refine xi_iload_n (pc' := 1) (x := a19) kc_11_0 rfl rfl ?_
                refine xi_iload_n (pc' := 2) (x := 0) kc_11_1 rfl rfl ?_
                refine xi_cmf (pc' := 5) kc_11_2 rfl (xc_lt_f (X := a19.toInt) (Y := 0) rfl (by decide) (by omega)) ?_
                refine xi_iload_n (pc' := 6) (x := a19) kc_11_5 rfl rfl ?_
                refine xi_iload_n (pc' := 7) (x := 11) kc_11_6 rfl rfl ?_
                refine xi_cmf (pc' := 10) kc_11_7 rfl (xc_gt_f (X := a19.toInt) (Y := 11) rfl (by decide) (by omega)) ?_
                refine xi_iconst (pc' := 11) (v := 1) kc_11_10 rfl rfl ?_
                refine xi_goto (pc' := 15) kc_11_11 rfl ?_
                refine xi_ireturn kc_11_15 mr_11 rfl ?_
                show xw J ov 98 24 (7, [(0, .int a19)], [.int 1], hh212) _
                refine xi_ireturn kc_24_7 mr_24 rfl ?_
                show xw J ov 99 23 (9, [(0, .ref 115), (1, .int a19), (2, .int a21), (3, .int a23), (4, .int 0)], [.int 1], hh212) _
                refine xi_iff (pc' := 12) kc_23_9 rfl rfl ?_
                refine xi_iload_n (pc' := 13) (x := a21) kc_23_12 rfl rfl ?_
                refine xi_static (mj := 10) (as := [.int a21]) (st1 := []) (lv0 := [(0, .int a21)]) kc_23_13 rfl rfl (Nat.le_of_ble_eq_true rfl) rfl rfl (Nat.le_of_ble_eq_true rfl) (hJ _ _ _ _ (by decide)) (xm_le ml_10 rfl) rfl ?_
                refine xi_iload_n (pc' := 1) (x := a21) kc_10_0 rfl rfl ?_
                refine xi_iconst (pc' := 2) (v := 0) kc_10_1 rfl rfl ?_
                refine xi_iconst (pc' := 3) (v := 5) kc_10_2 rfl rfl ?_
                refine xi_static (mj := 11) (as := [.int a21, .int 0, .int 5]) (st1 := []) (lv0 := [(0, .int a21), (1, .int 0), (2, .int 5)]) kc_10_3 rfl rfl (Nat.le_of_ble_eq_true rfl) rfl rfl (Nat.le_of_ble_eq_true rfl) (hJ _ _ _ _ (by decide)) (xm_le ml_11 rfl) rfl ?_
                refine xi_iload_n (pc' := 1) (x := a21) kc_11_0 rfl rfl ?_
                refine xi_iload_n (pc' := 2) (x := 0) kc_11_1 rfl rfl ?_
                refine xi_cmf (pc' := 5) kc_11_2 rfl (xc_lt_f (X := a21.toInt) (Y := 0) rfl (by decide) (by omega)) ?_
                refine xi_iload_n (pc' := 6) (x := a21) kc_11_5 rfl rfl ?_
                refine xi_iload_n (pc' := 7) (x := 5) kc_11_6 rfl rfl ?_
                refine xi_cmf (pc' := 10) kc_11_7 rfl (xc_gt_f (X := a21.toInt) (Y := 5) rfl (by decide) (by omega)) ?_
                refine xi_iconst (pc' := 11) (v := 1) kc_11_10 rfl rfl ?_
                refine xi_goto (pc' := 15) kc_11_11 rfl ?_
                refine xi_ireturn kc_11_15 mr_11 rfl ?_
                show xw J ov 98 10 (6, [(0, .int a21)], [.int 1], hh212) _
                refine xi_ireturn kc_10_6 mr_10 rfl ?_
                show xw J ov 99 23 (16, [(0, .ref 115), (1, .int a19), (2, .int a21), (3, .int a23), (4, .int 0)], [.int 1], hh212) _
                refine xi_ift (pc' := 25) kc_23_16 rfl rfl ?_
                refine xi_iload_n (pc' := 26) (x := a23) kc_23_25 rfl rfl ?_
                refine xi_ift (pc' := 36) kc_23_26 rfl (xc_ge_t (X := a23.toInt) (Y := 0) rfl (by decide) (by omega)) ?_
                refine xi_iload_n (pc' := 37) (x := a23) kc_23_36 rfl rfl ?_
                refine xi_bipush (pc' := 39) (v := 100) kc_23_37 rfl rfl ?_
                refine xi_cmf (pc' := 42) kc_23_39 rfl (xc_le_f (X := a23.toInt) (Y := 100) rfl (by decide) (by omega)) ?_
                refine xi_aload_n (pc' := 43) (x := 115) kc_23_42 rfl rfl ?_
                refine xi_bipush (pc' := 45) (v := (-6)) kc_23_43 rfl rfl ?_
                refine xi_virtual (mj := 12) (as := [.int (-6)]) (st1 := []) (lv0 := [(0, .ref 115), (1, .int (-6))]) kc_23_45 rfl rfl rfl rfl rfl eh211.1 (Nat.le_of_ble_eq_true rfl) (hJ _ _ _ _ (by decide)) (xm_le ml_12 rfl) rfl ?_
                refine xi_aload_n (pc' := 1) (x := 115) kc_12_0 rfl rfl ?_
                refine xi_getfield (pc' := 4) (v := .ref 140) kc_12_1 rfl rfl rfl eh211.1 rfl ?_
                refine xi_iload_n (pc' := 5) (x := (-6)) kc_12_4 rfl rfl ?_
                refine xi_ineg (pc' := 6) (v := 6) kc_12_5 rfl rfl ?_
                refine xi_dup2 (pc' := 7) kc_12_6 rfl ⟨rfl, rfl⟩ ?_
                obtain ⟨y214, A214, hy214, ry214⟩ := xk_arr K.1 xD_140
                obtain ⟨v215, ev215, bv215, dv215⟩ := xj_get hy214 ry214 (i := 6) (by decide) (by decide)
                have A216 := ((eh211.2.1 140 (by decide)).trans ((eh208.2.1 140 (by decide)).trans A214))
                refine xi_iaload (pc' := 8) (v := v215) kc_12_7 rfl A216 (by decide) rfl (xi_in (by decide) (by rw [hy214]; decide)) ev215 ?_
                refine xi_iconst (pc' := 9) (v := 1) kc_12_8 rfl rfl ?_
                obtain ⟨v217, ev217⟩ : ∃ q : Int32, (v215 : Int32) + 1 = q := ⟨_, rfl⟩
                have rv217 := xc_rng v217
                refine xi_iadd (pc' := 10) (v := v217) kc_12_9 rfl ev217 ?_
                obtain ⟨y218, s218, hy218, ry218⟩ := xj_set (v := v217) hy214 ry214 6 (by first | omega | decide) (by first | omega | decide)
                refine xi_iastore (pc' := 11) (x' := y218) kc_12_10 rfl A216 rfl (xi_in (by decide) (by rw [hy214]; decide)) s218 (fun hh218 eh218 => ?_)
                have K219 := xk_pa K213 (xk_wa rfl) xD_140 hy218 ry218 eh218
                refine xi_iload_n (pc' := 12) (x := (-6)) kc_12_11 rfl rfl ?_
                refine xi_ireturn kc_12_12 mr_12 rfl ?_
                show xw J ov 99 23 (48, [(0, .ref 115), (1, .int a19), (2, .int a21), (3, .int a23), (4, .int 0)], [.int (-6)], hh218) _
                refine xi_ireturn kc_23_48 mr_23 rfl ?_
                show xw J ov 100 195 (474, [(4, .int x4), (3, .ref 167), (2, .ref 115), (1, .ref 0), (0, .ref 1000000)], [.int (-6)], hh218) _
                refine xi_pop (pc' := 475) kc_195_474 rfl rfl ?_
                refine xi_goto (pc' := 1501) kc_195_475 rfl ?_
                obtain ⟨v220, ev220⟩ : ∃ q : Int32, x4 + 6 = q := ⟨_, rfl⟩
                have zv220 : v220.toInt = (x4.toInt + 6) := by rw [← ev220]; exact (xz_add (X := x4.toInt) (Y := 6) rfl (by decide) (by omega) (by omega)).trans (by omega)
                refine xi_iinc (pc' := 1504) (x := x4) (v := v220) (lv' := [(4, .int v220), (3, .ref 167), (2, .ref 115), (1, .ref 0), (0, .ref 1000000)]) kc_195_1501 rfl rfl ev220 rfl (xm_lt ml_195 rfl) ?_
                refine xi_goto (pc' := 23) kc_195_1504 rfl ?_
                have A221 := ((eh218.2.1 1 (by decide)).trans ((eh211.2.1 1 (by decide)).trans ((eh208.2.1 1 (by decide)).trans A3)))
                have A222 := ((eh218.2.1 115 (by decide)).trans eh211.1)
                exact kk v220 hh218 (by omega) K219 ⟨(xGR_kept I.1 (fun c hc => ((eh218.2.1 c (Ne.symm (xk_nc hc rfl))).trans ((eh211.2.1 c (Ne.symm (xk_nc hc rfl))).trans (eh208.2.1 c (Ne.symm (xk_nc hc rfl)))))) ((eh218.2.1 125 (by decide)).trans ((eh211.2.1 125 (by decide)).trans (eh208.2.1 125 (by decide))))), (xGR_kept I.2.1 (fun c hc => ((eh218.2.1 c (Ne.symm (xk_nc hc rfl))).trans ((eh211.2.1 c (Ne.symm (xk_nc hc rfl))).trans (eh208.2.1 c (Ne.symm (xk_nc hc rfl)))))) ((eh218.2.1 127 (by decide)).trans ((eh211.2.1 127 (by decide)).trans (eh208.2.1 127 (by decide))))), ((xl_of A221 rfl).trans (xl_of A222 rfl).symm)⟩
            · refine xi_iff (pc' := 24) kc_103_21 rfl (xc_ge_f (X := a23.toInt) (Y := 0) rfl (by decide) (by omega)) ?_
              refine xi_aload_n (pc' := 25) (x := 0) kc_103_24 rfl rfl ?_
              refine xi_bipush (pc' := 27) (v := (-4)) kc_103_25 rfl rfl ?_
              refine xi_virtual (mj := 90) (as := [.int (-4)]) (st1 := []) (lv0 := [(0, .ref 0), (1, .int (-4))]) kc_103_27 rfl rfl rfl rfl rfl A29 (Nat.le_of_ble_eq_true rfl) (hJ _ _ _ _ (by decide)) (xm_le ml_90 rfl) rfl ?_
              refine xi_iload_n (pc' := 1) (x := (-4)) kc_90_0 rfl rfl ?_
              refine xi_ineg (pc' := 2) (v := 4) kc_90_1 rfl rfl ?_
              refine xi_istore_n (pc' := 3) (lv' := [(2, .int 4), (0, .ref 0), (1, .int (-4))]) kc_90_2 rfl rfl (xm_lt ml_90 rfl) ?_
              refine xi_iload_n (pc' := 4) (x := 4) kc_90_3 rfl rfl ?_
              refine xi_iff (pc' := 7) kc_90_4 rfl rfl ?_
              refine xi_iload_n (pc' := 8) (x := 4) kc_90_7 rfl rfl ?_
              refine xi_aload_n (pc' := 9) (x := 0) kc_90_8 rfl rfl ?_
              refine xi_getfield (pc' := 12) (v := .ref 94) kc_90_9 rfl rfl rfl A29 rfl ?_
              obtain ⟨y223, A223, hy223, ry223⟩ := xk_arr K.1 xD_94
              refine xi_arraylength (pc' := 13) (n := 7) (v := 7) kc_90_12 rfl (xl_lenI (by decide) (by decide) A223 hy223) rfl ?_
              refine xi_cmf (pc' := 16) kc_90_13 rfl rfl ?_
              refine xi_aload_n (pc' := 17) (x := 0) kc_90_16 rfl rfl ?_
              refine xi_getfield (pc' := 20) (v := .ref 94) kc_90_17 rfl rfl rfl A29 rfl ?_
              refine xi_iload_n (pc' := 21) (x := 4) kc_90_20 rfl rfl ?_
              refine xi_dup2 (pc' := 22) kc_90_21 rfl ⟨rfl, rfl⟩ ?_
              obtain ⟨v224, ev224, bv224, dv224⟩ := xj_get hy223 ry223 (i := 4) (by decide) (by decide)
              refine xi_iaload (pc' := 23) (v := v224) kc_90_22 rfl A223 (by decide) rfl (xi_in (by decide) (by rw [hy223]; decide)) ev224 ?_
              refine xi_iconst (pc' := 24) (v := 1) kc_90_23 rfl rfl ?_
              obtain ⟨v225, ev225⟩ : ∃ q : Int32, (v224 : Int32) + 1 = q := ⟨_, rfl⟩
              have rv225 := xc_rng v225
              refine xi_iadd (pc' := 25) (v := v225) kc_90_24 rfl ev225 ?_
              obtain ⟨y226, s226, hy226, ry226⟩ := xj_set (v := v225) hy223 ry223 4 (by first | omega | decide) (by first | omega | decide)
              refine xi_iastore (pc' := 26) (x' := y226) kc_90_25 rfl A223 rfl (xi_in (by decide) (by rw [hy223]; decide)) s226 (fun hh226 eh226 => ?_)
              have K227 := xk_pa K (xk_wa rfl) xD_94 hy226 ry226 eh226
              refine xi_iload_n (pc' := 27) (x := (-4)) kc_90_26 rfl rfl ?_
              refine xi_ireturn kc_90_27 mr_90 rfl ?_
              show xw J ov 99 103 (30, [(0, .ref 0), (1, .int a19), (2, .int a21), (3, .int a23), (4, .int 0)], [.int (-4)], hh226) _
              refine xi_ireturn kc_103_30 mr_103 rfl ?_
              show xw J ov 100 195 (437, [(4, .int x4), (3, .ref 167), (2, .ref 115), (1, .ref 0), (0, .ref 1000000)], [.int (-4)], hh226) _
              refine xi_pop (pc' := 438) kc_195_437 rfl rfl ?_
              refine xi_aload_n (pc' := 439) (x := 115) kc_195_438 rfl rfl ?_
              refine xi_aload_n (pc' := 440) (x := 1000000) kc_195_439 rfl rfl ?_
              refine xi_iload (pc' := 442) (x := x4) kc_195_440 rfl rfl ?_
              refine xi_iconst (pc' := 443) (v := 1) kc_195_442 rfl rfl ?_
              refine xi_iadd (pc' := 444) (v := v18) kc_195_443 rfl ev18 ?_
              refine xi_ialoadO (pc' := 445) (v := a19) kc_195_444 rfl (by decide) hov0 (xi_in (by omega) (by omega)) ea19 ?_
              refine xi_aload_n (pc' := 446) (x := 1000000) kc_195_445 rfl rfl ?_
              refine xi_iload (pc' := 448) (x := x4) kc_195_446 rfl rfl ?_
              refine xi_iconst (pc' := 449) (v := 2) kc_195_448 rfl rfl ?_
              refine xi_iadd (pc' := 450) (v := v20) kc_195_449 rfl ev20 ?_
              refine xi_ialoadO (pc' := 451) (v := a21) kc_195_450 rfl (by decide) hov0 (xi_in (by omega) (by omega)) ea21 ?_
              refine xi_aload_n (pc' := 452) (x := 1000000) kc_195_451 rfl rfl ?_
              refine xi_iload (pc' := 454) (x := x4) kc_195_452 rfl rfl ?_
              refine xi_iconst (pc' := 455) (v := 3) kc_195_454 rfl rfl ?_
              refine xi_iadd (pc' := 456) (v := v22) kc_195_455 rfl ev22 ?_
              refine xi_ialoadO (pc' := 457) (v := a23) kc_195_456 rfl (by decide) hov0 (xi_in (by omega) (by omega)) ea23 ?_
              refine xi_aload_n (pc' := 458) (x := 1000000) kc_195_457 rfl rfl ?_
              refine xi_iload (pc' := 460) (x := x4) kc_195_458 rfl rfl ?_
              refine xi_iconst (pc' := 461) (v := 4) kc_195_460 rfl rfl ?_
              refine xi_iadd (pc' := 462) (v := v24) kc_195_461 rfl ev24 ?_
              refine xi_ialoadO (pc' := 463) (v := a25) kc_195_462 rfl (by decide) hov0 (xi_in (by omega) (by omega)) ea25 ?_
              refine xi_ift (pc' := 470) kc_195_463 rfl (xc_eq_t (X := a25.toInt) (Y := 0) rfl (by decide) (by omega)) ?_
              refine xi_iconst (pc' := 471) (v := 0) kc_195_470 rfl rfl ?_
              have A228 := ((eh226.2.1 115 (by decide)).trans A17)
              refine xi_virtual (mj := 23) (as := [.int a19, .int a21, .int a23, .int 0]) (st1 := []) (lv0 := [(0, .ref 115), (1, .int a19), (2, .int a21), (3, .int a23), (4, .int 0)]) kc_195_471 rfl rfl rfl rfl rfl A228 (Nat.le_of_ble_eq_true rfl) (hJ _ _ _ _ (by decide)) (xm_le ml_23 rfl) rfl ?_
              refine xi_aload_n (pc' := 1) (x := 115) kc_23_0 rfl rfl ?_
              refine xi_iconst (pc' := 2) (v := 0) kc_23_1 rfl rfl ?_
              refine xi_putfield (pc' := 5) (fs' := [.int 0, .int u5, .ref 116, .ref 117, .ref 118, .ref 119, .ref 120, .ref 121, .ref 122, .ref 123, .ref 124, .ref 125, .ref 126, .ref 127, .ref 128, .ref 129, .int u6, .ref 130, .int u7, .ref 131, .ref 132, .ref 133, .ref 134, .int u1, .ref 135, .ref 136, .ref 137, .ref 138, .ref 139, .ref 140, .ref 141, .ref 142, .int u9, .int u10, .int u11, .ref 143, .ref 144, .ref 145, .ref 146, .ref 147, .ref 148, .int u12, .ref 149, .ref 150, .ref 151, .int u13, .ref 152, .ref 153, .ref 154, .ref 155, .ref 156, .ref 157, .ref 158, .ref 159, .int u14, .ref 160, .int u15, .ref 161, .ref 162, .ref 163, .ref 164, .int u16, .ref 165, .ref 166]) kc_23_2 rfl rfl rfl A228 rfl rfl rfl (Nat.le_of_ble_eq_true rfl) rfl (fun hh230 eh229 => ?_)
              have K231 := xk_pf (k := 0) (v := 0) K227 (xk_wf rfl) xD_115 A228 rfl (by first | omega | decide) (by first | omega | decide) eh229 rfl
              refine xi_iload_n (pc' := 6) (x := a19) kc_23_5 rfl rfl ?_
              refine xi_static (mj := 24) (as := [.int a19]) (st1 := []) (lv0 := [(0, .int a19)]) kc_23_6 rfl rfl (Nat.le_of_ble_eq_true rfl) rfl rfl (Nat.le_of_ble_eq_true rfl) (hJ _ _ _ _ (by decide)) (xm_le ml_24 rfl) rfl ?_
              refine xi_iload_n (pc' := 1) (x := a19) kc_24_0 rfl rfl ?_
              refine xi_iconst (pc' := 2) (v := 0) kc_24_1 rfl rfl ?_
              refine xi_bipush (pc' := 4) (v := 11) kc_24_2 rfl rfl ?_
              refine xi_static (mj := 11) (as := [.int a19, .int 0, .int 11]) (st1 := []) (lv0 := [(0, .int a19), (1, .int 0), (2, .int 11)]) kc_24_4 rfl rfl (Nat.le_of_ble_eq_true rfl) rfl rfl (Nat.le_of_ble_eq_true rfl) (hJ _ _ _ _ (by decide)) (xm_le ml_11 rfl) rfl ?_
              refine xi_iload_n (pc' := 1) (x := a19) kc_11_0 rfl rfl ?_
              refine xi_iload_n (pc' := 2) (x := 0) kc_11_1 rfl rfl ?_
              refine xi_cmf (pc' := 5) kc_11_2 rfl (xc_lt_f (X := a19.toInt) (Y := 0) rfl (by decide) (by omega)) ?_
              refine xi_iload_n (pc' := 6) (x := a19) kc_11_5 rfl rfl ?_
              refine xi_iload_n (pc' := 7) (x := 11) kc_11_6 rfl rfl ?_
              refine xi_cmf (pc' := 10) kc_11_7 rfl (xc_gt_f (X := a19.toInt) (Y := 11) rfl (by decide) (by omega)) ?_
              refine xi_iconst (pc' := 11) (v := 1) kc_11_10 rfl rfl ?_
              refine xi_goto (pc' := 15) kc_11_11 rfl ?_
              refine xi_ireturn kc_11_15 mr_11 rfl ?_
              show xw J ov 98 24 (7, [(0, .int a19)], [.int 1], hh230) _
              refine xi_ireturn kc_24_7 mr_24 rfl ?_
              show xw J ov 99 23 (9, [(0, .ref 115), (1, .int a19), (2, .int a21), (3, .int a23), (4, .int 0)], [.int 1], hh230) _
              refine xi_iff (pc' := 12) kc_23_9 rfl rfl ?_
              refine xi_iload_n (pc' := 13) (x := a21) kc_23_12 rfl rfl ?_
              refine xi_static (mj := 10) (as := [.int a21]) (st1 := []) (lv0 := [(0, .int a21)]) kc_23_13 rfl rfl (Nat.le_of_ble_eq_true rfl) rfl rfl (Nat.le_of_ble_eq_true rfl) (hJ _ _ _ _ (by decide)) (xm_le ml_10 rfl) rfl ?_
              refine xi_iload_n (pc' := 1) (x := a21) kc_10_0 rfl rfl ?_
              refine xi_iconst (pc' := 2) (v := 0) kc_10_1 rfl rfl ?_
              refine xi_iconst (pc' := 3) (v := 5) kc_10_2 rfl rfl ?_
              refine xi_static (mj := 11) (as := [.int a21, .int 0, .int 5]) (st1 := []) (lv0 := [(0, .int a21), (1, .int 0), (2, .int 5)]) kc_10_3 rfl rfl (Nat.le_of_ble_eq_true rfl) rfl rfl (Nat.le_of_ble_eq_true rfl) (hJ _ _ _ _ (by decide)) (xm_le ml_11 rfl) rfl ?_
              refine xi_iload_n (pc' := 1) (x := a21) kc_11_0 rfl rfl ?_
              refine xi_iload_n (pc' := 2) (x := 0) kc_11_1 rfl rfl ?_
              refine xi_cmf (pc' := 5) kc_11_2 rfl (xc_lt_f (X := a21.toInt) (Y := 0) rfl (by decide) (by omega)) ?_
              refine xi_iload_n (pc' := 6) (x := a21) kc_11_5 rfl rfl ?_
              refine xi_iload_n (pc' := 7) (x := 5) kc_11_6 rfl rfl ?_
              refine xi_cmf (pc' := 10) kc_11_7 rfl (xc_gt_f (X := a21.toInt) (Y := 5) rfl (by decide) (by omega)) ?_
              refine xi_iconst (pc' := 11) (v := 1) kc_11_10 rfl rfl ?_
              refine xi_goto (pc' := 15) kc_11_11 rfl ?_
              refine xi_ireturn kc_11_15 mr_11 rfl ?_
              show xw J ov 98 10 (6, [(0, .int a21)], [.int 1], hh230) _
              refine xi_ireturn kc_10_6 mr_10 rfl ?_
              show xw J ov 99 23 (16, [(0, .ref 115), (1, .int a19), (2, .int a21), (3, .int a23), (4, .int 0)], [.int 1], hh230) _
              refine xi_ift (pc' := 25) kc_23_16 rfl rfl ?_
              refine xi_iload_n (pc' := 26) (x := a23) kc_23_25 rfl rfl ?_
              refine xi_iff (pc' := 29) kc_23_26 rfl (xc_ge_f (X := a23.toInt) (Y := 0) rfl (by decide) (by omega)) ?_
              refine xi_aload_n (pc' := 30) (x := 115) kc_23_29 rfl rfl ?_
              refine xi_bipush (pc' := 32) (v := (-4)) kc_23_30 rfl rfl ?_
              refine xi_virtual (mj := 12) (as := [.int (-4)]) (st1 := []) (lv0 := [(0, .ref 115), (1, .int (-4))]) kc_23_32 rfl rfl rfl rfl rfl eh229.1 (Nat.le_of_ble_eq_true rfl) (hJ _ _ _ _ (by decide)) (xm_le ml_12 rfl) rfl ?_
              refine xi_aload_n (pc' := 1) (x := 115) kc_12_0 rfl rfl ?_
              refine xi_getfield (pc' := 4) (v := .ref 140) kc_12_1 rfl rfl rfl eh229.1 rfl ?_
              refine xi_iload_n (pc' := 5) (x := (-4)) kc_12_4 rfl rfl ?_
              refine xi_ineg (pc' := 6) (v := 4) kc_12_5 rfl rfl ?_
              refine xi_dup2 (pc' := 7) kc_12_6 rfl ⟨rfl, rfl⟩ ?_
              obtain ⟨y232, A232, hy232, ry232⟩ := xk_arr K.1 xD_140
              obtain ⟨v233, ev233, bv233, dv233⟩ := xj_get hy232 ry232 (i := 4) (by decide) (by decide)
              have A234 := ((eh229.2.1 140 (by decide)).trans ((eh226.2.1 140 (by decide)).trans A232))
              refine xi_iaload (pc' := 8) (v := v233) kc_12_7 rfl A234 (by decide) rfl (xi_in (by decide) (by rw [hy232]; decide)) ev233 ?_
              refine xi_iconst (pc' := 9) (v := 1) kc_12_8 rfl rfl ?_
              obtain ⟨v235, ev235⟩ : ∃ q : Int32, (v233 : Int32) + 1 = q := ⟨_, rfl⟩
              have rv235 := xc_rng v235
              refine xi_iadd (pc' := 10) (v := v235) kc_12_9 rfl ev235 ?_
              obtain ⟨y236, s236, hy236, ry236⟩ := xj_set (v := v235) hy232 ry232 4 (by first | omega | decide) (by first | omega | decide)
              refine xi_iastore (pc' := 11) (x' := y236) kc_12_10 rfl A234 rfl (xi_in (by decide) (by rw [hy232]; decide)) s236 (fun hh236 eh236 => ?_)
              have K237 := xk_pa K231 (xk_wa rfl) xD_140 hy236 ry236 eh236
              refine xi_iload_n (pc' := 12) (x := (-4)) kc_12_11 rfl rfl ?_
              refine xi_ireturn kc_12_12 mr_12 rfl ?_
              show xw J ov 99 23 (35, [(0, .ref 115), (1, .int a19), (2, .int a21), (3, .int a23), (4, .int 0)], [.int (-4)], hh236) _
              refine xi_ireturn kc_23_35 mr_23 rfl ?_
              show xw J ov 100 195 (474, [(4, .int x4), (3, .ref 167), (2, .ref 115), (1, .ref 0), (0, .ref 1000000)], [.int (-4)], hh236) _
              refine xi_pop (pc' := 475) kc_195_474 rfl rfl ?_
              refine xi_goto (pc' := 1501) kc_195_475 rfl ?_
              obtain ⟨v238, ev238⟩ : ∃ q : Int32, x4 + 6 = q := ⟨_, rfl⟩
              have zv238 : v238.toInt = (x4.toInt + 6) := by rw [← ev238]; exact (xz_add (X := x4.toInt) (Y := 6) rfl (by decide) (by omega) (by omega)).trans (by omega)
              refine xi_iinc (pc' := 1504) (x := x4) (v := v238) (lv' := [(4, .int v238), (3, .ref 167), (2, .ref 115), (1, .ref 0), (0, .ref 1000000)]) kc_195_1501 rfl rfl ev238 rfl (xm_lt ml_195 rfl) ?_
              refine xi_goto (pc' := 23) kc_195_1504 rfl ?_
              have A239 := ((eh236.2.1 1 (by decide)).trans ((eh229.2.1 1 (by decide)).trans ((eh226.2.1 1 (by decide)).trans A3)))
              have A240 := ((eh236.2.1 115 (by decide)).trans eh229.1)
              exact kk v238 hh236 (by omega) K237 ⟨(xGR_kept I.1 (fun c hc => ((eh236.2.1 c (Ne.symm (xk_nc hc rfl))).trans ((eh229.2.1 c (Ne.symm (xk_nc hc rfl))).trans (eh226.2.1 c (Ne.symm (xk_nc hc rfl)))))) ((eh236.2.1 125 (by decide)).trans ((eh229.2.1 125 (by decide)).trans (eh226.2.1 125 (by decide))))), (xGR_kept I.2.1 (fun c hc => ((eh236.2.1 c (Ne.symm (xk_nc hc rfl))).trans ((eh229.2.1 c (Ne.symm (xk_nc hc rfl))).trans (eh226.2.1 c (Ne.symm (xk_nc hc rfl)))))) ((eh236.2.1 127 (by decide)).trans ((eh229.2.1 127 (by decide)).trans (eh226.2.1 127 (by decide))))), ((xl_of A239 rfl).trans (xl_of A240 rfl).symm)⟩
  · refine xi_iff (pc' := 429) kc_195_426 rfl (xc_eq_f (X := a25.toInt) (Y := 0) rfl (by decide) (by omega)) ?_
    refine xi_iconst (pc' := 430) (v := 1) kc_195_429 rfl rfl ?_
    refine xi_goto (pc' := 434) kc_195_430 rfl ?_
    obtain ⟨u241, u242, bu241, bu242, A243⟩ := xq_0 K.1
    refine xi_virtual (mj := 103) (as := [.int a19, .int a21, .int a23, .int 1]) (st1 := []) (lv0 := [(0, .ref 0), (1, .int a19), (2, .int a21), (3, .int a23), (4, .int 1)]) kc_195_434 rfl rfl rfl rfl rfl A243 (Nat.le_of_ble_eq_true rfl) (hJ _ _ _ _ (by decide)) (xm_le ml_103 rfl) rfl ?_
    refine xi_iload_n (pc' := 1) (x := a19) kc_103_0 rfl rfl ?_
    refine xi_static (mj := 104) (as := [.int a19]) (st1 := []) (lv0 := [(0, .int a19)]) kc_103_1 rfl rfl (Nat.le_of_ble_eq_true rfl) rfl rfl (Nat.le_of_ble_eq_true rfl) (hJ _ _ _ _ (by decide)) (xm_le ml_104 rfl) rfl ?_
    refine xi_iload_n (pc' := 1) (x := a19) kc_104_0 rfl rfl ?_
    by_cases c244 : a19.toInt < 0
    · refine xi_ift (pc' := 14) kc_104_1 rfl (xc_lt_t (X := a19.toInt) (Y := 0) rfl (by decide) (by omega)) ?_
      refine xi_iconst (pc' := 15) (v := 0) kc_104_14 rfl rfl ?_
      refine xi_ireturn kc_104_15 mr_104 rfl ?_
      show xw J ov 99 103 (4, [(0, .ref 0), (1, .int a19), (2, .int a21), (3, .int a23), (4, .int 1)], [.int 0], h) _
      refine xi_ift (pc' := 14) kc_103_4 rfl rfl ?_
      refine xi_aload_n (pc' := 15) (x := 0) kc_103_14 rfl rfl ?_
      refine xi_iconst (pc' := 16) (v := (-1)) kc_103_15 rfl rfl ?_
      refine xi_virtual (mj := 90) (as := [.int (-1)]) (st1 := []) (lv0 := [(0, .ref 0), (1, .int (-1))]) kc_103_16 rfl rfl rfl rfl rfl A243 (Nat.le_of_ble_eq_true rfl) (hJ _ _ _ _ (by decide)) (xm_le ml_90 rfl) rfl ?_
      refine xi_iload_n (pc' := 1) (x := (-1)) kc_90_0 rfl rfl ?_
      refine xi_ineg (pc' := 2) (v := 1) kc_90_1 rfl rfl ?_
      refine xi_istore_n (pc' := 3) (lv' := [(2, .int 1), (0, .ref 0), (1, .int (-1))]) kc_90_2 rfl rfl (xm_lt ml_90 rfl) ?_
      refine xi_iload_n (pc' := 4) (x := 1) kc_90_3 rfl rfl ?_
      refine xi_iff (pc' := 7) kc_90_4 rfl rfl ?_
      refine xi_iload_n (pc' := 8) (x := 1) kc_90_7 rfl rfl ?_
      refine xi_aload_n (pc' := 9) (x := 0) kc_90_8 rfl rfl ?_
      refine xi_getfield (pc' := 12) (v := .ref 94) kc_90_9 rfl rfl rfl A243 rfl ?_
      obtain ⟨y245, A245, hy245, ry245⟩ := xk_arr K.1 xD_94
      refine xi_arraylength (pc' := 13) (n := 7) (v := 7) kc_90_12 rfl (xl_lenI (by decide) (by decide) A245 hy245) rfl ?_
      refine xi_cmf (pc' := 16) kc_90_13 rfl rfl ?_
      refine xi_aload_n (pc' := 17) (x := 0) kc_90_16 rfl rfl ?_
      refine xi_getfield (pc' := 20) (v := .ref 94) kc_90_17 rfl rfl rfl A243 rfl ?_
      refine xi_iload_n (pc' := 21) (x := 1) kc_90_20 rfl rfl ?_
      refine xi_dup2 (pc' := 22) kc_90_21 rfl ⟨rfl, rfl⟩ ?_
      obtain ⟨v246, ev246, bv246, dv246⟩ := xj_get hy245 ry245 (i := 1) (by decide) (by decide)
      refine xi_iaload (pc' := 23) (v := v246) kc_90_22 rfl A245 (by decide) rfl (xi_in (by decide) (by rw [hy245]; decide)) ev246 ?_
      refine xi_iconst (pc' := 24) (v := 1) kc_90_23 rfl rfl ?_
      obtain ⟨v247, ev247⟩ : ∃ q : Int32, (v246 : Int32) + 1 = q := ⟨_, rfl⟩
      have rv247 := xc_rng v247
      refine xi_iadd (pc' := 25) (v := v247) kc_90_24 rfl ev247 ?_
      obtain ⟨y248, s248, hy248, ry248⟩ := xj_set (v := v247) hy245 ry245 1 (by first | omega | decide) (by first | omega | decide)
      refine xi_iastore (pc' := 26) (x' := y248) kc_90_25 rfl A245 rfl (xi_in (by decide) (by rw [hy245]; decide)) s248 (fun hh248 eh248 => ?_)
      have K249 := xk_pa K (xk_wa rfl) xD_94 hy248 ry248 eh248
      refine xi_iload_n (pc' := 27) (x := (-1)) kc_90_26 rfl rfl ?_
      refine xi_ireturn kc_90_27 mr_90 rfl ?_
      show xw J ov 99 103 (19, [(0, .ref 0), (1, .int a19), (2, .int a21), (3, .int a23), (4, .int 1)], [.int (-1)], hh248) _
      refine xi_ireturn kc_103_19 mr_103 rfl ?_
      show xw J ov 100 195 (437, [(4, .int x4), (3, .ref 167), (2, .ref 115), (1, .ref 0), (0, .ref 1000000)], [.int (-1)], hh248) _
      refine xi_pop (pc' := 438) kc_195_437 rfl rfl ?_
      refine xi_aload_n (pc' := 439) (x := 115) kc_195_438 rfl rfl ?_
      refine xi_aload_n (pc' := 440) (x := 1000000) kc_195_439 rfl rfl ?_
      refine xi_iload (pc' := 442) (x := x4) kc_195_440 rfl rfl ?_
      refine xi_iconst (pc' := 443) (v := 1) kc_195_442 rfl rfl ?_
      refine xi_iadd (pc' := 444) (v := v18) kc_195_443 rfl ev18 ?_
      refine xi_ialoadO (pc' := 445) (v := a19) kc_195_444 rfl (by decide) hov0 (xi_in (by omega) (by omega)) ea19 ?_
      refine xi_aload_n (pc' := 446) (x := 1000000) kc_195_445 rfl rfl ?_
      refine xi_iload (pc' := 448) (x := x4) kc_195_446 rfl rfl ?_
      refine xi_iconst (pc' := 449) (v := 2) kc_195_448 rfl rfl ?_
      refine xi_iadd (pc' := 450) (v := v20) kc_195_449 rfl ev20 ?_
      refine xi_ialoadO (pc' := 451) (v := a21) kc_195_450 rfl (by decide) hov0 (xi_in (by omega) (by omega)) ea21 ?_
      refine xi_aload_n (pc' := 452) (x := 1000000) kc_195_451 rfl rfl ?_
      refine xi_iload (pc' := 454) (x := x4) kc_195_452 rfl rfl ?_
      refine xi_iconst (pc' := 455) (v := 3) kc_195_454 rfl rfl ?_
      refine xi_iadd (pc' := 456) (v := v22) kc_195_455 rfl ev22 ?_
      refine xi_ialoadO (pc' := 457) (v := a23) kc_195_456 rfl (by decide) hov0 (xi_in (by omega) (by omega)) ea23 ?_
      refine xi_aload_n (pc' := 458) (x := 1000000) kc_195_457 rfl rfl ?_
      refine xi_iload (pc' := 460) (x := x4) kc_195_458 rfl rfl ?_
      refine xi_iconst (pc' := 461) (v := 4) kc_195_460 rfl rfl ?_
      refine xi_iadd (pc' := 462) (v := v24) kc_195_461 rfl ev24 ?_
      refine xi_ialoadO (pc' := 463) (v := a25) kc_195_462 rfl (by decide) hov0 (xi_in (by omega) (by omega)) ea25 ?_
      refine xi_iff (pc' := 466) kc_195_463 rfl (xc_eq_f (X := a25.toInt) (Y := 0) rfl (by decide) (by omega)) ?_
      refine xi_iconst (pc' := 467) (v := 1) kc_195_466 rfl rfl ?_
      refine xi_goto (pc' := 471) kc_195_467 rfl ?_
      have A250 := ((eh248.2.1 115 (by decide)).trans A17)
      refine xi_virtual (mj := 23) (as := [.int a19, .int a21, .int a23, .int 1]) (st1 := []) (lv0 := [(0, .ref 115), (1, .int a19), (2, .int a21), (3, .int a23), (4, .int 1)]) kc_195_471 rfl rfl rfl rfl rfl A250 (Nat.le_of_ble_eq_true rfl) (hJ _ _ _ _ (by decide)) (xm_le ml_23 rfl) rfl ?_
      refine xi_aload_n (pc' := 1) (x := 115) kc_23_0 rfl rfl ?_
      refine xi_iconst (pc' := 2) (v := 0) kc_23_1 rfl rfl ?_
      refine xi_putfield (pc' := 5) (fs' := [.int 0, .int u5, .ref 116, .ref 117, .ref 118, .ref 119, .ref 120, .ref 121, .ref 122, .ref 123, .ref 124, .ref 125, .ref 126, .ref 127, .ref 128, .ref 129, .int u6, .ref 130, .int u7, .ref 131, .ref 132, .ref 133, .ref 134, .int u1, .ref 135, .ref 136, .ref 137, .ref 138, .ref 139, .ref 140, .ref 141, .ref 142, .int u9, .int u10, .int u11, .ref 143, .ref 144, .ref 145, .ref 146, .ref 147, .ref 148, .int u12, .ref 149, .ref 150, .ref 151, .int u13, .ref 152, .ref 153, .ref 154, .ref 155, .ref 156, .ref 157, .ref 158, .ref 159, .int u14, .ref 160, .int u15, .ref 161, .ref 162, .ref 163, .ref 164, .int u16, .ref 165, .ref 166]) kc_23_2 rfl rfl rfl A250 rfl rfl rfl (Nat.le_of_ble_eq_true rfl) rfl (fun hh252 eh251 => ?_)
      have K253 := xk_pf (k := 0) (v := 0) K249 (xk_wf rfl) xD_115 A250 rfl (by first | omega | decide) (by first | omega | decide) eh251 rfl
      refine xi_iload_n (pc' := 6) (x := a19) kc_23_5 rfl rfl ?_
      refine xi_static (mj := 24) (as := [.int a19]) (st1 := []) (lv0 := [(0, .int a19)]) kc_23_6 rfl rfl (Nat.le_of_ble_eq_true rfl) rfl rfl (Nat.le_of_ble_eq_true rfl) (hJ _ _ _ _ (by decide)) (xm_le ml_24 rfl) rfl ?_
      refine xi_iload_n (pc' := 1) (x := a19) kc_24_0 rfl rfl ?_
      refine xi_iconst (pc' := 2) (v := 0) kc_24_1 rfl rfl ?_
      refine xi_bipush (pc' := 4) (v := 11) kc_24_2 rfl rfl ?_
      refine xi_static (mj := 11) (as := [.int a19, .int 0, .int 11]) (st1 := []) (lv0 := [(0, .int a19), (1, .int 0), (2, .int 11)]) kc_24_4 rfl rfl (Nat.le_of_ble_eq_true rfl) rfl rfl (Nat.le_of_ble_eq_true rfl) (hJ _ _ _ _ (by decide)) (xm_le ml_11 rfl) rfl ?_
      refine xi_iload_n (pc' := 1) (x := a19) kc_11_0 rfl rfl ?_
      refine xi_iload_n (pc' := 2) (x := 0) kc_11_1 rfl rfl ?_
      refine xi_cmt (pc' := 14) kc_11_2 rfl (xc_lt_t (X := a19.toInt) (Y := 0) rfl (by decide) (by omega)) ?_
      refine xi_iconst (pc' := 15) (v := 0) kc_11_14 rfl rfl ?_
      refine xi_ireturn kc_11_15 mr_11 rfl ?_
      show xw J ov 98 24 (7, [(0, .int a19)], [.int 0], hh252) _
      refine xi_ireturn kc_24_7 mr_24 rfl ?_
      show xw J ov 99 23 (9, [(0, .ref 115), (1, .int a19), (2, .int a21), (3, .int a23), (4, .int 1)], [.int 0], hh252) _
      refine xi_ift (pc' := 19) kc_23_9 rfl rfl ?_
      refine xi_aload_n (pc' := 20) (x := 115) kc_23_19 rfl rfl ?_
      refine xi_iconst (pc' := 21) (v := (-1)) kc_23_20 rfl rfl ?_
      refine xi_virtual (mj := 12) (as := [.int (-1)]) (st1 := []) (lv0 := [(0, .ref 115), (1, .int (-1))]) kc_23_21 rfl rfl rfl rfl rfl eh251.1 (Nat.le_of_ble_eq_true rfl) (hJ _ _ _ _ (by decide)) (xm_le ml_12 rfl) rfl ?_
      refine xi_aload_n (pc' := 1) (x := 115) kc_12_0 rfl rfl ?_
      refine xi_getfield (pc' := 4) (v := .ref 140) kc_12_1 rfl rfl rfl eh251.1 rfl ?_
      refine xi_iload_n (pc' := 5) (x := (-1)) kc_12_4 rfl rfl ?_
      refine xi_ineg (pc' := 6) (v := 1) kc_12_5 rfl rfl ?_
      refine xi_dup2 (pc' := 7) kc_12_6 rfl ⟨rfl, rfl⟩ ?_
      obtain ⟨y254, A254, hy254, ry254⟩ := xk_arr K.1 xD_140
      obtain ⟨v255, ev255, bv255, dv255⟩ := xj_get hy254 ry254 (i := 1) (by decide) (by decide)
      have A256 := ((eh251.2.1 140 (by decide)).trans ((eh248.2.1 140 (by decide)).trans A254))
      refine xi_iaload (pc' := 8) (v := v255) kc_12_7 rfl A256 (by decide) rfl (xi_in (by decide) (by rw [hy254]; decide)) ev255 ?_
      refine xi_iconst (pc' := 9) (v := 1) kc_12_8 rfl rfl ?_
      obtain ⟨v257, ev257⟩ : ∃ q : Int32, (v255 : Int32) + 1 = q := ⟨_, rfl⟩
      have rv257 := xc_rng v257
      refine xi_iadd (pc' := 10) (v := v257) kc_12_9 rfl ev257 ?_
      obtain ⟨y258, s258, hy258, ry258⟩ := xj_set (v := v257) hy254 ry254 1 (by first | omega | decide) (by first | omega | decide)
      refine xi_iastore (pc' := 11) (x' := y258) kc_12_10 rfl A256 rfl (xi_in (by decide) (by rw [hy254]; decide)) s258 (fun hh258 eh258 => ?_)
      have K259 := xk_pa K253 (xk_wa rfl) xD_140 hy258 ry258 eh258
      refine xi_iload_n (pc' := 12) (x := (-1)) kc_12_11 rfl rfl ?_
      refine xi_ireturn kc_12_12 mr_12 rfl ?_
      show xw J ov 99 23 (24, [(0, .ref 115), (1, .int a19), (2, .int a21), (3, .int a23), (4, .int 1)], [.int (-1)], hh258) _
      refine xi_ireturn kc_23_24 mr_23 rfl ?_
      show xw J ov 100 195 (474, [(4, .int x4), (3, .ref 167), (2, .ref 115), (1, .ref 0), (0, .ref 1000000)], [.int (-1)], hh258) _
      refine xi_pop (pc' := 475) kc_195_474 rfl rfl ?_
      refine xi_goto (pc' := 1501) kc_195_475 rfl ?_
      obtain ⟨v260, ev260⟩ : ∃ q : Int32, x4 + 6 = q := ⟨_, rfl⟩
      have zv260 : v260.toInt = (x4.toInt + 6) := by rw [← ev260]; exact (xz_add (X := x4.toInt) (Y := 6) rfl (by decide) (by omega) (by omega)).trans (by omega)
      refine xi_iinc (pc' := 1504) (x := x4) (v := v260) (lv' := [(4, .int v260), (3, .ref 167), (2, .ref 115), (1, .ref 0), (0, .ref 1000000)]) kc_195_1501 rfl rfl ev260 rfl (xm_lt ml_195 rfl) ?_
      refine xi_goto (pc' := 23) kc_195_1504 rfl ?_
      have A261 := ((eh258.2.1 1 (by decide)).trans ((eh251.2.1 1 (by decide)).trans ((eh248.2.1 1 (by decide)).trans A3)))
      have A262 := ((eh258.2.1 115 (by decide)).trans eh251.1)
      exact kk v260 hh258 (by omega) K259 ⟨(xGR_kept I.1 (fun c hc => ((eh258.2.1 c (Ne.symm (xk_nc hc rfl))).trans ((eh251.2.1 c (Ne.symm (xk_nc hc rfl))).trans (eh248.2.1 c (Ne.symm (xk_nc hc rfl)))))) ((eh258.2.1 125 (by decide)).trans ((eh251.2.1 125 (by decide)).trans (eh248.2.1 125 (by decide))))), (xGR_kept I.2.1 (fun c hc => ((eh258.2.1 c (Ne.symm (xk_nc hc rfl))).trans ((eh251.2.1 c (Ne.symm (xk_nc hc rfl))).trans (eh248.2.1 c (Ne.symm (xk_nc hc rfl)))))) ((eh258.2.1 127 (by decide)).trans ((eh251.2.1 127 (by decide)).trans (eh248.2.1 127 (by decide))))), ((xl_of A261 rfl).trans (xl_of A262 rfl).symm)⟩
    · refine xi_iff (pc' := 4) kc_104_1 rfl (xc_lt_f (X := a19.toInt) (Y := 0) rfl (by decide) (by omega)) ?_
      refine xi_iload_n (pc' := 5) (x := a19) kc_104_4 rfl rfl ?_
      refine xi_bipush (pc' := 7) (v := 12) kc_104_5 rfl rfl ?_
      by_cases c263 : 12 ≤ a19.toInt
      · refine xi_cmt (pc' := 14) kc_104_7 rfl (xc_ge_t (X := a19.toInt) (Y := 12) rfl (by decide) (by omega)) ?_
        refine xi_iconst (pc' := 15) (v := 0) kc_104_14 rfl rfl ?_
        refine xi_ireturn kc_104_15 mr_104 rfl ?_
        show xw J ov 99 103 (4, [(0, .ref 0), (1, .int a19), (2, .int a21), (3, .int a23), (4, .int 1)], [.int 0], h) _
        refine xi_ift (pc' := 14) kc_103_4 rfl rfl ?_
        refine xi_aload_n (pc' := 15) (x := 0) kc_103_14 rfl rfl ?_
        refine xi_iconst (pc' := 16) (v := (-1)) kc_103_15 rfl rfl ?_
        refine xi_virtual (mj := 90) (as := [.int (-1)]) (st1 := []) (lv0 := [(0, .ref 0), (1, .int (-1))]) kc_103_16 rfl rfl rfl rfl rfl A243 (Nat.le_of_ble_eq_true rfl) (hJ _ _ _ _ (by decide)) (xm_le ml_90 rfl) rfl ?_
        refine xi_iload_n (pc' := 1) (x := (-1)) kc_90_0 rfl rfl ?_
        refine xi_ineg (pc' := 2) (v := 1) kc_90_1 rfl rfl ?_
        refine xi_istore_n (pc' := 3) (lv' := [(2, .int 1), (0, .ref 0), (1, .int (-1))]) kc_90_2 rfl rfl (xm_lt ml_90 rfl) ?_
        refine xi_iload_n (pc' := 4) (x := 1) kc_90_3 rfl rfl ?_
        refine xi_iff (pc' := 7) kc_90_4 rfl rfl ?_
        refine xi_iload_n (pc' := 8) (x := 1) kc_90_7 rfl rfl ?_
        refine xi_aload_n (pc' := 9) (x := 0) kc_90_8 rfl rfl ?_
        refine xi_getfield (pc' := 12) (v := .ref 94) kc_90_9 rfl rfl rfl A243 rfl ?_
        obtain ⟨y264, A264, hy264, ry264⟩ := xk_arr K.1 xD_94
        refine xi_arraylength (pc' := 13) (n := 7) (v := 7) kc_90_12 rfl (xl_lenI (by decide) (by decide) A264 hy264) rfl ?_
        refine xi_cmf (pc' := 16) kc_90_13 rfl rfl ?_
        refine xi_aload_n (pc' := 17) (x := 0) kc_90_16 rfl rfl ?_
        refine xi_getfield (pc' := 20) (v := .ref 94) kc_90_17 rfl rfl rfl A243 rfl ?_
        refine xi_iload_n (pc' := 21) (x := 1) kc_90_20 rfl rfl ?_
        refine xi_dup2 (pc' := 22) kc_90_21 rfl ⟨rfl, rfl⟩ ?_
        obtain ⟨v265, ev265, bv265, dv265⟩ := xj_get hy264 ry264 (i := 1) (by decide) (by decide)
        refine xi_iaload (pc' := 23) (v := v265) kc_90_22 rfl A264 (by decide) rfl (xi_in (by decide) (by rw [hy264]; decide)) ev265 ?_
        refine xi_iconst (pc' := 24) (v := 1) kc_90_23 rfl rfl ?_
        obtain ⟨v266, ev266⟩ : ∃ q : Int32, (v265 : Int32) + 1 = q := ⟨_, rfl⟩
        have rv266 := xc_rng v266
        refine xi_iadd (pc' := 25) (v := v266) kc_90_24 rfl ev266 ?_
        obtain ⟨y267, s267, hy267, ry267⟩ := xj_set (v := v266) hy264 ry264 1 (by first | omega | decide) (by first | omega | decide)
        refine xi_iastore (pc' := 26) (x' := y267) kc_90_25 rfl A264 rfl (xi_in (by decide) (by rw [hy264]; decide)) s267 (fun hh267 eh267 => ?_)
        have K268 := xk_pa K (xk_wa rfl) xD_94 hy267 ry267 eh267
        refine xi_iload_n (pc' := 27) (x := (-1)) kc_90_26 rfl rfl ?_
        refine xi_ireturn kc_90_27 mr_90 rfl ?_
        show xw J ov 99 103 (19, [(0, .ref 0), (1, .int a19), (2, .int a21), (3, .int a23), (4, .int 1)], [.int (-1)], hh267) _
        refine xi_ireturn kc_103_19 mr_103 rfl ?_
        show xw J ov 100 195 (437, [(4, .int x4), (3, .ref 167), (2, .ref 115), (1, .ref 0), (0, .ref 1000000)], [.int (-1)], hh267) _
        refine xi_pop (pc' := 438) kc_195_437 rfl rfl ?_
        refine xi_aload_n (pc' := 439) (x := 115) kc_195_438 rfl rfl ?_
        refine xi_aload_n (pc' := 440) (x := 1000000) kc_195_439 rfl rfl ?_
        refine xi_iload (pc' := 442) (x := x4) kc_195_440 rfl rfl ?_
        refine xi_iconst (pc' := 443) (v := 1) kc_195_442 rfl rfl ?_
        refine xi_iadd (pc' := 444) (v := v18) kc_195_443 rfl ev18 ?_
        refine xi_ialoadO (pc' := 445) (v := a19) kc_195_444 rfl (by decide) hov0 (xi_in (by omega) (by omega)) ea19 ?_
        refine xi_aload_n (pc' := 446) (x := 1000000) kc_195_445 rfl rfl ?_
        refine xi_iload (pc' := 448) (x := x4) kc_195_446 rfl rfl ?_
        refine xi_iconst (pc' := 449) (v := 2) kc_195_448 rfl rfl ?_
        refine xi_iadd (pc' := 450) (v := v20) kc_195_449 rfl ev20 ?_
        refine xi_ialoadO (pc' := 451) (v := a21) kc_195_450 rfl (by decide) hov0 (xi_in (by omega) (by omega)) ea21 ?_
        refine xi_aload_n (pc' := 452) (x := 1000000) kc_195_451 rfl rfl ?_
        refine xi_iload (pc' := 454) (x := x4) kc_195_452 rfl rfl ?_
        refine xi_iconst (pc' := 455) (v := 3) kc_195_454 rfl rfl ?_
        refine xi_iadd (pc' := 456) (v := v22) kc_195_455 rfl ev22 ?_
        refine xi_ialoadO (pc' := 457) (v := a23) kc_195_456 rfl (by decide) hov0 (xi_in (by omega) (by omega)) ea23 ?_
        refine xi_aload_n (pc' := 458) (x := 1000000) kc_195_457 rfl rfl ?_
        refine xi_iload (pc' := 460) (x := x4) kc_195_458 rfl rfl ?_
        refine xi_iconst (pc' := 461) (v := 4) kc_195_460 rfl rfl ?_
        refine xi_iadd (pc' := 462) (v := v24) kc_195_461 rfl ev24 ?_
        refine xi_ialoadO (pc' := 463) (v := a25) kc_195_462 rfl (by decide) hov0 (xi_in (by omega) (by omega)) ea25 ?_
        refine xi_iff (pc' := 466) kc_195_463 rfl (xc_eq_f (X := a25.toInt) (Y := 0) rfl (by decide) (by omega)) ?_
        refine xi_iconst (pc' := 467) (v := 1) kc_195_466 rfl rfl ?_
        refine xi_goto (pc' := 471) kc_195_467 rfl ?_
        have A269 := ((eh267.2.1 115 (by decide)).trans A17)
        refine xi_virtual (mj := 23) (as := [.int a19, .int a21, .int a23, .int 1]) (st1 := []) (lv0 := [(0, .ref 115), (1, .int a19), (2, .int a21), (3, .int a23), (4, .int 1)]) kc_195_471 rfl rfl rfl rfl rfl A269 (Nat.le_of_ble_eq_true rfl) (hJ _ _ _ _ (by decide)) (xm_le ml_23 rfl) rfl ?_
        refine xi_aload_n (pc' := 1) (x := 115) kc_23_0 rfl rfl ?_
        refine xi_iconst (pc' := 2) (v := 0) kc_23_1 rfl rfl ?_
        refine xi_putfield (pc' := 5) (fs' := [.int 0, .int u5, .ref 116, .ref 117, .ref 118, .ref 119, .ref 120, .ref 121, .ref 122, .ref 123, .ref 124, .ref 125, .ref 126, .ref 127, .ref 128, .ref 129, .int u6, .ref 130, .int u7, .ref 131, .ref 132, .ref 133, .ref 134, .int u1, .ref 135, .ref 136, .ref 137, .ref 138, .ref 139, .ref 140, .ref 141, .ref 142, .int u9, .int u10, .int u11, .ref 143, .ref 144, .ref 145, .ref 146, .ref 147, .ref 148, .int u12, .ref 149, .ref 150, .ref 151, .int u13, .ref 152, .ref 153, .ref 154, .ref 155, .ref 156, .ref 157, .ref 158, .ref 159, .int u14, .ref 160, .int u15, .ref 161, .ref 162, .ref 163, .ref 164, .int u16, .ref 165, .ref 166]) kc_23_2 rfl rfl rfl A269 rfl rfl rfl (Nat.le_of_ble_eq_true rfl) rfl (fun hh271 eh270 => ?_)
        have K272 := xk_pf (k := 0) (v := 0) K268 (xk_wf rfl) xD_115 A269 rfl (by first | omega | decide) (by first | omega | decide) eh270 rfl
        refine xi_iload_n (pc' := 6) (x := a19) kc_23_5 rfl rfl ?_
        refine xi_static (mj := 24) (as := [.int a19]) (st1 := []) (lv0 := [(0, .int a19)]) kc_23_6 rfl rfl (Nat.le_of_ble_eq_true rfl) rfl rfl (Nat.le_of_ble_eq_true rfl) (hJ _ _ _ _ (by decide)) (xm_le ml_24 rfl) rfl ?_
        refine xi_iload_n (pc' := 1) (x := a19) kc_24_0 rfl rfl ?_
        refine xi_iconst (pc' := 2) (v := 0) kc_24_1 rfl rfl ?_
        refine xi_bipush (pc' := 4) (v := 11) kc_24_2 rfl rfl ?_
        refine xi_static (mj := 11) (as := [.int a19, .int 0, .int 11]) (st1 := []) (lv0 := [(0, .int a19), (1, .int 0), (2, .int 11)]) kc_24_4 rfl rfl (Nat.le_of_ble_eq_true rfl) rfl rfl (Nat.le_of_ble_eq_true rfl) (hJ _ _ _ _ (by decide)) (xm_le ml_11 rfl) rfl ?_
        refine xi_iload_n (pc' := 1) (x := a19) kc_11_0 rfl rfl ?_
        refine xi_iload_n (pc' := 2) (x := 0) kc_11_1 rfl rfl ?_
        refine xi_cmf (pc' := 5) kc_11_2 rfl (xc_lt_f (X := a19.toInt) (Y := 0) rfl (by decide) (by omega)) ?_
        refine xi_iload_n (pc' := 6) (x := a19) kc_11_5 rfl rfl ?_
        refine xi_iload_n (pc' := 7) (x := 11) kc_11_6 rfl rfl ?_
        refine xi_cmt (pc' := 14) kc_11_7 rfl (xc_gt_t (X := a19.toInt) (Y := 11) rfl (by decide) (by omega)) ?_
        refine xi_iconst (pc' := 15) (v := 0) kc_11_14 rfl rfl ?_
        refine xi_ireturn kc_11_15 mr_11 rfl ?_
        show xw J ov 98 24 (7, [(0, .int a19)], [.int 0], hh271) _
        refine xi_ireturn kc_24_7 mr_24 rfl ?_
        show xw J ov 99 23 (9, [(0, .ref 115), (1, .int a19), (2, .int a21), (3, .int a23), (4, .int 1)], [.int 0], hh271) _
        refine xi_ift (pc' := 19) kc_23_9 rfl rfl ?_
        refine xi_aload_n (pc' := 20) (x := 115) kc_23_19 rfl rfl ?_
        refine xi_iconst (pc' := 21) (v := (-1)) kc_23_20 rfl rfl ?_
        refine xi_virtual (mj := 12) (as := [.int (-1)]) (st1 := []) (lv0 := [(0, .ref 115), (1, .int (-1))]) kc_23_21 rfl rfl rfl rfl rfl eh270.1 (Nat.le_of_ble_eq_true rfl) (hJ _ _ _ _ (by decide)) (xm_le ml_12 rfl) rfl ?_
        refine xi_aload_n (pc' := 1) (x := 115) kc_12_0 rfl rfl ?_
        refine xi_getfield (pc' := 4) (v := .ref 140) kc_12_1 rfl rfl rfl eh270.1 rfl ?_
        refine xi_iload_n (pc' := 5) (x := (-1)) kc_12_4 rfl rfl ?_
        refine xi_ineg (pc' := 6) (v := 1) kc_12_5 rfl rfl ?_
        refine xi_dup2 (pc' := 7) kc_12_6 rfl ⟨rfl, rfl⟩ ?_
        obtain ⟨y273, A273, hy273, ry273⟩ := xk_arr K.1 xD_140
        obtain ⟨v274, ev274, bv274, dv274⟩ := xj_get hy273 ry273 (i := 1) (by decide) (by decide)
        have A275 := ((eh270.2.1 140 (by decide)).trans ((eh267.2.1 140 (by decide)).trans A273))
        refine xi_iaload (pc' := 8) (v := v274) kc_12_7 rfl A275 (by decide) rfl (xi_in (by decide) (by rw [hy273]; decide)) ev274 ?_
        refine xi_iconst (pc' := 9) (v := 1) kc_12_8 rfl rfl ?_
        obtain ⟨v276, ev276⟩ : ∃ q : Int32, (v274 : Int32) + 1 = q := ⟨_, rfl⟩
        have rv276 := xc_rng v276
        refine xi_iadd (pc' := 10) (v := v276) kc_12_9 rfl ev276 ?_
        obtain ⟨y277, s277, hy277, ry277⟩ := xj_set (v := v276) hy273 ry273 1 (by first | omega | decide) (by first | omega | decide)
        refine xi_iastore (pc' := 11) (x' := y277) kc_12_10 rfl A275 rfl (xi_in (by decide) (by rw [hy273]; decide)) s277 (fun hh277 eh277 => ?_)
        have K278 := xk_pa K272 (xk_wa rfl) xD_140 hy277 ry277 eh277
        refine xi_iload_n (pc' := 12) (x := (-1)) kc_12_11 rfl rfl ?_
        refine xi_ireturn kc_12_12 mr_12 rfl ?_
        show xw J ov 99 23 (24, [(0, .ref 115), (1, .int a19), (2, .int a21), (3, .int a23), (4, .int 1)], [.int (-1)], hh277) _
        refine xi_ireturn kc_23_24 mr_23 rfl ?_
        show xw J ov 100 195 (474, [(4, .int x4), (3, .ref 167), (2, .ref 115), (1, .ref 0), (0, .ref 1000000)], [.int (-1)], hh277) _
        refine xi_pop (pc' := 475) kc_195_474 rfl rfl ?_
        refine xi_goto (pc' := 1501) kc_195_475 rfl ?_
        obtain ⟨v279, ev279⟩ : ∃ q : Int32, x4 + 6 = q := ⟨_, rfl⟩
        have zv279 : v279.toInt = (x4.toInt + 6) := by rw [← ev279]; exact (xz_add (X := x4.toInt) (Y := 6) rfl (by decide) (by omega) (by omega)).trans (by omega)
        refine xi_iinc (pc' := 1504) (x := x4) (v := v279) (lv' := [(4, .int v279), (3, .ref 167), (2, .ref 115), (1, .ref 0), (0, .ref 1000000)]) kc_195_1501 rfl rfl ev279 rfl (xm_lt ml_195 rfl) ?_
        refine xi_goto (pc' := 23) kc_195_1504 rfl ?_
        have A280 := ((eh277.2.1 1 (by decide)).trans ((eh270.2.1 1 (by decide)).trans ((eh267.2.1 1 (by decide)).trans A3)))
        have A281 := ((eh277.2.1 115 (by decide)).trans eh270.1)
        exact kk v279 hh277 (by omega) K278 ⟨(xGR_kept I.1 (fun c hc => ((eh277.2.1 c (Ne.symm (xk_nc hc rfl))).trans ((eh270.2.1 c (Ne.symm (xk_nc hc rfl))).trans (eh267.2.1 c (Ne.symm (xk_nc hc rfl)))))) ((eh277.2.1 125 (by decide)).trans ((eh270.2.1 125 (by decide)).trans (eh267.2.1 125 (by decide))))), (xGR_kept I.2.1 (fun c hc => ((eh277.2.1 c (Ne.symm (xk_nc hc rfl))).trans ((eh270.2.1 c (Ne.symm (xk_nc hc rfl))).trans (eh267.2.1 c (Ne.symm (xk_nc hc rfl)))))) ((eh277.2.1 127 (by decide)).trans ((eh270.2.1 127 (by decide)).trans (eh267.2.1 127 (by decide))))), ((xl_of A280 rfl).trans (xl_of A281 rfl).symm)⟩
      · refine xi_cmf (pc' := 10) kc_104_7 rfl (xc_ge_f (X := a19.toInt) (Y := 12) rfl (by decide) (by omega)) ?_
        refine xi_iconst (pc' := 11) (v := 1) kc_104_10 rfl rfl ?_
        refine xi_goto (pc' := 15) kc_104_11 rfl ?_
        refine xi_ireturn kc_104_15 mr_104 rfl ?_
        show xw J ov 99 103 (4, [(0, .ref 0), (1, .int a19), (2, .int a21), (3, .int a23), (4, .int 1)], [.int 1], h) _
        refine xi_iff (pc' := 7) kc_103_4 rfl rfl ?_
        refine xi_iload_n (pc' := 8) (x := a21) kc_103_7 rfl rfl ?_
        refine xi_static (mj := 89) (as := [.int a21]) (st1 := []) (lv0 := [(0, .int a21)]) kc_103_8 rfl rfl (Nat.le_of_ble_eq_true rfl) rfl rfl (Nat.le_of_ble_eq_true rfl) (hJ _ _ _ _ (by decide)) (xm_le ml_89 rfl) rfl ?_
        refine xi_iload_n (pc' := 1) (x := a21) kc_89_0 rfl rfl ?_
        by_cases c282 : a21.toInt < 0
        · refine xi_ift (pc' := 14) kc_89_1 rfl (xc_lt_t (X := a21.toInt) (Y := 0) rfl (by decide) (by omega)) ?_
          refine xi_iconst (pc' := 15) (v := 0) kc_89_14 rfl rfl ?_
          refine xi_ireturn kc_89_15 mr_89 rfl ?_
          show xw J ov 99 103 (11, [(0, .ref 0), (1, .int a19), (2, .int a21), (3, .int a23), (4, .int 1)], [.int 0], h) _
          refine xi_iff (pc' := 14) kc_103_11 rfl rfl ?_
          refine xi_aload_n (pc' := 15) (x := 0) kc_103_14 rfl rfl ?_
          refine xi_iconst (pc' := 16) (v := (-1)) kc_103_15 rfl rfl ?_
          refine xi_virtual (mj := 90) (as := [.int (-1)]) (st1 := []) (lv0 := [(0, .ref 0), (1, .int (-1))]) kc_103_16 rfl rfl rfl rfl rfl A243 (Nat.le_of_ble_eq_true rfl) (hJ _ _ _ _ (by decide)) (xm_le ml_90 rfl) rfl ?_
          refine xi_iload_n (pc' := 1) (x := (-1)) kc_90_0 rfl rfl ?_
          refine xi_ineg (pc' := 2) (v := 1) kc_90_1 rfl rfl ?_
          refine xi_istore_n (pc' := 3) (lv' := [(2, .int 1), (0, .ref 0), (1, .int (-1))]) kc_90_2 rfl rfl (xm_lt ml_90 rfl) ?_
          refine xi_iload_n (pc' := 4) (x := 1) kc_90_3 rfl rfl ?_
          refine xi_iff (pc' := 7) kc_90_4 rfl rfl ?_
          refine xi_iload_n (pc' := 8) (x := 1) kc_90_7 rfl rfl ?_
          refine xi_aload_n (pc' := 9) (x := 0) kc_90_8 rfl rfl ?_
          refine xi_getfield (pc' := 12) (v := .ref 94) kc_90_9 rfl rfl rfl A243 rfl ?_
          obtain ⟨y283, A283, hy283, ry283⟩ := xk_arr K.1 xD_94
          refine xi_arraylength (pc' := 13) (n := 7) (v := 7) kc_90_12 rfl (xl_lenI (by decide) (by decide) A283 hy283) rfl ?_
          refine xi_cmf (pc' := 16) kc_90_13 rfl rfl ?_
          refine xi_aload_n (pc' := 17) (x := 0) kc_90_16 rfl rfl ?_
          refine xi_getfield (pc' := 20) (v := .ref 94) kc_90_17 rfl rfl rfl A243 rfl ?_
          refine xi_iload_n (pc' := 21) (x := 1) kc_90_20 rfl rfl ?_
          refine xi_dup2 (pc' := 22) kc_90_21 rfl ⟨rfl, rfl⟩ ?_
          obtain ⟨v284, ev284, bv284, dv284⟩ := xj_get hy283 ry283 (i := 1) (by decide) (by decide)
          refine xi_iaload (pc' := 23) (v := v284) kc_90_22 rfl A283 (by decide) rfl (xi_in (by decide) (by rw [hy283]; decide)) ev284 ?_
          refine xi_iconst (pc' := 24) (v := 1) kc_90_23 rfl rfl ?_
          obtain ⟨v285, ev285⟩ : ∃ q : Int32, (v284 : Int32) + 1 = q := ⟨_, rfl⟩
          have rv285 := xc_rng v285
          refine xi_iadd (pc' := 25) (v := v285) kc_90_24 rfl ev285 ?_
          obtain ⟨y286, s286, hy286, ry286⟩ := xj_set (v := v285) hy283 ry283 1 (by first | omega | decide) (by first | omega | decide)
          refine xi_iastore (pc' := 26) (x' := y286) kc_90_25 rfl A283 rfl (xi_in (by decide) (by rw [hy283]; decide)) s286 (fun hh286 eh286 => ?_)
          have K287 := xk_pa K (xk_wa rfl) xD_94 hy286 ry286 eh286
          refine xi_iload_n (pc' := 27) (x := (-1)) kc_90_26 rfl rfl ?_
          refine xi_ireturn kc_90_27 mr_90 rfl ?_
          show xw J ov 99 103 (19, [(0, .ref 0), (1, .int a19), (2, .int a21), (3, .int a23), (4, .int 1)], [.int (-1)], hh286) _
          refine xi_ireturn kc_103_19 mr_103 rfl ?_
          show xw J ov 100 195 (437, [(4, .int x4), (3, .ref 167), (2, .ref 115), (1, .ref 0), (0, .ref 1000000)], [.int (-1)], hh286) _
          refine xi_pop (pc' := 438) kc_195_437 rfl rfl ?_
          refine xi_aload_n (pc' := 439) (x := 115) kc_195_438 rfl rfl ?_
          refine xi_aload_n (pc' := 440) (x := 1000000) kc_195_439 rfl rfl ?_
          refine xi_iload (pc' := 442) (x := x4) kc_195_440 rfl rfl ?_
          refine xi_iconst (pc' := 443) (v := 1) kc_195_442 rfl rfl ?_
          refine xi_iadd (pc' := 444) (v := v18) kc_195_443 rfl ev18 ?_
          refine xi_ialoadO (pc' := 445) (v := a19) kc_195_444 rfl (by decide) hov0 (xi_in (by omega) (by omega)) ea19 ?_
          refine xi_aload_n (pc' := 446) (x := 1000000) kc_195_445 rfl rfl ?_
          refine xi_iload (pc' := 448) (x := x4) kc_195_446 rfl rfl ?_
          refine xi_iconst (pc' := 449) (v := 2) kc_195_448 rfl rfl ?_
          refine xi_iadd (pc' := 450) (v := v20) kc_195_449 rfl ev20 ?_
          refine xi_ialoadO (pc' := 451) (v := a21) kc_195_450 rfl (by decide) hov0 (xi_in (by omega) (by omega)) ea21 ?_
          refine xi_aload_n (pc' := 452) (x := 1000000) kc_195_451 rfl rfl ?_
          refine xi_iload (pc' := 454) (x := x4) kc_195_452 rfl rfl ?_
          refine xi_iconst (pc' := 455) (v := 3) kc_195_454 rfl rfl ?_
          refine xi_iadd (pc' := 456) (v := v22) kc_195_455 rfl ev22 ?_
          refine xi_ialoadO (pc' := 457) (v := a23) kc_195_456 rfl (by decide) hov0 (xi_in (by omega) (by omega)) ea23 ?_
          refine xi_aload_n (pc' := 458) (x := 1000000) kc_195_457 rfl rfl ?_
          refine xi_iload (pc' := 460) (x := x4) kc_195_458 rfl rfl ?_
          refine xi_iconst (pc' := 461) (v := 4) kc_195_460 rfl rfl ?_
          refine xi_iadd (pc' := 462) (v := v24) kc_195_461 rfl ev24 ?_
          refine xi_ialoadO (pc' := 463) (v := a25) kc_195_462 rfl (by decide) hov0 (xi_in (by omega) (by omega)) ea25 ?_
          refine xi_iff (pc' := 466) kc_195_463 rfl (xc_eq_f (X := a25.toInt) (Y := 0) rfl (by decide) (by omega)) ?_
          refine xi_iconst (pc' := 467) (v := 1) kc_195_466 rfl rfl ?_
          refine xi_goto (pc' := 471) kc_195_467 rfl ?_
          have A288 := ((eh286.2.1 115 (by decide)).trans A17)
          refine xi_virtual (mj := 23) (as := [.int a19, .int a21, .int a23, .int 1]) (st1 := []) (lv0 := [(0, .ref 115), (1, .int a19), (2, .int a21), (3, .int a23), (4, .int 1)]) kc_195_471 rfl rfl rfl rfl rfl A288 (Nat.le_of_ble_eq_true rfl) (hJ _ _ _ _ (by decide)) (xm_le ml_23 rfl) rfl ?_
          refine xi_aload_n (pc' := 1) (x := 115) kc_23_0 rfl rfl ?_
          refine xi_iconst (pc' := 2) (v := 0) kc_23_1 rfl rfl ?_
          refine xi_putfield (pc' := 5) (fs' := [.int 0, .int u5, .ref 116, .ref 117, .ref 118, .ref 119, .ref 120, .ref 121, .ref 122, .ref 123, .ref 124, .ref 125, .ref 126, .ref 127, .ref 128, .ref 129, .int u6, .ref 130, .int u7, .ref 131, .ref 132, .ref 133, .ref 134, .int u1, .ref 135, .ref 136, .ref 137, .ref 138, .ref 139, .ref 140, .ref 141, .ref 142, .int u9, .int u10, .int u11, .ref 143, .ref 144, .ref 145, .ref 146, .ref 147, .ref 148, .int u12, .ref 149, .ref 150, .ref 151, .int u13, .ref 152, .ref 153, .ref 154, .ref 155, .ref 156, .ref 157, .ref 158, .ref 159, .int u14, .ref 160, .int u15, .ref 161, .ref 162, .ref 163, .ref 164, .int u16, .ref 165, .ref 166]) kc_23_2 rfl rfl rfl A288 rfl rfl rfl (Nat.le_of_ble_eq_true rfl) rfl (fun hh290 eh289 => ?_)
          have K291 := xk_pf (k := 0) (v := 0) K287 (xk_wf rfl) xD_115 A288 rfl (by first | omega | decide) (by first | omega | decide) eh289 rfl
          refine xi_iload_n (pc' := 6) (x := a19) kc_23_5 rfl rfl ?_
          refine xi_static (mj := 24) (as := [.int a19]) (st1 := []) (lv0 := [(0, .int a19)]) kc_23_6 rfl rfl (Nat.le_of_ble_eq_true rfl) rfl rfl (Nat.le_of_ble_eq_true rfl) (hJ _ _ _ _ (by decide)) (xm_le ml_24 rfl) rfl ?_
          refine xi_iload_n (pc' := 1) (x := a19) kc_24_0 rfl rfl ?_
          refine xi_iconst (pc' := 2) (v := 0) kc_24_1 rfl rfl ?_
          refine xi_bipush (pc' := 4) (v := 11) kc_24_2 rfl rfl ?_
          refine xi_static (mj := 11) (as := [.int a19, .int 0, .int 11]) (st1 := []) (lv0 := [(0, .int a19), (1, .int 0), (2, .int 11)]) kc_24_4 rfl rfl (Nat.le_of_ble_eq_true rfl) rfl rfl (Nat.le_of_ble_eq_true rfl) (hJ _ _ _ _ (by decide)) (xm_le ml_11 rfl) rfl ?_
          refine xi_iload_n (pc' := 1) (x := a19) kc_11_0 rfl rfl ?_
          refine xi_iload_n (pc' := 2) (x := 0) kc_11_1 rfl rfl ?_
          refine xi_cmf (pc' := 5) kc_11_2 rfl (xc_lt_f (X := a19.toInt) (Y := 0) rfl (by decide) (by omega)) ?_
          refine xi_iload_n (pc' := 6) (x := a19) kc_11_5 rfl rfl ?_
          refine xi_iload_n (pc' := 7) (x := 11) kc_11_6 rfl rfl ?_
          refine xi_cmf (pc' := 10) kc_11_7 rfl (xc_gt_f (X := a19.toInt) (Y := 11) rfl (by decide) (by omega)) ?_
          refine xi_iconst (pc' := 11) (v := 1) kc_11_10 rfl rfl ?_
          refine xi_goto (pc' := 15) kc_11_11 rfl ?_
          refine xi_ireturn kc_11_15 mr_11 rfl ?_
          show xw J ov 98 24 (7, [(0, .int a19)], [.int 1], hh290) _
          refine xi_ireturn kc_24_7 mr_24 rfl ?_
          show xw J ov 99 23 (9, [(0, .ref 115), (1, .int a19), (2, .int a21), (3, .int a23), (4, .int 1)], [.int 1], hh290) _
          refine xi_iff (pc' := 12) kc_23_9 rfl rfl ?_
          refine xi_iload_n (pc' := 13) (x := a21) kc_23_12 rfl rfl ?_
          refine xi_static (mj := 10) (as := [.int a21]) (st1 := []) (lv0 := [(0, .int a21)]) kc_23_13 rfl rfl (Nat.le_of_ble_eq_true rfl) rfl rfl (Nat.le_of_ble_eq_true rfl) (hJ _ _ _ _ (by decide)) (xm_le ml_10 rfl) rfl ?_
          refine xi_iload_n (pc' := 1) (x := a21) kc_10_0 rfl rfl ?_
          refine xi_iconst (pc' := 2) (v := 0) kc_10_1 rfl rfl ?_
          refine xi_iconst (pc' := 3) (v := 5) kc_10_2 rfl rfl ?_
          refine xi_static (mj := 11) (as := [.int a21, .int 0, .int 5]) (st1 := []) (lv0 := [(0, .int a21), (1, .int 0), (2, .int 5)]) kc_10_3 rfl rfl (Nat.le_of_ble_eq_true rfl) rfl rfl (Nat.le_of_ble_eq_true rfl) (hJ _ _ _ _ (by decide)) (xm_le ml_11 rfl) rfl ?_
          refine xi_iload_n (pc' := 1) (x := a21) kc_11_0 rfl rfl ?_
          refine xi_iload_n (pc' := 2) (x := 0) kc_11_1 rfl rfl ?_
          refine xi_cmt (pc' := 14) kc_11_2 rfl (xc_lt_t (X := a21.toInt) (Y := 0) rfl (by decide) (by omega)) ?_
          refine xi_iconst (pc' := 15) (v := 0) kc_11_14 rfl rfl ?_
          refine xi_ireturn kc_11_15 mr_11 rfl ?_
          show xw J ov 98 10 (6, [(0, .int a21)], [.int 0], hh290) _
          refine xi_ireturn kc_10_6 mr_10 rfl ?_
          show xw J ov 99 23 (16, [(0, .ref 115), (1, .int a19), (2, .int a21), (3, .int a23), (4, .int 1)], [.int 0], hh290) _
          refine xi_iff (pc' := 19) kc_23_16 rfl rfl ?_
          refine xi_aload_n (pc' := 20) (x := 115) kc_23_19 rfl rfl ?_
          refine xi_iconst (pc' := 21) (v := (-1)) kc_23_20 rfl rfl ?_
          refine xi_virtual (mj := 12) (as := [.int (-1)]) (st1 := []) (lv0 := [(0, .ref 115), (1, .int (-1))]) kc_23_21 rfl rfl rfl rfl rfl eh289.1 (Nat.le_of_ble_eq_true rfl) (hJ _ _ _ _ (by decide)) (xm_le ml_12 rfl) rfl ?_
          refine xi_aload_n (pc' := 1) (x := 115) kc_12_0 rfl rfl ?_
          refine xi_getfield (pc' := 4) (v := .ref 140) kc_12_1 rfl rfl rfl eh289.1 rfl ?_
          refine xi_iload_n (pc' := 5) (x := (-1)) kc_12_4 rfl rfl ?_
          refine xi_ineg (pc' := 6) (v := 1) kc_12_5 rfl rfl ?_
          refine xi_dup2 (pc' := 7) kc_12_6 rfl ⟨rfl, rfl⟩ ?_
          obtain ⟨y292, A292, hy292, ry292⟩ := xk_arr K.1 xD_140
          obtain ⟨v293, ev293, bv293, dv293⟩ := xj_get hy292 ry292 (i := 1) (by decide) (by decide)
          have A294 := ((eh289.2.1 140 (by decide)).trans ((eh286.2.1 140 (by decide)).trans A292))
          refine xi_iaload (pc' := 8) (v := v293) kc_12_7 rfl A294 (by decide) rfl (xi_in (by decide) (by rw [hy292]; decide)) ev293 ?_
          refine xi_iconst (pc' := 9) (v := 1) kc_12_8 rfl rfl ?_
          obtain ⟨v295, ev295⟩ : ∃ q : Int32, (v293 : Int32) + 1 = q := ⟨_, rfl⟩
          have rv295 := xc_rng v295
          refine xi_iadd (pc' := 10) (v := v295) kc_12_9 rfl ev295 ?_
          obtain ⟨y296, s296, hy296, ry296⟩ := xj_set (v := v295) hy292 ry292 1 (by first | omega | decide) (by first | omega | decide)
          refine xi_iastore (pc' := 11) (x' := y296) kc_12_10 rfl A294 rfl (xi_in (by decide) (by rw [hy292]; decide)) s296 (fun hh296 eh296 => ?_)
          have K297 := xk_pa K291 (xk_wa rfl) xD_140 hy296 ry296 eh296
          refine xi_iload_n (pc' := 12) (x := (-1)) kc_12_11 rfl rfl ?_
          refine xi_ireturn kc_12_12 mr_12 rfl ?_
          show xw J ov 99 23 (24, [(0, .ref 115), (1, .int a19), (2, .int a21), (3, .int a23), (4, .int 1)], [.int (-1)], hh296) _
          refine xi_ireturn kc_23_24 mr_23 rfl ?_
          show xw J ov 100 195 (474, [(4, .int x4), (3, .ref 167), (2, .ref 115), (1, .ref 0), (0, .ref 1000000)], [.int (-1)], hh296) _
          refine xi_pop (pc' := 475) kc_195_474 rfl rfl ?_
          refine xi_goto (pc' := 1501) kc_195_475 rfl ?_
          obtain ⟨v298, ev298⟩ : ∃ q : Int32, x4 + 6 = q := ⟨_, rfl⟩
          have zv298 : v298.toInt = (x4.toInt + 6) := by rw [← ev298]; exact (xz_add (X := x4.toInt) (Y := 6) rfl (by decide) (by omega) (by omega)).trans (by omega)
          refine xi_iinc (pc' := 1504) (x := x4) (v := v298) (lv' := [(4, .int v298), (3, .ref 167), (2, .ref 115), (1, .ref 0), (0, .ref 1000000)]) kc_195_1501 rfl rfl ev298 rfl (xm_lt ml_195 rfl) ?_
          refine xi_goto (pc' := 23) kc_195_1504 rfl ?_
          have A299 := ((eh296.2.1 1 (by decide)).trans ((eh289.2.1 1 (by decide)).trans ((eh286.2.1 1 (by decide)).trans A3)))
          have A300 := ((eh296.2.1 115 (by decide)).trans eh289.1)
          exact kk v298 hh296 (by omega) K297 ⟨(xGR_kept I.1 (fun c hc => ((eh296.2.1 c (Ne.symm (xk_nc hc rfl))).trans ((eh289.2.1 c (Ne.symm (xk_nc hc rfl))).trans (eh286.2.1 c (Ne.symm (xk_nc hc rfl)))))) ((eh296.2.1 125 (by decide)).trans ((eh289.2.1 125 (by decide)).trans (eh286.2.1 125 (by decide))))), (xGR_kept I.2.1 (fun c hc => ((eh296.2.1 c (Ne.symm (xk_nc hc rfl))).trans ((eh289.2.1 c (Ne.symm (xk_nc hc rfl))).trans (eh286.2.1 c (Ne.symm (xk_nc hc rfl)))))) ((eh296.2.1 127 (by decide)).trans ((eh289.2.1 127 (by decide)).trans (eh286.2.1 127 (by decide))))), ((xl_of A299 rfl).trans (xl_of A300 rfl).symm)⟩
        · refine xi_iff (pc' := 4) kc_89_1 rfl (xc_lt_f (X := a21.toInt) (Y := 0) rfl (by decide) (by omega)) ?_
          refine xi_iload_n (pc' := 5) (x := a21) kc_89_4 rfl rfl ?_
          refine xi_bipush (pc' := 7) (v := 6) kc_89_5 rfl rfl ?_
          by_cases c301 : 6 ≤ a21.toInt
          · refine xi_cmt (pc' := 14) kc_89_7 rfl (xc_ge_t (X := a21.toInt) (Y := 6) rfl (by decide) (by omega)) ?_
            refine xi_iconst (pc' := 15) (v := 0) kc_89_14 rfl rfl ?_
            refine xi_ireturn kc_89_15 mr_89 rfl ?_
            show xw J ov 99 103 (11, [(0, .ref 0), (1, .int a19), (2, .int a21), (3, .int a23), (4, .int 1)], [.int 0], h) _
            refine xi_iff (pc' := 14) kc_103_11 rfl rfl ?_
            refine xi_aload_n (pc' := 15) (x := 0) kc_103_14 rfl rfl ?_
            refine xi_iconst (pc' := 16) (v := (-1)) kc_103_15 rfl rfl ?_
            refine xi_virtual (mj := 90) (as := [.int (-1)]) (st1 := []) (lv0 := [(0, .ref 0), (1, .int (-1))]) kc_103_16 rfl rfl rfl rfl rfl A243 (Nat.le_of_ble_eq_true rfl) (hJ _ _ _ _ (by decide)) (xm_le ml_90 rfl) rfl ?_
            refine xi_iload_n (pc' := 1) (x := (-1)) kc_90_0 rfl rfl ?_
            refine xi_ineg (pc' := 2) (v := 1) kc_90_1 rfl rfl ?_
            refine xi_istore_n (pc' := 3) (lv' := [(2, .int 1), (0, .ref 0), (1, .int (-1))]) kc_90_2 rfl rfl (xm_lt ml_90 rfl) ?_
            refine xi_iload_n (pc' := 4) (x := 1) kc_90_3 rfl rfl ?_
            refine xi_iff (pc' := 7) kc_90_4 rfl rfl ?_
            refine xi_iload_n (pc' := 8) (x := 1) kc_90_7 rfl rfl ?_
            refine xi_aload_n (pc' := 9) (x := 0) kc_90_8 rfl rfl ?_
            refine xi_getfield (pc' := 12) (v := .ref 94) kc_90_9 rfl rfl rfl A243 rfl ?_
            obtain ⟨y302, A302, hy302, ry302⟩ := xk_arr K.1 xD_94
            refine xi_arraylength (pc' := 13) (n := 7) (v := 7) kc_90_12 rfl (xl_lenI (by decide) (by decide) A302 hy302) rfl ?_
            refine xi_cmf (pc' := 16) kc_90_13 rfl rfl ?_
            refine xi_aload_n (pc' := 17) (x := 0) kc_90_16 rfl rfl ?_
            refine xi_getfield (pc' := 20) (v := .ref 94) kc_90_17 rfl rfl rfl A243 rfl ?_
            refine xi_iload_n (pc' := 21) (x := 1) kc_90_20 rfl rfl ?_
            refine xi_dup2 (pc' := 22) kc_90_21 rfl ⟨rfl, rfl⟩ ?_
            obtain ⟨v303, ev303, bv303, dv303⟩ := xj_get hy302 ry302 (i := 1) (by decide) (by decide)
            refine xi_iaload (pc' := 23) (v := v303) kc_90_22 rfl A302 (by decide) rfl (xi_in (by decide) (by rw [hy302]; decide)) ev303 ?_
            refine xi_iconst (pc' := 24) (v := 1) kc_90_23 rfl rfl ?_
            obtain ⟨v304, ev304⟩ : ∃ q : Int32, (v303 : Int32) + 1 = q := ⟨_, rfl⟩
            have rv304 := xc_rng v304
            refine xi_iadd (pc' := 25) (v := v304) kc_90_24 rfl ev304 ?_
            obtain ⟨y305, s305, hy305, ry305⟩ := xj_set (v := v304) hy302 ry302 1 (by first | omega | decide) (by first | omega | decide)
            refine xi_iastore (pc' := 26) (x' := y305) kc_90_25 rfl A302 rfl (xi_in (by decide) (by rw [hy302]; decide)) s305 (fun hh305 eh305 => ?_)
            have K306 := xk_pa K (xk_wa rfl) xD_94 hy305 ry305 eh305
            refine xi_iload_n (pc' := 27) (x := (-1)) kc_90_26 rfl rfl ?_
            refine xi_ireturn kc_90_27 mr_90 rfl ?_
            show xw J ov 99 103 (19, [(0, .ref 0), (1, .int a19), (2, .int a21), (3, .int a23), (4, .int 1)], [.int (-1)], hh305) _
            refine xi_ireturn kc_103_19 mr_103 rfl ?_
            show xw J ov 100 195 (437, [(4, .int x4), (3, .ref 167), (2, .ref 115), (1, .ref 0), (0, .ref 1000000)], [.int (-1)], hh305) _
            refine xi_pop (pc' := 438) kc_195_437 rfl rfl ?_
            refine xi_aload_n (pc' := 439) (x := 115) kc_195_438 rfl rfl ?_
            refine xi_aload_n (pc' := 440) (x := 1000000) kc_195_439 rfl rfl ?_
            refine xi_iload (pc' := 442) (x := x4) kc_195_440 rfl rfl ?_
            refine xi_iconst (pc' := 443) (v := 1) kc_195_442 rfl rfl ?_
            refine xi_iadd (pc' := 444) (v := v18) kc_195_443 rfl ev18 ?_
            refine xi_ialoadO (pc' := 445) (v := a19) kc_195_444 rfl (by decide) hov0 (xi_in (by omega) (by omega)) ea19 ?_
            refine xi_aload_n (pc' := 446) (x := 1000000) kc_195_445 rfl rfl ?_
            refine xi_iload (pc' := 448) (x := x4) kc_195_446 rfl rfl ?_
            refine xi_iconst (pc' := 449) (v := 2) kc_195_448 rfl rfl ?_
            refine xi_iadd (pc' := 450) (v := v20) kc_195_449 rfl ev20 ?_
            refine xi_ialoadO (pc' := 451) (v := a21) kc_195_450 rfl (by decide) hov0 (xi_in (by omega) (by omega)) ea21 ?_
            refine xi_aload_n (pc' := 452) (x := 1000000) kc_195_451 rfl rfl ?_
            refine xi_iload (pc' := 454) (x := x4) kc_195_452 rfl rfl ?_
            refine xi_iconst (pc' := 455) (v := 3) kc_195_454 rfl rfl ?_
            refine xi_iadd (pc' := 456) (v := v22) kc_195_455 rfl ev22 ?_
            refine xi_ialoadO (pc' := 457) (v := a23) kc_195_456 rfl (by decide) hov0 (xi_in (by omega) (by omega)) ea23 ?_
            refine xi_aload_n (pc' := 458) (x := 1000000) kc_195_457 rfl rfl ?_
            refine xi_iload (pc' := 460) (x := x4) kc_195_458 rfl rfl ?_
            refine xi_iconst (pc' := 461) (v := 4) kc_195_460 rfl rfl ?_
            refine xi_iadd (pc' := 462) (v := v24) kc_195_461 rfl ev24 ?_
            refine xi_ialoadO (pc' := 463) (v := a25) kc_195_462 rfl (by decide) hov0 (xi_in (by omega) (by omega)) ea25 ?_
            refine xi_iff (pc' := 466) kc_195_463 rfl (xc_eq_f (X := a25.toInt) (Y := 0) rfl (by decide) (by omega)) ?_
            refine xi_iconst (pc' := 467) (v := 1) kc_195_466 rfl rfl ?_
            refine xi_goto (pc' := 471) kc_195_467 rfl ?_
            have A307 := ((eh305.2.1 115 (by decide)).trans A17)
            refine xi_virtual (mj := 23) (as := [.int a19, .int a21, .int a23, .int 1]) (st1 := []) (lv0 := [(0, .ref 115), (1, .int a19), (2, .int a21), (3, .int a23), (4, .int 1)]) kc_195_471 rfl rfl rfl rfl rfl A307 (Nat.le_of_ble_eq_true rfl) (hJ _ _ _ _ (by decide)) (xm_le ml_23 rfl) rfl ?_
            refine xi_aload_n (pc' := 1) (x := 115) kc_23_0 rfl rfl ?_
            refine xi_iconst (pc' := 2) (v := 0) kc_23_1 rfl rfl ?_
            refine xi_putfield (pc' := 5) (fs' := [.int 0, .int u5, .ref 116, .ref 117, .ref 118, .ref 119, .ref 120, .ref 121, .ref 122, .ref 123, .ref 124, .ref 125, .ref 126, .ref 127, .ref 128, .ref 129, .int u6, .ref 130, .int u7, .ref 131, .ref 132, .ref 133, .ref 134, .int u1, .ref 135, .ref 136, .ref 137, .ref 138, .ref 139, .ref 140, .ref 141, .ref 142, .int u9, .int u10, .int u11, .ref 143, .ref 144, .ref 145, .ref 146, .ref 147, .ref 148, .int u12, .ref 149, .ref 150, .ref 151, .int u13, .ref 152, .ref 153, .ref 154, .ref 155, .ref 156, .ref 157, .ref 158, .ref 159, .int u14, .ref 160, .int u15, .ref 161, .ref 162, .ref 163, .ref 164, .int u16, .ref 165, .ref 166]) kc_23_2 rfl rfl rfl A307 rfl rfl rfl (Nat.le_of_ble_eq_true rfl) rfl (fun hh309 eh308 => ?_)
            have K310 := xk_pf (k := 0) (v := 0) K306 (xk_wf rfl) xD_115 A307 rfl (by first | omega | decide) (by first | omega | decide) eh308 rfl
            refine xi_iload_n (pc' := 6) (x := a19) kc_23_5 rfl rfl ?_
            refine xi_static (mj := 24) (as := [.int a19]) (st1 := []) (lv0 := [(0, .int a19)]) kc_23_6 rfl rfl (Nat.le_of_ble_eq_true rfl) rfl rfl (Nat.le_of_ble_eq_true rfl) (hJ _ _ _ _ (by decide)) (xm_le ml_24 rfl) rfl ?_
            refine xi_iload_n (pc' := 1) (x := a19) kc_24_0 rfl rfl ?_
            refine xi_iconst (pc' := 2) (v := 0) kc_24_1 rfl rfl ?_
            refine xi_bipush (pc' := 4) (v := 11) kc_24_2 rfl rfl ?_
            refine xi_static (mj := 11) (as := [.int a19, .int 0, .int 11]) (st1 := []) (lv0 := [(0, .int a19), (1, .int 0), (2, .int 11)]) kc_24_4 rfl rfl (Nat.le_of_ble_eq_true rfl) rfl rfl (Nat.le_of_ble_eq_true rfl) (hJ _ _ _ _ (by decide)) (xm_le ml_11 rfl) rfl ?_
            refine xi_iload_n (pc' := 1) (x := a19) kc_11_0 rfl rfl ?_
            refine xi_iload_n (pc' := 2) (x := 0) kc_11_1 rfl rfl ?_
            refine xi_cmf (pc' := 5) kc_11_2 rfl (xc_lt_f (X := a19.toInt) (Y := 0) rfl (by decide) (by omega)) ?_
            refine xi_iload_n (pc' := 6) (x := a19) kc_11_5 rfl rfl ?_
            refine xi_iload_n (pc' := 7) (x := 11) kc_11_6 rfl rfl ?_
            refine xi_cmf (pc' := 10) kc_11_7 rfl (xc_gt_f (X := a19.toInt) (Y := 11) rfl (by decide) (by omega)) ?_
            refine xi_iconst (pc' := 11) (v := 1) kc_11_10 rfl rfl ?_
            refine xi_goto (pc' := 15) kc_11_11 rfl ?_
            refine xi_ireturn kc_11_15 mr_11 rfl ?_
            show xw J ov 98 24 (7, [(0, .int a19)], [.int 1], hh309) _
            refine xi_ireturn kc_24_7 mr_24 rfl ?_
            show xw J ov 99 23 (9, [(0, .ref 115), (1, .int a19), (2, .int a21), (3, .int a23), (4, .int 1)], [.int 1], hh309) _
            refine xi_iff (pc' := 12) kc_23_9 rfl rfl ?_
            refine xi_iload_n (pc' := 13) (x := a21) kc_23_12 rfl rfl ?_
            refine xi_static (mj := 10) (as := [.int a21]) (st1 := []) (lv0 := [(0, .int a21)]) kc_23_13 rfl rfl (Nat.le_of_ble_eq_true rfl) rfl rfl (Nat.le_of_ble_eq_true rfl) (hJ _ _ _ _ (by decide)) (xm_le ml_10 rfl) rfl ?_
            refine xi_iload_n (pc' := 1) (x := a21) kc_10_0 rfl rfl ?_
            refine xi_iconst (pc' := 2) (v := 0) kc_10_1 rfl rfl ?_
            refine xi_iconst (pc' := 3) (v := 5) kc_10_2 rfl rfl ?_
            refine xi_static (mj := 11) (as := [.int a21, .int 0, .int 5]) (st1 := []) (lv0 := [(0, .int a21), (1, .int 0), (2, .int 5)]) kc_10_3 rfl rfl (Nat.le_of_ble_eq_true rfl) rfl rfl (Nat.le_of_ble_eq_true rfl) (hJ _ _ _ _ (by decide)) (xm_le ml_11 rfl) rfl ?_
            refine xi_iload_n (pc' := 1) (x := a21) kc_11_0 rfl rfl ?_
            refine xi_iload_n (pc' := 2) (x := 0) kc_11_1 rfl rfl ?_
            refine xi_cmf (pc' := 5) kc_11_2 rfl (xc_lt_f (X := a21.toInt) (Y := 0) rfl (by decide) (by omega)) ?_
            refine xi_iload_n (pc' := 6) (x := a21) kc_11_5 rfl rfl ?_
            refine xi_iload_n (pc' := 7) (x := 5) kc_11_6 rfl rfl ?_
            refine xi_cmt (pc' := 14) kc_11_7 rfl (xc_gt_t (X := a21.toInt) (Y := 5) rfl (by decide) (by omega)) ?_
            refine xi_iconst (pc' := 15) (v := 0) kc_11_14 rfl rfl ?_
            refine xi_ireturn kc_11_15 mr_11 rfl ?_
            show xw J ov 98 10 (6, [(0, .int a21)], [.int 0], hh309) _
            refine xi_ireturn kc_10_6 mr_10 rfl ?_
            show xw J ov 99 23 (16, [(0, .ref 115), (1, .int a19), (2, .int a21), (3, .int a23), (4, .int 1)], [.int 0], hh309) _
            refine xi_iff (pc' := 19) kc_23_16 rfl rfl ?_
            refine xi_aload_n (pc' := 20) (x := 115) kc_23_19 rfl rfl ?_
            refine xi_iconst (pc' := 21) (v := (-1)) kc_23_20 rfl rfl ?_
            refine xi_virtual (mj := 12) (as := [.int (-1)]) (st1 := []) (lv0 := [(0, .ref 115), (1, .int (-1))]) kc_23_21 rfl rfl rfl rfl rfl eh308.1 (Nat.le_of_ble_eq_true rfl) (hJ _ _ _ _ (by decide)) (xm_le ml_12 rfl) rfl ?_
            refine xi_aload_n (pc' := 1) (x := 115) kc_12_0 rfl rfl ?_
            refine xi_getfield (pc' := 4) (v := .ref 140) kc_12_1 rfl rfl rfl eh308.1 rfl ?_
            refine xi_iload_n (pc' := 5) (x := (-1)) kc_12_4 rfl rfl ?_
            refine xi_ineg (pc' := 6) (v := 1) kc_12_5 rfl rfl ?_
            refine xi_dup2 (pc' := 7) kc_12_6 rfl ⟨rfl, rfl⟩ ?_
            obtain ⟨y311, A311, hy311, ry311⟩ := xk_arr K.1 xD_140
            obtain ⟨v312, ev312, bv312, dv312⟩ := xj_get hy311 ry311 (i := 1) (by decide) (by decide)
            have A313 := ((eh308.2.1 140 (by decide)).trans ((eh305.2.1 140 (by decide)).trans A311))
            refine xi_iaload (pc' := 8) (v := v312) kc_12_7 rfl A313 (by decide) rfl (xi_in (by decide) (by rw [hy311]; decide)) ev312 ?_
            refine xi_iconst (pc' := 9) (v := 1) kc_12_8 rfl rfl ?_
            obtain ⟨v314, ev314⟩ : ∃ q : Int32, (v312 : Int32) + 1 = q := ⟨_, rfl⟩
            have rv314 := xc_rng v314
            refine xi_iadd (pc' := 10) (v := v314) kc_12_9 rfl ev314 ?_
            obtain ⟨y315, s315, hy315, ry315⟩ := xj_set (v := v314) hy311 ry311 1 (by first | omega | decide) (by first | omega | decide)
            refine xi_iastore (pc' := 11) (x' := y315) kc_12_10 rfl A313 rfl (xi_in (by decide) (by rw [hy311]; decide)) s315 (fun hh315 eh315 => ?_)
            have K316 := xk_pa K310 (xk_wa rfl) xD_140 hy315 ry315 eh315
            refine xi_iload_n (pc' := 12) (x := (-1)) kc_12_11 rfl rfl ?_
            refine xi_ireturn kc_12_12 mr_12 rfl ?_
            show xw J ov 99 23 (24, [(0, .ref 115), (1, .int a19), (2, .int a21), (3, .int a23), (4, .int 1)], [.int (-1)], hh315) _
            refine xi_ireturn kc_23_24 mr_23 rfl ?_
            show xw J ov 100 195 (474, [(4, .int x4), (3, .ref 167), (2, .ref 115), (1, .ref 0), (0, .ref 1000000)], [.int (-1)], hh315) _
            refine xi_pop (pc' := 475) kc_195_474 rfl rfl ?_
            refine xi_goto (pc' := 1501) kc_195_475 rfl ?_
            obtain ⟨v317, ev317⟩ : ∃ q : Int32, x4 + 6 = q := ⟨_, rfl⟩
            have zv317 : v317.toInt = (x4.toInt + 6) := by rw [← ev317]; exact (xz_add (X := x4.toInt) (Y := 6) rfl (by decide) (by omega) (by omega)).trans (by omega)
            refine xi_iinc (pc' := 1504) (x := x4) (v := v317) (lv' := [(4, .int v317), (3, .ref 167), (2, .ref 115), (1, .ref 0), (0, .ref 1000000)]) kc_195_1501 rfl rfl ev317 rfl (xm_lt ml_195 rfl) ?_
            refine xi_goto (pc' := 23) kc_195_1504 rfl ?_
            have A318 := ((eh315.2.1 1 (by decide)).trans ((eh308.2.1 1 (by decide)).trans ((eh305.2.1 1 (by decide)).trans A3)))
            have A319 := ((eh315.2.1 115 (by decide)).trans eh308.1)
            exact kk v317 hh315 (by omega) K316 ⟨(xGR_kept I.1 (fun c hc => ((eh315.2.1 c (Ne.symm (xk_nc hc rfl))).trans ((eh308.2.1 c (Ne.symm (xk_nc hc rfl))).trans (eh305.2.1 c (Ne.symm (xk_nc hc rfl)))))) ((eh315.2.1 125 (by decide)).trans ((eh308.2.1 125 (by decide)).trans (eh305.2.1 125 (by decide))))), (xGR_kept I.2.1 (fun c hc => ((eh315.2.1 c (Ne.symm (xk_nc hc rfl))).trans ((eh308.2.1 c (Ne.symm (xk_nc hc rfl))).trans (eh305.2.1 c (Ne.symm (xk_nc hc rfl)))))) ((eh315.2.1 127 (by decide)).trans ((eh308.2.1 127 (by decide)).trans (eh305.2.1 127 (by decide))))), ((xl_of A318 rfl).trans (xl_of A319 rfl).symm)⟩
          · refine xi_cmf (pc' := 10) kc_89_7 rfl (xc_ge_f (X := a21.toInt) (Y := 6) rfl (by decide) (by omega)) ?_
            refine xi_iconst (pc' := 11) (v := 1) kc_89_10 rfl rfl ?_
            refine xi_goto (pc' := 15) kc_89_11 rfl ?_
            refine xi_ireturn kc_89_15 mr_89 rfl ?_
            show xw J ov 99 103 (11, [(0, .ref 0), (1, .int a19), (2, .int a21), (3, .int a23), (4, .int 1)], [.int 1], h) _
            refine xi_ift (pc' := 20) kc_103_11 rfl rfl ?_
            refine xi_iload_n (pc' := 21) (x := a23) kc_103_20 rfl rfl ?_
            by_cases c320 : 0 ≤ a23.toInt
            · refine xi_ift (pc' := 31) kc_103_21 rfl (xc_ge_t (X := a23.toInt) (Y := 0) rfl (by decide) (by omega)) ?_
              refine xi_iload_n (pc' := 32) (x := a23) kc_103_31 rfl rfl ?_
              refine xi_bipush (pc' := 34) (v := 100) kc_103_32 rfl rfl ?_
              by_cases c321 : a23.toInt ≤ 100
              · refine xi_cmt (pc' := 44) kc_103_34 rfl (xc_le_t (X := a23.toInt) (Y := 100) rfl (by decide) (by omega)) ?_
                refine xi_aload_n (pc' := 45) (x := 0) kc_103_44 rfl rfl ?_
                refine xi_getfield (pc' := 48) (v := .ref 66) kc_103_45 rfl rfl rfl A243 rfl ?_
                obtain ⟨u323, wl322, bu323, A324⟩ := xq_66 K.1
                refine xi_virtual (mj := 91) (as := []) (st1 := []) (lv0 := [(0, .ref 66)]) kc_103_48 rfl rfl rfl rfl rfl A324 (Nat.le_of_ble_eq_true rfl) (hJ _ _ _ _ (by decide)) (xm_le ml_91 rfl) rfl ?_
                refine xi_aload_n (pc' := 1) (x := 66) kc_91_0 rfl rfl ?_
                refine xi_lconst (pc' := 2) (v := 0) kc_91_1 rfl rfl ?_
                refine xi_putfield (pc' := 5) (fs' := [.ref 1, .ref 67, .ref 70, .ref 71, .ref 72, .ref 73, .ref 74, .long 0, .int u323]) kc_91_2 rfl rfl rfl A324 rfl rfl rfl (Nat.le_of_ble_eq_true rfl) rfl (fun hh326 eh325 => ?_)
                have K327 := xk_pl (k := 7) (v := 0) K (xk_wf rfl) xD_66 A324 rfl eh325 rfl
                refine xi_return kc_91_5 mr_91 ?_
                show xw J ov 99 103 (51, [(0, .ref 0), (1, .int a19), (2, .int a21), (3, .int a23), (4, .int 1)], [], hh326) _
                refine xi_aload_n (pc' := 52) (x := 0) kc_103_51 rfl rfl ?_
                have A328 := ((eh325.2.1 0 (by decide)).trans A243)
                refine xi_getfield (pc' := 55) (v := .ref 1) kc_103_52 rfl rfl rfl A328 rfl ?_
                have A329 := ((eh325.2.1 1 (by decide)).trans A3)
                refine xi_getfield (pc' := 58) (v := .ref 3) kc_103_55 rfl rfl rfl A329 rfl ?_
                refine xi_iload_n (pc' := 59) (x := a19) kc_103_58 rfl rfl ?_
                have A330 := xk_ex K.1 xD_3
                obtain ⟨pt331, ept331, mpt331⟩ := xR_3 (i := a19) (by omega) (by omega)
                have A332 := ((eh325.2.1 3 (by decide)).trans A330)
                refine xj_aaload (pc' := 60) (b := pt331) kc_103_59 rfl A332 rfl (xi_in (n := 12) (by omega) (by omega)) ept331 ?_
                refine xi_astore (pc' := 62) (lv' := [(5, .ref pt331), (0, .ref 0), (1, .int a19), (2, .int a21), (3, .int a23), (4, .int 1)]) kc_103_60 rfl rfl (xm_lt ml_103 rfl) ?_
                refine xi_aload (pc' := 64) (x := pt331) kc_103_62 rfl rfl ?_
                obtain ⟨u333, u334, u335, u336, pt337, bu333, bu334, bu335, bu336, mpt337, A338⟩ := xg_wall K.1 mpt331
                obtain ⟨y339, A339, hy339, ry339⟩ := xk_arr K.1 xD_125
                have HG340 : y339.getD (Int32.toNatClampNeg a19) 0 = u333 := xGR_ld (Lo := [some 29, some 31, some 33, some 35, some 37, some 39, some 41, some 43, some 45, some 47, some 49, some 51]) I.1 rfl ept331 (by omega) (by show _ < ((12 : Nat) : Int); omega) A338 rfl A339
                have bHG340 : (-9) ≤ u333.toInt ∧ u333.toInt ≤ 5 := by rw [← HG340]; exact ry339 _ (xj_nat (n := 12) (by omega) (by omega))
                obtain ⟨y341, A341, hy341, ry341⟩ := xk_arr K.1 xD_127
                have HG342 : y341.getD (Int32.toNatClampNeg a19) 0 = u335 := xGR_ld (Lo := [some 29, some 31, some 33, some 35, some 37, some 39, some 41, some 43, some 45, some 47, some 49, some 51]) I.2.1 rfl ept331 (by omega) (by show _ < ((12 : Nat) : Int); omega) A338 rfl A341
                have bHG342 : 0 ≤ u335.toInt ∧ u335.toInt ≤ 1 := by rw [← HG342]; exact ry341 _ (xj_nat (n := 12) (by omega) (by omega))
                have A343 := ((eh325.2.1 pt331 (Ne.symm (xk_nc mpt331 rfl))).trans A338)
                refine xi_virtual (mj := 105) (as := []) (st1 := []) (lv0 := [(0, .ref pt331)]) kc_103_64 rfl rfl rfl rfl rfl A343 (Nat.le_of_ble_eq_true rfl) (hJ _ _ _ _ (by decide)) (xm_le ml_105 rfl) rfl ?_
                refine xi_aload_n (pc' := 1) (x := pt331) kc_105_0 rfl rfl ?_
                refine xi_getfield (pc' := 4) (v := .int u333) kc_105_1 rfl rfl rfl A343 rfl ?_
                refine xi_static (mj := 89) (as := [.int u333]) (st1 := []) (lv0 := [(0, .int u333)]) kc_105_4 rfl rfl (Nat.le_of_ble_eq_true rfl) rfl rfl (Nat.le_of_ble_eq_true rfl) (hJ _ _ _ _ (by decide)) (xm_le ml_89 rfl) rfl ?_
                refine xi_iload_n (pc' := 1) (x := u333) kc_89_0 rfl rfl ?_
                by_cases c344 : u333.toInt < 0
                · refine xi_ift (pc' := 14) kc_89_1 rfl (xc_lt_t (X := u333.toInt) (Y := 0) rfl (by decide) (by omega)) ?_
                  refine xi_iconst (pc' := 15) (v := 0) kc_89_14 rfl rfl ?_
                  refine xi_ireturn kc_89_15 mr_89 rfl ?_
                  show xw J ov 98 105 (7, [(0, .ref pt331)], [.int 0], hh326) _
                  refine xi_ireturn kc_105_7 mr_105 rfl ?_
                  show xw J ov 99 103 (67, [(5, .ref pt331), (0, .ref 0), (1, .int a19), (2, .int a21), (3, .int a23), (4, .int 1)], [.int 0], hh326) _
                  refine xi_ift (pc' := 74) kc_103_67 rfl rfl ?_
                  refine xi_iconst (pc' := 75) (v := 1) kc_103_74 rfl rfl ?_
                  refine xi_istore (pc' := 77) (lv' := [(6, .int 1), (5, .ref pt331), (0, .ref 0), (1, .int a19), (2, .int a21), (3, .int a23), (4, .int 1)]) kc_103_75 rfl rfl (xm_lt ml_103 rfl) ?_
                  refine xi_aload (pc' := 79) (x := pt331) kc_103_77 rfl rfl ?_
                  refine xi_iload_n (pc' := 80) (x := a21) kc_103_79 rfl rfl ?_
                  refine xi_putfield (pc' := 83) (fs' := [.int a21, .int u334, .int u335, .int u336, .ref pt337]) kc_103_80 rfl rfl rfl A343 rfl rfl rfl (Nat.le_of_ble_eq_true rfl) rfl (fun hh346 eh345 => ?_)
                  obtain ⟨ds347, Dds347, dds347_0, dds347_1, dds347_2, dds347_3⟩ := xGo_wall mpt331
                  have K348 := xk_pf (k := 0) (v := a21) K327 (xk_gf mpt331 rfl) Dds347 A343 dds347_0 (by first | omega | decide) (by first | omega | decide) eh345 rfl
                  refine xi_aload (pc' := 85) (x := pt331) kc_103_83 rfl rfl ?_
                  refine xi_iload_n (pc' := 86) (x := a23) kc_103_85 rfl rfl ?_
                  refine xi_putfield (pc' := 89) (fs' := [.int a21, .int a23, .int u335, .int u336, .ref pt337]) kc_103_86 rfl rfl rfl eh345.1 rfl rfl rfl (Nat.le_of_ble_eq_true rfl) rfl (fun hh350 eh349 => ?_)
                  obtain ⟨ds351, Dds351, dds351_0, dds351_1, dds351_2, dds351_3⟩ := xGo_wall mpt331
                  have K352 := xk_pf (k := 1) (v := a23) K348 (xk_gf mpt331 rfl) Dds351 eh345.1 dds351_1 (by first | omega | decide) (by first | omega | decide) eh349 rfl
                  refine xi_aload (pc' := 91) (x := pt331) kc_103_89 rfl rfl ?_
                  refine xi_iload (pc' := 93) (x := 1) kc_103_91 rfl rfl ?_
                  refine xi_putfield (pc' := 96) (fs' := [.int a21, .int a23, .int 1, .int u336, .ref pt337]) kc_103_93 rfl rfl rfl eh349.1 rfl rfl rfl (Nat.le_of_ble_eq_true rfl) rfl (fun hh354 eh353 => ?_)
                  obtain ⟨ds355, Dds355, dds355_0, dds355_1, dds355_2, dds355_3⟩ := xGo_wall mpt331
                  have K356 := xk_pf (k := 2) (v := 1) K352 (xk_gf mpt331 rfl) Dds355 eh349.1 dds355_2 (by first | omega | decide) (by first | omega | decide) eh353 rfl
                  refine xi_iload (pc' := 98) (x := 1) kc_103_96 rfl rfl ?_
                  refine xi_ireturn kc_103_98 mr_103 rfl ?_
                  show xw J ov 100 195 (437, [(4, .int x4), (3, .ref 167), (2, .ref 115), (1, .ref 0), (0, .ref 1000000)], [.int 1], hh354) _
                  refine xi_pop (pc' := 438) kc_195_437 rfl rfl ?_
                  refine xi_aload_n (pc' := 439) (x := 115) kc_195_438 rfl rfl ?_
                  refine xi_aload_n (pc' := 440) (x := 1000000) kc_195_439 rfl rfl ?_
                  refine xi_iload (pc' := 442) (x := x4) kc_195_440 rfl rfl ?_
                  refine xi_iconst (pc' := 443) (v := 1) kc_195_442 rfl rfl ?_
                  refine xi_iadd (pc' := 444) (v := v18) kc_195_443 rfl ev18 ?_
                  refine xi_ialoadO (pc' := 445) (v := a19) kc_195_444 rfl (by decide) hov0 (xi_in (by omega) (by omega)) ea19 ?_
                  refine xi_aload_n (pc' := 446) (x := 1000000) kc_195_445 rfl rfl ?_
                  refine xi_iload (pc' := 448) (x := x4) kc_195_446 rfl rfl ?_
                  refine xi_iconst (pc' := 449) (v := 2) kc_195_448 rfl rfl ?_
                  refine xi_iadd (pc' := 450) (v := v20) kc_195_449 rfl ev20 ?_
                  refine xi_ialoadO (pc' := 451) (v := a21) kc_195_450 rfl (by decide) hov0 (xi_in (by omega) (by omega)) ea21 ?_
                  refine xi_aload_n (pc' := 452) (x := 1000000) kc_195_451 rfl rfl ?_
                  refine xi_iload (pc' := 454) (x := x4) kc_195_452 rfl rfl ?_
                  refine xi_iconst (pc' := 455) (v := 3) kc_195_454 rfl rfl ?_
                  refine xi_iadd (pc' := 456) (v := v22) kc_195_455 rfl ev22 ?_
                  refine xi_ialoadO (pc' := 457) (v := a23) kc_195_456 rfl (by decide) hov0 (xi_in (by omega) (by omega)) ea23 ?_
                  refine xi_aload_n (pc' := 458) (x := 1000000) kc_195_457 rfl rfl ?_
                  refine xi_iload (pc' := 460) (x := x4) kc_195_458 rfl rfl ?_
                  refine xi_iconst (pc' := 461) (v := 4) kc_195_460 rfl rfl ?_
                  refine xi_iadd (pc' := 462) (v := v24) kc_195_461 rfl ev24 ?_
                  refine xi_ialoadO (pc' := 463) (v := a25) kc_195_462 rfl (by decide) hov0 (xi_in (by omega) (by omega)) ea25 ?_
                  refine xi_iff (pc' := 466) kc_195_463 rfl (xc_eq_f (X := a25.toInt) (Y := 0) rfl (by decide) (by omega)) ?_
                  refine xi_iconst (pc' := 467) (v := 1) kc_195_466 rfl rfl ?_
                  refine xi_goto (pc' := 471) kc_195_467 rfl ?_
                  have A357 := ((eh353.2.1 115 (xk_nc mpt331 rfl)).trans ((eh349.2.1 115 (xk_nc mpt331 rfl)).trans ((eh345.2.1 115 (xk_nc mpt331 rfl)).trans ((eh325.2.1 115 (by decide)).trans A17))))
                  refine xi_virtual (mj := 23) (as := [.int a19, .int a21, .int a23, .int 1]) (st1 := []) (lv0 := [(0, .ref 115), (1, .int a19), (2, .int a21), (3, .int a23), (4, .int 1)]) kc_195_471 rfl rfl rfl rfl rfl A357 (Nat.le_of_ble_eq_true rfl) (hJ _ _ _ _ (by decide)) (xm_le ml_23 rfl) rfl ?_
                  refine xi_aload_n (pc' := 1) (x := 115) kc_23_0 rfl rfl ?_
                  refine xi_iconst (pc' := 2) (v := 0) kc_23_1 rfl rfl ?_
                  refine xi_putfield (pc' := 5) (fs' := [.int 0, .int u5, .ref 116, .ref 117, .ref 118, .ref 119, .ref 120, .ref 121, .ref 122, .ref 123, .ref 124, .ref 125, .ref 126, .ref 127, .ref 128, .ref 129, .int u6, .ref 130, .int u7, .ref 131, .ref 132, .ref 133, .ref 134, .int u1, .ref 135, .ref 136, .ref 137, .ref 138, .ref 139, .ref 140, .ref 141, .ref 142, .int u9, .int u10, .int u11, .ref 143, .ref 144, .ref 145, .ref 146, .ref 147, .ref 148, .int u12, .ref 149, .ref 150, .ref 151, .int u13, .ref 152, .ref 153, .ref 154, .ref 155, .ref 156, .ref 157, .ref 158, .ref 159, .int u14, .ref 160, .int u15, .ref 161, .ref 162, .ref 163, .ref 164, .int u16, .ref 165, .ref 166]) kc_23_2 rfl rfl rfl A357 rfl rfl rfl (Nat.le_of_ble_eq_true rfl) rfl (fun hh359 eh358 => ?_)
                  have K360 := xk_pf (k := 0) (v := 0) K356 (xk_wf rfl) xD_115 A357 rfl (by first | omega | decide) (by first | omega | decide) eh358 rfl
                  refine xi_iload_n (pc' := 6) (x := a19) kc_23_5 rfl rfl ?_
                  refine xi_static (mj := 24) (as := [.int a19]) (st1 := []) (lv0 := [(0, .int a19)]) kc_23_6 rfl rfl (Nat.le_of_ble_eq_true rfl) rfl rfl (Nat.le_of_ble_eq_true rfl) (hJ _ _ _ _ (by decide)) (xm_le ml_24 rfl) rfl ?_
                  refine xi_iload_n (pc' := 1) (x := a19) kc_24_0 rfl rfl ?_
                  refine xi_iconst (pc' := 2) (v := 0) kc_24_1 rfl rfl ?_
                  refine xi_bipush (pc' := 4) (v := 11) kc_24_2 rfl rfl ?_
                  refine xi_static (mj := 11) (as := [.int a19, .int 0, .int 11]) (st1 := []) (lv0 := [(0, .int a19), (1, .int 0), (2, .int 11)]) kc_24_4 rfl rfl (Nat.le_of_ble_eq_true rfl) rfl rfl (Nat.le_of_ble_eq_true rfl) (hJ _ _ _ _ (by decide)) (xm_le ml_11 rfl) rfl ?_
                  refine xi_iload_n (pc' := 1) (x := a19) kc_11_0 rfl rfl ?_
                  refine xi_iload_n (pc' := 2) (x := 0) kc_11_1 rfl rfl ?_
                  refine xi_cmf (pc' := 5) kc_11_2 rfl (xc_lt_f (X := a19.toInt) (Y := 0) rfl (by decide) (by omega)) ?_
                  refine xi_iload_n (pc' := 6) (x := a19) kc_11_5 rfl rfl ?_
                  refine xi_iload_n (pc' := 7) (x := 11) kc_11_6 rfl rfl ?_
                  refine xi_cmf (pc' := 10) kc_11_7 rfl (xc_gt_f (X := a19.toInt) (Y := 11) rfl (by decide) (by omega)) ?_
                  refine xi_iconst (pc' := 11) (v := 1) kc_11_10 rfl rfl ?_
                  refine xi_goto (pc' := 15) kc_11_11 rfl ?_
                  refine xi_ireturn kc_11_15 mr_11 rfl ?_
                  show xw J ov 98 24 (7, [(0, .int a19)], [.int 1], hh359) _
                  refine xi_ireturn kc_24_7 mr_24 rfl ?_
                  show xw J ov 99 23 (9, [(0, .ref 115), (1, .int a19), (2, .int a21), (3, .int a23), (4, .int 1)], [.int 1], hh359) _
                  refine xi_iff (pc' := 12) kc_23_9 rfl rfl ?_
                  refine xi_iload_n (pc' := 13) (x := a21) kc_23_12 rfl rfl ?_
                  refine xi_static (mj := 10) (as := [.int a21]) (st1 := []) (lv0 := [(0, .int a21)]) kc_23_13 rfl rfl (Nat.le_of_ble_eq_true rfl) rfl rfl (Nat.le_of_ble_eq_true rfl) (hJ _ _ _ _ (by decide)) (xm_le ml_10 rfl) rfl ?_
                  refine xi_iload_n (pc' := 1) (x := a21) kc_10_0 rfl rfl ?_
                  refine xi_iconst (pc' := 2) (v := 0) kc_10_1 rfl rfl ?_
                  refine xi_iconst (pc' := 3) (v := 5) kc_10_2 rfl rfl ?_
                  refine xi_static (mj := 11) (as := [.int a21, .int 0, .int 5]) (st1 := []) (lv0 := [(0, .int a21), (1, .int 0), (2, .int 5)]) kc_10_3 rfl rfl (Nat.le_of_ble_eq_true rfl) rfl rfl (Nat.le_of_ble_eq_true rfl) (hJ _ _ _ _ (by decide)) (xm_le ml_11 rfl) rfl ?_
                  refine xi_iload_n (pc' := 1) (x := a21) kc_11_0 rfl rfl ?_
                  refine xi_iload_n (pc' := 2) (x := 0) kc_11_1 rfl rfl ?_
                  refine xi_cmf (pc' := 5) kc_11_2 rfl (xc_lt_f (X := a21.toInt) (Y := 0) rfl (by decide) (by omega)) ?_
                  refine xi_iload_n (pc' := 6) (x := a21) kc_11_5 rfl rfl ?_
                  refine xi_iload_n (pc' := 7) (x := 5) kc_11_6 rfl rfl ?_
                  refine xi_cmf (pc' := 10) kc_11_7 rfl (xc_gt_f (X := a21.toInt) (Y := 5) rfl (by decide) (by omega)) ?_
                  refine xi_iconst (pc' := 11) (v := 1) kc_11_10 rfl rfl ?_
                  refine xi_goto (pc' := 15) kc_11_11 rfl ?_
                  refine xi_ireturn kc_11_15 mr_11 rfl ?_
                  show xw J ov 98 10 (6, [(0, .int a21)], [.int 1], hh359) _
                  refine xi_ireturn kc_10_6 mr_10 rfl ?_
                  show xw J ov 99 23 (16, [(0, .ref 115), (1, .int a19), (2, .int a21), (3, .int a23), (4, .int 1)], [.int 1], hh359) _
                  refine xi_ift (pc' := 25) kc_23_16 rfl rfl ?_
                  refine xi_iload_n (pc' := 26) (x := a23) kc_23_25 rfl rfl ?_
                  refine xi_ift (pc' := 36) kc_23_26 rfl (xc_ge_t (X := a23.toInt) (Y := 0) rfl (by decide) (by omega)) ?_
                  refine xi_iload_n (pc' := 37) (x := a23) kc_23_36 rfl rfl ?_
                  refine xi_bipush (pc' := 39) (v := 100) kc_23_37 rfl rfl ?_
                  refine xi_cmt (pc' := 49) kc_23_39 rfl (xc_le_t (X := a23.toInt) (Y := 100) rfl (by decide) (by omega)) ?_
                  refine xi_aload_n (pc' := 50) (x := 115) kc_23_49 rfl rfl ?_
                  refine xi_getfield (pc' := 53) (v := .ref 125) kc_23_50 rfl rfl rfl eh358.1 rfl ?_
                  refine xi_iload_n (pc' := 54) (x := a19) kc_23_53 rfl rfl ?_
                  have A361 := ((eh358.2.1 125 (by decide)).trans ((eh353.2.1 125 (xk_nc mpt331 rfl)).trans ((eh349.2.1 125 (xk_nc mpt331 rfl)).trans ((eh345.2.1 125 (xk_nc mpt331 rfl)).trans ((eh325.2.1 125 (by decide)).trans A339)))))
                  refine xi_iaload (pc' := 55) (v := u333) kc_23_54 rfl A361 (by decide) rfl (xi_in (by omega) (by rw [hy339]; omega)) HG340 ?_
                  refine xi_ift (pc' := 62) kc_23_55 rfl (xc_lt_t (X := u333.toInt) (Y := 0) rfl (by decide) (by omega)) ?_
                  refine xi_iconst (pc' := 63) (v := 0) kc_23_62 rfl rfl ?_
                  refine xi_istore (pc' := 65) (lv' := [(5, .int 0), (0, .ref 115), (1, .int a19), (2, .int a21), (3, .int a23), (4, .int 1)]) kc_23_63 rfl rfl (xm_lt ml_23 rfl) ?_
                  refine xi_aload_n (pc' := 66) (x := 115) kc_23_65 rfl rfl ?_
                  refine xi_getfield (pc' := 69) (v := .ref 125) kc_23_66 rfl rfl rfl eh358.1 rfl ?_
                  refine xi_iload_n (pc' := 70) (x := a19) kc_23_69 rfl rfl ?_
                  refine xi_iload_n (pc' := 71) (x := a21) kc_23_70 rfl rfl ?_
                  obtain ⟨y362, s362, hy362, ry362⟩ := xj_set (v := a21) hy339 ry339 a19 (by first | omega | decide) (by first | omega | decide)
                  refine xi_iastore (pc' := 72) (x' := y362) kc_23_71 rfl A361 rfl (xi_in (by omega) (by rw [hy339]; omega)) s362 (fun hh362 eh362 => ?_)
                  have K363 := xk_pa K360 (xk_wa rfl) xD_125 hy362 ry362 eh362
                  refine xi_aload_n (pc' := 73) (x := 115) kc_23_72 rfl rfl ?_
                  have A364 := ((eh362.2.1 115 (by decide)).trans eh358.1)
                  refine xi_getfield (pc' := 76) (v := .ref 126) kc_23_73 rfl rfl rfl A364 rfl ?_
                  refine xi_iload_n (pc' := 77) (x := a19) kc_23_76 rfl rfl ?_
                  refine xi_iload_n (pc' := 78) (x := a23) kc_23_77 rfl rfl ?_
                  obtain ⟨y365, A365, hy365, ry365⟩ := xk_arr K.1 xD_126
                  have A366 := ((eh362.2.1 126 (by decide)).trans ((eh358.2.1 126 (by decide)).trans ((eh353.2.1 126 (xk_nc mpt331 rfl)).trans ((eh349.2.1 126 (xk_nc mpt331 rfl)).trans ((eh345.2.1 126 (xk_nc mpt331 rfl)).trans ((eh325.2.1 126 (by decide)).trans A365))))))
                  obtain ⟨y367, s367, hy367, ry367⟩ := xj_set (v := a23) hy365 ry365 a19 (by first | omega | decide) (by first | omega | decide)
                  refine xi_iastore (pc' := 79) (x' := y367) kc_23_78 rfl A366 rfl (xi_in (by omega) (by rw [hy365]; omega)) s367 (fun hh367 eh367 => ?_)
                  have K368 := xk_pa K363 (xk_wa rfl) xD_126 hy367 ry367 eh367
                  refine xi_aload_n (pc' := 80) (x := 115) kc_23_79 rfl rfl ?_
                  have A369 := ((eh367.2.1 115 (by decide)).trans A364)
                  refine xi_getfield (pc' := 83) (v := .ref 127) kc_23_80 rfl rfl rfl A369 rfl ?_
                  refine xi_iload_n (pc' := 84) (x := a19) kc_23_83 rfl rfl ?_
                  refine xi_iload (pc' := 86) (x := 1) kc_23_84 rfl rfl ?_
                  have A370 := ((eh367.2.1 127 (by decide)).trans ((eh362.2.1 127 (by decide)).trans ((eh358.2.1 127 (by decide)).trans ((eh353.2.1 127 (xk_nc mpt331 rfl)).trans ((eh349.2.1 127 (xk_nc mpt331 rfl)).trans ((eh345.2.1 127 (xk_nc mpt331 rfl)).trans ((eh325.2.1 127 (by decide)).trans A341)))))))
                  obtain ⟨y371, s371, hy371, ry371⟩ := xj_set (v := 1) hy341 ry341 a19 (by first | omega | decide) (by first | omega | decide)
                  refine xi_bastore (pc' := 87) (x' := y371) kc_23_86 rfl A370 rfl (xi_in (by omega) (by rw [hy341]; omega)) s371 (fun hh371 eh371 => ?_)
                  have K372 := xk_pa K368 (xk_wa rfl) xD_127 hy371 ry371 eh371
                  refine xi_aload_n (pc' := 88) (x := 115) kc_23_87 rfl rfl ?_
                  refine xi_iconst (pc' := 89) (v := 0) kc_23_88 rfl rfl ?_
                  have A373 := ((eh371.2.1 115 (by decide)).trans A369)
                  refine xi_putfield (pc' := 92) (fs' := [.int 0, .int u5, .ref 116, .ref 117, .ref 118, .ref 119, .ref 120, .ref 121, .ref 122, .ref 123, .ref 124, .ref 125, .ref 126, .ref 127, .ref 128, .ref 129, .int u6, .ref 130, .int u7, .ref 131, .ref 132, .ref 133, .ref 134, .int u1, .ref 135, .ref 136, .ref 137, .ref 138, .ref 139, .ref 140, .ref 141, .ref 142, .int u9, .int u10, .int u11, .ref 143, .ref 144, .ref 145, .ref 146, .ref 147, .ref 148, .int 0, .ref 149, .ref 150, .ref 151, .int u13, .ref 152, .ref 153, .ref 154, .ref 155, .ref 156, .ref 157, .ref 158, .ref 159, .int u14, .ref 160, .int u15, .ref 161, .ref 162, .ref 163, .ref 164, .int u16, .ref 165, .ref 166]) kc_23_89 rfl rfl rfl A373 rfl rfl rfl (Nat.le_of_ble_eq_true rfl) rfl (fun hh375 eh374 => ?_)
                  have K376 := xk_pf (k := 41) (v := 0) K372 (xk_wf rfl) xD_115 A373 rfl (by first | omega | decide) (by first | omega | decide) eh374 rfl
                  refine xi_iload (pc' := 94) (x := 0) kc_23_92 rfl rfl ?_
                  refine xi_ift (pc' := 101) kc_23_94 rfl rfl ?_
                  refine xi_iconst (pc' := 102) (v := 1) kc_23_101 rfl rfl ?_
                  refine xi_ireturn kc_23_102 mr_23 rfl ?_
                  show xw J ov 100 195 (474, [(4, .int x4), (3, .ref 167), (2, .ref 115), (1, .ref 0), (0, .ref 1000000)], [.int 1], hh375) _
                  refine xi_pop (pc' := 475) kc_195_474 rfl rfl ?_
                  refine xi_goto (pc' := 1501) kc_195_475 rfl ?_
                  obtain ⟨v377, ev377⟩ : ∃ q : Int32, x4 + 6 = q := ⟨_, rfl⟩
                  have zv377 : v377.toInt = (x4.toInt + 6) := by rw [← ev377]; exact (xz_add (X := x4.toInt) (Y := 6) rfl (by decide) (by omega) (by omega)).trans (by omega)
                  refine xi_iinc (pc' := 1504) (x := x4) (v := v377) (lv' := [(4, .int v377), (3, .ref 167), (2, .ref 115), (1, .ref 0), (0, .ref 1000000)]) kc_195_1501 rfl rfl ev377 rfl (xm_lt ml_195 rfl) ?_
                  refine xi_goto (pc' := 23) kc_195_1504 rfl ?_
                  have A378 := ((eh374.2.1 pt331 (Ne.symm (xk_nc mpt331 rfl))).trans ((eh371.2.1 pt331 (Ne.symm (xk_nc mpt331 rfl))).trans ((eh367.2.1 pt331 (Ne.symm (xk_nc mpt331 rfl))).trans ((eh362.2.1 pt331 (Ne.symm (xk_nc mpt331 rfl))).trans ((eh358.2.1 pt331 (Ne.symm (xk_nc mpt331 rfl))).trans eh353.1)))))
                  have A379 := ((eh374.2.1 125 (by decide)).trans ((eh371.2.1 125 (by decide)).trans ((eh367.2.1 125 (by decide)).trans eh362.1)))
                  have A380 := ((eh374.2.1 127 (by decide)).trans eh371.1)
                  have A381 := ((eh374.2.1 1 (by decide)).trans ((eh371.2.1 1 (by decide)).trans ((eh367.2.1 1 (by decide)).trans ((eh362.2.1 1 (by decide)).trans ((eh358.2.1 1 (by decide)).trans ((eh353.2.1 1 (xk_nc mpt331 rfl)).trans ((eh349.2.1 1 (xk_nc mpt331 rfl)).trans ((eh345.2.1 1 (xk_nc mpt331 rfl)).trans A329))))))))
                  exact kk v377 hh375 (by omega) K376 ⟨(xGR_set (Lo := [some 29, some 31, some 33, some 35, some 37, some 39, some 41, some 43, some 45, some 47, some 49, some 51]) I.1 (by decide) rfl ept331 (by omega) (by show _ < ((12 : Nat) : Int); omega) A339 (by rw [hy339]; decide) A378 rfl A379 s362 (fun c hc hne => ((eh374.2.1 c (Ne.symm (xk_nc hc rfl))).trans ((eh371.2.1 c (Ne.symm (xk_nc hc rfl))).trans ((eh367.2.1 c (Ne.symm (xk_nc hc rfl))).trans ((eh362.2.1 c (Ne.symm (xk_nc hc rfl))).trans ((eh358.2.1 c (Ne.symm (xk_nc hc rfl))).trans ((eh353.2.1 c hne).trans ((eh349.2.1 c hne).trans ((eh345.2.1 c hne).trans (eh325.2.1 c (Ne.symm (xk_nc hc rfl))))))))))))), (xGR_set (Lo := [some 29, some 31, some 33, some 35, some 37, some 39, some 41, some 43, some 45, some 47, some 49, some 51]) I.2.1 (by decide) rfl ept331 (by omega) (by show _ < ((12 : Nat) : Int); omega) A341 (by rw [hy341]; decide) A378 rfl A380 s371 (fun c hc hne => ((eh374.2.1 c (Ne.symm (xk_nc hc rfl))).trans ((eh371.2.1 c (Ne.symm (xk_nc hc rfl))).trans ((eh367.2.1 c (Ne.symm (xk_nc hc rfl))).trans ((eh362.2.1 c (Ne.symm (xk_nc hc rfl))).trans ((eh358.2.1 c (Ne.symm (xk_nc hc rfl))).trans ((eh353.2.1 c hne).trans ((eh349.2.1 c hne).trans ((eh345.2.1 c hne).trans (eh325.2.1 c (Ne.symm (xk_nc hc rfl))))))))))))), ((xl_of A381 rfl).trans (xl_of eh374.1 rfl).symm)⟩
                · refine xi_iff (pc' := 4) kc_89_1 rfl (xc_lt_f (X := u333.toInt) (Y := 0) rfl (by decide) (by omega)) ?_
                  refine xi_iload_n (pc' := 5) (x := u333) kc_89_4 rfl rfl ?_
                  refine xi_bipush (pc' := 7) (v := 6) kc_89_5 rfl rfl ?_
                  refine xi_cmf (pc' := 10) kc_89_7 rfl (xc_ge_f (X := u333.toInt) (Y := 6) rfl (by decide) (by omega)) ?_
                  refine xi_iconst (pc' := 11) (v := 1) kc_89_10 rfl rfl ?_
                  refine xi_goto (pc' := 15) kc_89_11 rfl ?_
                  refine xi_ireturn kc_89_15 mr_89 rfl ?_
                  show xw J ov 98 105 (7, [(0, .ref pt331)], [.int 1], hh326) _
                  refine xi_ireturn kc_105_7 mr_105 rfl ?_
                  show xw J ov 99 103 (67, [(5, .ref pt331), (0, .ref 0), (1, .int a19), (2, .int a21), (3, .int a23), (4, .int 1)], [.int 1], hh326) _
                  refine xi_iff (pc' := 70) kc_103_67 rfl rfl ?_
                  refine xi_iconst (pc' := 71) (v := 0) kc_103_70 rfl rfl ?_
                  refine xi_goto (pc' := 75) kc_103_71 rfl ?_
                  refine xi_istore (pc' := 77) (lv' := [(6, .int 0), (5, .ref pt331), (0, .ref 0), (1, .int a19), (2, .int a21), (3, .int a23), (4, .int 1)]) kc_103_75 rfl rfl (xm_lt ml_103 rfl) ?_
                  refine xi_aload (pc' := 79) (x := pt331) kc_103_77 rfl rfl ?_
                  refine xi_iload_n (pc' := 80) (x := a21) kc_103_79 rfl rfl ?_
                  refine xi_putfield (pc' := 83) (fs' := [.int a21, .int u334, .int u335, .int u336, .ref pt337]) kc_103_80 rfl rfl rfl A343 rfl rfl rfl (Nat.le_of_ble_eq_true rfl) rfl (fun hh383 eh382 => ?_)
                  obtain ⟨ds384, Dds384, dds384_0, dds384_1, dds384_2, dds384_3⟩ := xGo_wall mpt331
                  have K385 := xk_pf (k := 0) (v := a21) K327 (xk_gf mpt331 rfl) Dds384 A343 dds384_0 (by first | omega | decide) (by first | omega | decide) eh382 rfl
                  refine xi_aload (pc' := 85) (x := pt331) kc_103_83 rfl rfl ?_
                  refine xi_iload_n (pc' := 86) (x := a23) kc_103_85 rfl rfl ?_
                  refine xi_putfield (pc' := 89) (fs' := [.int a21, .int a23, .int u335, .int u336, .ref pt337]) kc_103_86 rfl rfl rfl eh382.1 rfl rfl rfl (Nat.le_of_ble_eq_true rfl) rfl (fun hh387 eh386 => ?_)
                  obtain ⟨ds388, Dds388, dds388_0, dds388_1, dds388_2, dds388_3⟩ := xGo_wall mpt331
                  have K389 := xk_pf (k := 1) (v := a23) K385 (xk_gf mpt331 rfl) Dds388 eh382.1 dds388_1 (by first | omega | decide) (by first | omega | decide) eh386 rfl
                  refine xi_aload (pc' := 91) (x := pt331) kc_103_89 rfl rfl ?_
                  refine xi_iload (pc' := 93) (x := 1) kc_103_91 rfl rfl ?_
                  refine xi_putfield (pc' := 96) (fs' := [.int a21, .int a23, .int 1, .int u336, .ref pt337]) kc_103_93 rfl rfl rfl eh386.1 rfl rfl rfl (Nat.le_of_ble_eq_true rfl) rfl (fun hh391 eh390 => ?_)
                  obtain ⟨ds392, Dds392, dds392_0, dds392_1, dds392_2, dds392_3⟩ := xGo_wall mpt331
                  have K393 := xk_pf (k := 2) (v := 1) K389 (xk_gf mpt331 rfl) Dds392 eh386.1 dds392_2 (by first | omega | decide) (by first | omega | decide) eh390 rfl
                  refine xi_iload (pc' := 98) (x := 0) kc_103_96 rfl rfl ?_
                  refine xi_ireturn kc_103_98 mr_103 rfl ?_
                  show xw J ov 100 195 (437, [(4, .int x4), (3, .ref 167), (2, .ref 115), (1, .ref 0), (0, .ref 1000000)], [.int 0], hh391) _
                  refine xi_pop (pc' := 438) kc_195_437 rfl rfl ?_
                  refine xi_aload_n (pc' := 439) (x := 115) kc_195_438 rfl rfl ?_
                  refine xi_aload_n (pc' := 440) (x := 1000000) kc_195_439 rfl rfl ?_
                  refine xi_iload (pc' := 442) (x := x4) kc_195_440 rfl rfl ?_
                  refine xi_iconst (pc' := 443) (v := 1) kc_195_442 rfl rfl ?_
                  refine xi_iadd (pc' := 444) (v := v18) kc_195_443 rfl ev18 ?_
                  refine xi_ialoadO (pc' := 445) (v := a19) kc_195_444 rfl (by decide) hov0 (xi_in (by omega) (by omega)) ea19 ?_
                  refine xi_aload_n (pc' := 446) (x := 1000000) kc_195_445 rfl rfl ?_
                  refine xi_iload (pc' := 448) (x := x4) kc_195_446 rfl rfl ?_
                  refine xi_iconst (pc' := 449) (v := 2) kc_195_448 rfl rfl ?_
                  refine xi_iadd (pc' := 450) (v := v20) kc_195_449 rfl ev20 ?_
                  refine xi_ialoadO (pc' := 451) (v := a21) kc_195_450 rfl (by decide) hov0 (xi_in (by omega) (by omega)) ea21 ?_
                  refine xi_aload_n (pc' := 452) (x := 1000000) kc_195_451 rfl rfl ?_
                  refine xi_iload (pc' := 454) (x := x4) kc_195_452 rfl rfl ?_
                  refine xi_iconst (pc' := 455) (v := 3) kc_195_454 rfl rfl ?_
                  refine xi_iadd (pc' := 456) (v := v22) kc_195_455 rfl ev22 ?_
                  refine xi_ialoadO (pc' := 457) (v := a23) kc_195_456 rfl (by decide) hov0 (xi_in (by omega) (by omega)) ea23 ?_
                  refine xi_aload_n (pc' := 458) (x := 1000000) kc_195_457 rfl rfl ?_
                  refine xi_iload (pc' := 460) (x := x4) kc_195_458 rfl rfl ?_
                  refine xi_iconst (pc' := 461) (v := 4) kc_195_460 rfl rfl ?_
                  refine xi_iadd (pc' := 462) (v := v24) kc_195_461 rfl ev24 ?_
                  refine xi_ialoadO (pc' := 463) (v := a25) kc_195_462 rfl (by decide) hov0 (xi_in (by omega) (by omega)) ea25 ?_
                  refine xi_iff (pc' := 466) kc_195_463 rfl (xc_eq_f (X := a25.toInt) (Y := 0) rfl (by decide) (by omega)) ?_
                  refine xi_iconst (pc' := 467) (v := 1) kc_195_466 rfl rfl ?_
                  refine xi_goto (pc' := 471) kc_195_467 rfl ?_
                  have A394 := ((eh390.2.1 115 (xk_nc mpt331 rfl)).trans ((eh386.2.1 115 (xk_nc mpt331 rfl)).trans ((eh382.2.1 115 (xk_nc mpt331 rfl)).trans ((eh325.2.1 115 (by decide)).trans A17))))
                  refine xi_virtual (mj := 23) (as := [.int a19, .int a21, .int a23, .int 1]) (st1 := []) (lv0 := [(0, .ref 115), (1, .int a19), (2, .int a21), (3, .int a23), (4, .int 1)]) kc_195_471 rfl rfl rfl rfl rfl A394 (Nat.le_of_ble_eq_true rfl) (hJ _ _ _ _ (by decide)) (xm_le ml_23 rfl) rfl ?_
                  refine xi_aload_n (pc' := 1) (x := 115) kc_23_0 rfl rfl ?_
                  refine xi_iconst (pc' := 2) (v := 0) kc_23_1 rfl rfl ?_
                  refine xi_putfield (pc' := 5) (fs' := [.int 0, .int u5, .ref 116, .ref 117, .ref 118, .ref 119, .ref 120, .ref 121, .ref 122, .ref 123, .ref 124, .ref 125, .ref 126, .ref 127, .ref 128, .ref 129, .int u6, .ref 130, .int u7, .ref 131, .ref 132, .ref 133, .ref 134, .int u1, .ref 135, .ref 136, .ref 137, .ref 138, .ref 139, .ref 140, .ref 141, .ref 142, .int u9, .int u10, .int u11, .ref 143, .ref 144, .ref 145, .ref 146, .ref 147, .ref 148, .int u12, .ref 149, .ref 150, .ref 151, .int u13, .ref 152, .ref 153, .ref 154, .ref 155, .ref 156, .ref 157, .ref 158, .ref 159, .int u14, .ref 160, .int u15, .ref 161, .ref 162, .ref 163, .ref 164, .int u16, .ref 165, .ref 166]) kc_23_2 rfl rfl rfl A394 rfl rfl rfl (Nat.le_of_ble_eq_true rfl) rfl (fun hh396 eh395 => ?_)
                  have K397 := xk_pf (k := 0) (v := 0) K393 (xk_wf rfl) xD_115 A394 rfl (by first | omega | decide) (by first | omega | decide) eh395 rfl
                  refine xi_iload_n (pc' := 6) (x := a19) kc_23_5 rfl rfl ?_
                  refine xi_static (mj := 24) (as := [.int a19]) (st1 := []) (lv0 := [(0, .int a19)]) kc_23_6 rfl rfl (Nat.le_of_ble_eq_true rfl) rfl rfl (Nat.le_of_ble_eq_true rfl) (hJ _ _ _ _ (by decide)) (xm_le ml_24 rfl) rfl ?_
                  refine xi_iload_n (pc' := 1) (x := a19) kc_24_0 rfl rfl ?_
                  refine xi_iconst (pc' := 2) (v := 0) kc_24_1 rfl rfl ?_
                  refine xi_bipush (pc' := 4) (v := 11) kc_24_2 rfl rfl ?_
                  refine xi_static (mj := 11) (as := [.int a19, .int 0, .int 11]) (st1 := []) (lv0 := [(0, .int a19), (1, .int 0), (2, .int 11)]) kc_24_4 rfl rfl (Nat.le_of_ble_eq_true rfl) rfl rfl (Nat.le_of_ble_eq_true rfl) (hJ _ _ _ _ (by decide)) (xm_le ml_11 rfl) rfl ?_
                  refine xi_iload_n (pc' := 1) (x := a19) kc_11_0 rfl rfl ?_
                  refine xi_iload_n (pc' := 2) (x := 0) kc_11_1 rfl rfl ?_
                  refine xi_cmf (pc' := 5) kc_11_2 rfl (xc_lt_f (X := a19.toInt) (Y := 0) rfl (by decide) (by omega)) ?_
                  refine xi_iload_n (pc' := 6) (x := a19) kc_11_5 rfl rfl ?_
                  refine xi_iload_n (pc' := 7) (x := 11) kc_11_6 rfl rfl ?_
                  refine xi_cmf (pc' := 10) kc_11_7 rfl (xc_gt_f (X := a19.toInt) (Y := 11) rfl (by decide) (by omega)) ?_
                  refine xi_iconst (pc' := 11) (v := 1) kc_11_10 rfl rfl ?_
                  refine xi_goto (pc' := 15) kc_11_11 rfl ?_
                  refine xi_ireturn kc_11_15 mr_11 rfl ?_
                  show xw J ov 98 24 (7, [(0, .int a19)], [.int 1], hh396) _
                  refine xi_ireturn kc_24_7 mr_24 rfl ?_
                  show xw J ov 99 23 (9, [(0, .ref 115), (1, .int a19), (2, .int a21), (3, .int a23), (4, .int 1)], [.int 1], hh396) _
                  refine xi_iff (pc' := 12) kc_23_9 rfl rfl ?_
                  refine xi_iload_n (pc' := 13) (x := a21) kc_23_12 rfl rfl ?_
                  refine xi_static (mj := 10) (as := [.int a21]) (st1 := []) (lv0 := [(0, .int a21)]) kc_23_13 rfl rfl (Nat.le_of_ble_eq_true rfl) rfl rfl (Nat.le_of_ble_eq_true rfl) (hJ _ _ _ _ (by decide)) (xm_le ml_10 rfl) rfl ?_
                  refine xi_iload_n (pc' := 1) (x := a21) kc_10_0 rfl rfl ?_
                  refine xi_iconst (pc' := 2) (v := 0) kc_10_1 rfl rfl ?_
                  refine xi_iconst (pc' := 3) (v := 5) kc_10_2 rfl rfl ?_
                  refine xi_static (mj := 11) (as := [.int a21, .int 0, .int 5]) (st1 := []) (lv0 := [(0, .int a21), (1, .int 0), (2, .int 5)]) kc_10_3 rfl rfl (Nat.le_of_ble_eq_true rfl) rfl rfl (Nat.le_of_ble_eq_true rfl) (hJ _ _ _ _ (by decide)) (xm_le ml_11 rfl) rfl ?_
                  refine xi_iload_n (pc' := 1) (x := a21) kc_11_0 rfl rfl ?_
                  refine xi_iload_n (pc' := 2) (x := 0) kc_11_1 rfl rfl ?_
                  refine xi_cmf (pc' := 5) kc_11_2 rfl (xc_lt_f (X := a21.toInt) (Y := 0) rfl (by decide) (by omega)) ?_
                  refine xi_iload_n (pc' := 6) (x := a21) kc_11_5 rfl rfl ?_
                  refine xi_iload_n (pc' := 7) (x := 5) kc_11_6 rfl rfl ?_
                  refine xi_cmf (pc' := 10) kc_11_7 rfl (xc_gt_f (X := a21.toInt) (Y := 5) rfl (by decide) (by omega)) ?_
                  refine xi_iconst (pc' := 11) (v := 1) kc_11_10 rfl rfl ?_
                  refine xi_goto (pc' := 15) kc_11_11 rfl ?_
                  refine xi_ireturn kc_11_15 mr_11 rfl ?_
                  show xw J ov 98 10 (6, [(0, .int a21)], [.int 1], hh396) _
                  refine xi_ireturn kc_10_6 mr_10 rfl ?_
                  show xw J ov 99 23 (16, [(0, .ref 115), (1, .int a19), (2, .int a21), (3, .int a23), (4, .int 1)], [.int 1], hh396) _
                  refine xi_ift (pc' := 25) kc_23_16 rfl rfl ?_
                  refine xi_iload_n (pc' := 26) (x := a23) kc_23_25 rfl rfl ?_
                  refine xi_ift (pc' := 36) kc_23_26 rfl (xc_ge_t (X := a23.toInt) (Y := 0) rfl (by decide) (by omega)) ?_
                  refine xi_iload_n (pc' := 37) (x := a23) kc_23_36 rfl rfl ?_
                  refine xi_bipush (pc' := 39) (v := 100) kc_23_37 rfl rfl ?_
                  refine xi_cmt (pc' := 49) kc_23_39 rfl (xc_le_t (X := a23.toInt) (Y := 100) rfl (by decide) (by omega)) ?_
                  refine xi_aload_n (pc' := 50) (x := 115) kc_23_49 rfl rfl ?_
                  refine xi_getfield (pc' := 53) (v := .ref 125) kc_23_50 rfl rfl rfl eh395.1 rfl ?_
                  refine xi_iload_n (pc' := 54) (x := a19) kc_23_53 rfl rfl ?_
                  have A398 := ((eh395.2.1 125 (by decide)).trans ((eh390.2.1 125 (xk_nc mpt331 rfl)).trans ((eh386.2.1 125 (xk_nc mpt331 rfl)).trans ((eh382.2.1 125 (xk_nc mpt331 rfl)).trans ((eh325.2.1 125 (by decide)).trans A339)))))
                  refine xi_iaload (pc' := 55) (v := u333) kc_23_54 rfl A398 (by decide) rfl (xi_in (by omega) (by rw [hy339]; omega)) HG340 ?_
                  refine xi_iff (pc' := 58) kc_23_55 rfl (xc_lt_f (X := u333.toInt) (Y := 0) rfl (by decide) (by omega)) ?_
                  refine xi_iconst (pc' := 59) (v := 1) kc_23_58 rfl rfl ?_
                  refine xi_goto (pc' := 63) kc_23_59 rfl ?_
                  refine xi_istore (pc' := 65) (lv' := [(5, .int 1), (0, .ref 115), (1, .int a19), (2, .int a21), (3, .int a23), (4, .int 1)]) kc_23_63 rfl rfl (xm_lt ml_23 rfl) ?_
                  refine xi_aload_n (pc' := 66) (x := 115) kc_23_65 rfl rfl ?_
                  refine xi_getfield (pc' := 69) (v := .ref 125) kc_23_66 rfl rfl rfl eh395.1 rfl ?_
                  refine xi_iload_n (pc' := 70) (x := a19) kc_23_69 rfl rfl ?_
                  refine xi_iload_n (pc' := 71) (x := a21) kc_23_70 rfl rfl ?_
                  obtain ⟨y399, s399, hy399, ry399⟩ := xj_set (v := a21) hy339 ry339 a19 (by first | omega | decide) (by first | omega | decide)
                  refine xi_iastore (pc' := 72) (x' := y399) kc_23_71 rfl A398 rfl (xi_in (by omega) (by rw [hy339]; omega)) s399 (fun hh399 eh399 => ?_)
                  have K400 := xk_pa K397 (xk_wa rfl) xD_125 hy399 ry399 eh399
                  refine xi_aload_n (pc' := 73) (x := 115) kc_23_72 rfl rfl ?_
                  have A401 := ((eh399.2.1 115 (by decide)).trans eh395.1)
                  refine xi_getfield (pc' := 76) (v := .ref 126) kc_23_73 rfl rfl rfl A401 rfl ?_
                  refine xi_iload_n (pc' := 77) (x := a19) kc_23_76 rfl rfl ?_
                  refine xi_iload_n (pc' := 78) (x := a23) kc_23_77 rfl rfl ?_
                  obtain ⟨y402, A402, hy402, ry402⟩ := xk_arr K.1 xD_126
                  have A403 := ((eh399.2.1 126 (by decide)).trans ((eh395.2.1 126 (by decide)).trans ((eh390.2.1 126 (xk_nc mpt331 rfl)).trans ((eh386.2.1 126 (xk_nc mpt331 rfl)).trans ((eh382.2.1 126 (xk_nc mpt331 rfl)).trans ((eh325.2.1 126 (by decide)).trans A402))))))
                  obtain ⟨y404, s404, hy404, ry404⟩ := xj_set (v := a23) hy402 ry402 a19 (by first | omega | decide) (by first | omega | decide)
                  refine xi_iastore (pc' := 79) (x' := y404) kc_23_78 rfl A403 rfl (xi_in (by omega) (by rw [hy402]; omega)) s404 (fun hh404 eh404 => ?_)
                  have K405 := xk_pa K400 (xk_wa rfl) xD_126 hy404 ry404 eh404
                  refine xi_aload_n (pc' := 80) (x := 115) kc_23_79 rfl rfl ?_
                  have A406 := ((eh404.2.1 115 (by decide)).trans A401)
                  refine xi_getfield (pc' := 83) (v := .ref 127) kc_23_80 rfl rfl rfl A406 rfl ?_
                  refine xi_iload_n (pc' := 84) (x := a19) kc_23_83 rfl rfl ?_
                  refine xi_iload (pc' := 86) (x := 1) kc_23_84 rfl rfl ?_
                  have A407 := ((eh404.2.1 127 (by decide)).trans ((eh399.2.1 127 (by decide)).trans ((eh395.2.1 127 (by decide)).trans ((eh390.2.1 127 (xk_nc mpt331 rfl)).trans ((eh386.2.1 127 (xk_nc mpt331 rfl)).trans ((eh382.2.1 127 (xk_nc mpt331 rfl)).trans ((eh325.2.1 127 (by decide)).trans A341)))))))
                  obtain ⟨y408, s408, hy408, ry408⟩ := xj_set (v := 1) hy341 ry341 a19 (by first | omega | decide) (by first | omega | decide)
                  refine xi_bastore (pc' := 87) (x' := y408) kc_23_86 rfl A407 rfl (xi_in (by omega) (by rw [hy341]; omega)) s408 (fun hh408 eh408 => ?_)
                  have K409 := xk_pa K405 (xk_wa rfl) xD_127 hy408 ry408 eh408
                  refine xi_aload_n (pc' := 88) (x := 115) kc_23_87 rfl rfl ?_
                  refine xi_iconst (pc' := 89) (v := 0) kc_23_88 rfl rfl ?_
                  have A410 := ((eh408.2.1 115 (by decide)).trans A406)
                  refine xi_putfield (pc' := 92) (fs' := [.int 0, .int u5, .ref 116, .ref 117, .ref 118, .ref 119, .ref 120, .ref 121, .ref 122, .ref 123, .ref 124, .ref 125, .ref 126, .ref 127, .ref 128, .ref 129, .int u6, .ref 130, .int u7, .ref 131, .ref 132, .ref 133, .ref 134, .int u1, .ref 135, .ref 136, .ref 137, .ref 138, .ref 139, .ref 140, .ref 141, .ref 142, .int u9, .int u10, .int u11, .ref 143, .ref 144, .ref 145, .ref 146, .ref 147, .ref 148, .int 0, .ref 149, .ref 150, .ref 151, .int u13, .ref 152, .ref 153, .ref 154, .ref 155, .ref 156, .ref 157, .ref 158, .ref 159, .int u14, .ref 160, .int u15, .ref 161, .ref 162, .ref 163, .ref 164, .int u16, .ref 165, .ref 166]) kc_23_89 rfl rfl rfl A410 rfl rfl rfl (Nat.le_of_ble_eq_true rfl) rfl (fun hh412 eh411 => ?_)
                  have K413 := xk_pf (k := 41) (v := 0) K409 (xk_wf rfl) xD_115 A410 rfl (by first | omega | decide) (by first | omega | decide) eh411 rfl
                  refine xi_iload (pc' := 94) (x := 1) kc_23_92 rfl rfl ?_
                  refine xi_iff (pc' := 97) kc_23_94 rfl rfl ?_
                  refine xi_iconst (pc' := 98) (v := 0) kc_23_97 rfl rfl ?_
                  refine xi_goto (pc' := 102) kc_23_98 rfl ?_
                  refine xi_ireturn kc_23_102 mr_23 rfl ?_
                  show xw J ov 100 195 (474, [(4, .int x4), (3, .ref 167), (2, .ref 115), (1, .ref 0), (0, .ref 1000000)], [.int 0], hh412) _
                  refine xi_pop (pc' := 475) kc_195_474 rfl rfl ?_
                  refine xi_goto (pc' := 1501) kc_195_475 rfl ?_
                  obtain ⟨v414, ev414⟩ : ∃ q : Int32, x4 + 6 = q := ⟨_, rfl⟩
                  have zv414 : v414.toInt = (x4.toInt + 6) := by rw [← ev414]; exact (xz_add (X := x4.toInt) (Y := 6) rfl (by decide) (by omega) (by omega)).trans (by omega)
                  refine xi_iinc (pc' := 1504) (x := x4) (v := v414) (lv' := [(4, .int v414), (3, .ref 167), (2, .ref 115), (1, .ref 0), (0, .ref 1000000)]) kc_195_1501 rfl rfl ev414 rfl (xm_lt ml_195 rfl) ?_
                  refine xi_goto (pc' := 23) kc_195_1504 rfl ?_
                  have A415 := ((eh411.2.1 pt331 (Ne.symm (xk_nc mpt331 rfl))).trans ((eh408.2.1 pt331 (Ne.symm (xk_nc mpt331 rfl))).trans ((eh404.2.1 pt331 (Ne.symm (xk_nc mpt331 rfl))).trans ((eh399.2.1 pt331 (Ne.symm (xk_nc mpt331 rfl))).trans ((eh395.2.1 pt331 (Ne.symm (xk_nc mpt331 rfl))).trans eh390.1)))))
                  have A416 := ((eh411.2.1 125 (by decide)).trans ((eh408.2.1 125 (by decide)).trans ((eh404.2.1 125 (by decide)).trans eh399.1)))
                  have A417 := ((eh411.2.1 127 (by decide)).trans eh408.1)
                  have A418 := ((eh411.2.1 1 (by decide)).trans ((eh408.2.1 1 (by decide)).trans ((eh404.2.1 1 (by decide)).trans ((eh399.2.1 1 (by decide)).trans ((eh395.2.1 1 (by decide)).trans ((eh390.2.1 1 (xk_nc mpt331 rfl)).trans ((eh386.2.1 1 (xk_nc mpt331 rfl)).trans ((eh382.2.1 1 (xk_nc mpt331 rfl)).trans A329))))))))
                  exact kk v414 hh412 (by omega) K413 ⟨(xGR_set (Lo := [some 29, some 31, some 33, some 35, some 37, some 39, some 41, some 43, some 45, some 47, some 49, some 51]) I.1 (by decide) rfl ept331 (by omega) (by show _ < ((12 : Nat) : Int); omega) A339 (by rw [hy339]; decide) A415 rfl A416 s399 (fun c hc hne => ((eh411.2.1 c (Ne.symm (xk_nc hc rfl))).trans ((eh408.2.1 c (Ne.symm (xk_nc hc rfl))).trans ((eh404.2.1 c (Ne.symm (xk_nc hc rfl))).trans ((eh399.2.1 c (Ne.symm (xk_nc hc rfl))).trans ((eh395.2.1 c (Ne.symm (xk_nc hc rfl))).trans ((eh390.2.1 c hne).trans ((eh386.2.1 c hne).trans ((eh382.2.1 c hne).trans (eh325.2.1 c (Ne.symm (xk_nc hc rfl))))))))))))), (xGR_set (Lo := [some 29, some 31, some 33, some 35, some 37, some 39, some 41, some 43, some 45, some 47, some 49, some 51]) I.2.1 (by decide) rfl ept331 (by omega) (by show _ < ((12 : Nat) : Int); omega) A341 (by rw [hy341]; decide) A415 rfl A417 s408 (fun c hc hne => ((eh411.2.1 c (Ne.symm (xk_nc hc rfl))).trans ((eh408.2.1 c (Ne.symm (xk_nc hc rfl))).trans ((eh404.2.1 c (Ne.symm (xk_nc hc rfl))).trans ((eh399.2.1 c (Ne.symm (xk_nc hc rfl))).trans ((eh395.2.1 c (Ne.symm (xk_nc hc rfl))).trans ((eh390.2.1 c hne).trans ((eh386.2.1 c hne).trans ((eh382.2.1 c hne).trans (eh325.2.1 c (Ne.symm (xk_nc hc rfl))))))))))))), ((xl_of A418 rfl).trans (xl_of eh411.1 rfl).symm)⟩
              · refine xi_cmf (pc' := 37) kc_103_34 rfl (xc_le_f (X := a23.toInt) (Y := 100) rfl (by decide) (by omega)) ?_
                refine xi_aload_n (pc' := 38) (x := 0) kc_103_37 rfl rfl ?_
                refine xi_bipush (pc' := 40) (v := (-6)) kc_103_38 rfl rfl ?_
                refine xi_virtual (mj := 90) (as := [.int (-6)]) (st1 := []) (lv0 := [(0, .ref 0), (1, .int (-6))]) kc_103_40 rfl rfl rfl rfl rfl A243 (Nat.le_of_ble_eq_true rfl) (hJ _ _ _ _ (by decide)) (xm_le ml_90 rfl) rfl ?_
                refine xi_iload_n (pc' := 1) (x := (-6)) kc_90_0 rfl rfl ?_
                refine xi_ineg (pc' := 2) (v := 6) kc_90_1 rfl rfl ?_
                refine xi_istore_n (pc' := 3) (lv' := [(2, .int 6), (0, .ref 0), (1, .int (-6))]) kc_90_2 rfl rfl (xm_lt ml_90 rfl) ?_
                refine xi_iload_n (pc' := 4) (x := 6) kc_90_3 rfl rfl ?_
                refine xi_iff (pc' := 7) kc_90_4 rfl rfl ?_
                refine xi_iload_n (pc' := 8) (x := 6) kc_90_7 rfl rfl ?_
                refine xi_aload_n (pc' := 9) (x := 0) kc_90_8 rfl rfl ?_
                refine xi_getfield (pc' := 12) (v := .ref 94) kc_90_9 rfl rfl rfl A243 rfl ?_
                obtain ⟨y419, A419, hy419, ry419⟩ := xk_arr K.1 xD_94
                refine xi_arraylength (pc' := 13) (n := 7) (v := 7) kc_90_12 rfl (xl_lenI (by decide) (by decide) A419 hy419) rfl ?_
                refine xi_cmf (pc' := 16) kc_90_13 rfl rfl ?_
                refine xi_aload_n (pc' := 17) (x := 0) kc_90_16 rfl rfl ?_
                refine xi_getfield (pc' := 20) (v := .ref 94) kc_90_17 rfl rfl rfl A243 rfl ?_
                refine xi_iload_n (pc' := 21) (x := 6) kc_90_20 rfl rfl ?_
                refine xi_dup2 (pc' := 22) kc_90_21 rfl ⟨rfl, rfl⟩ ?_
                obtain ⟨v420, ev420, bv420, dv420⟩ := xj_get hy419 ry419 (i := 6) (by decide) (by decide)
                refine xi_iaload (pc' := 23) (v := v420) kc_90_22 rfl A419 (by decide) rfl (xi_in (by decide) (by rw [hy419]; decide)) ev420 ?_
                refine xi_iconst (pc' := 24) (v := 1) kc_90_23 rfl rfl ?_
                obtain ⟨v421, ev421⟩ : ∃ q : Int32, (v420 : Int32) + 1 = q := ⟨_, rfl⟩
                have rv421 := xc_rng v421
                refine xi_iadd (pc' := 25) (v := v421) kc_90_24 rfl ev421 ?_
                obtain ⟨y422, s422, hy422, ry422⟩ := xj_set (v := v421) hy419 ry419 6 (by first | omega | decide) (by first | omega | decide)
                refine xi_iastore (pc' := 26) (x' := y422) kc_90_25 rfl A419 rfl (xi_in (by decide) (by rw [hy419]; decide)) s422 (fun hh422 eh422 => ?_)
                have K423 := xk_pa K (xk_wa rfl) xD_94 hy422 ry422 eh422
                refine xi_iload_n (pc' := 27) (x := (-6)) kc_90_26 rfl rfl ?_
                refine xi_ireturn kc_90_27 mr_90 rfl ?_
                show xw J ov 99 103 (43, [(0, .ref 0), (1, .int a19), (2, .int a21), (3, .int a23), (4, .int 1)], [.int (-6)], hh422) _
                refine xi_ireturn kc_103_43 mr_103 rfl ?_
                show xw J ov 100 195 (437, [(4, .int x4), (3, .ref 167), (2, .ref 115), (1, .ref 0), (0, .ref 1000000)], [.int (-6)], hh422) _
                refine xi_pop (pc' := 438) kc_195_437 rfl rfl ?_
                refine xi_aload_n (pc' := 439) (x := 115) kc_195_438 rfl rfl ?_
                refine xi_aload_n (pc' := 440) (x := 1000000) kc_195_439 rfl rfl ?_
                refine xi_iload (pc' := 442) (x := x4) kc_195_440 rfl rfl ?_
                refine xi_iconst (pc' := 443) (v := 1) kc_195_442 rfl rfl ?_
                refine xi_iadd (pc' := 444) (v := v18) kc_195_443 rfl ev18 ?_
                refine xi_ialoadO (pc' := 445) (v := a19) kc_195_444 rfl (by decide) hov0 (xi_in (by omega) (by omega)) ea19 ?_
                refine xi_aload_n (pc' := 446) (x := 1000000) kc_195_445 rfl rfl ?_
                refine xi_iload (pc' := 448) (x := x4) kc_195_446 rfl rfl ?_
                refine xi_iconst (pc' := 449) (v := 2) kc_195_448 rfl rfl ?_
                refine xi_iadd (pc' := 450) (v := v20) kc_195_449 rfl ev20 ?_
                refine xi_ialoadO (pc' := 451) (v := a21) kc_195_450 rfl (by decide) hov0 (xi_in (by omega) (by omega)) ea21 ?_
                refine xi_aload_n (pc' := 452) (x := 1000000) kc_195_451 rfl rfl ?_
                refine xi_iload (pc' := 454) (x := x4) kc_195_452 rfl rfl ?_
                refine xi_iconst (pc' := 455) (v := 3) kc_195_454 rfl rfl ?_
                refine xi_iadd (pc' := 456) (v := v22) kc_195_455 rfl ev22 ?_
                refine xi_ialoadO (pc' := 457) (v := a23) kc_195_456 rfl (by decide) hov0 (xi_in (by omega) (by omega)) ea23 ?_
                refine xi_aload_n (pc' := 458) (x := 1000000) kc_195_457 rfl rfl ?_
                refine xi_iload (pc' := 460) (x := x4) kc_195_458 rfl rfl ?_
                refine xi_iconst (pc' := 461) (v := 4) kc_195_460 rfl rfl ?_
                refine xi_iadd (pc' := 462) (v := v24) kc_195_461 rfl ev24 ?_
                refine xi_ialoadO (pc' := 463) (v := a25) kc_195_462 rfl (by decide) hov0 (xi_in (by omega) (by omega)) ea25 ?_
                refine xi_iff (pc' := 466) kc_195_463 rfl (xc_eq_f (X := a25.toInt) (Y := 0) rfl (by decide) (by omega)) ?_
                refine xi_iconst (pc' := 467) (v := 1) kc_195_466 rfl rfl ?_
                refine xi_goto (pc' := 471) kc_195_467 rfl ?_
                have A424 := ((eh422.2.1 115 (by decide)).trans A17)
                refine xi_virtual (mj := 23) (as := [.int a19, .int a21, .int a23, .int 1]) (st1 := []) (lv0 := [(0, .ref 115), (1, .int a19), (2, .int a21), (3, .int a23), (4, .int 1)]) kc_195_471 rfl rfl rfl rfl rfl A424 (Nat.le_of_ble_eq_true rfl) (hJ _ _ _ _ (by decide)) (xm_le ml_23 rfl) rfl ?_
                refine xi_aload_n (pc' := 1) (x := 115) kc_23_0 rfl rfl ?_
                refine xi_iconst (pc' := 2) (v := 0) kc_23_1 rfl rfl ?_
                refine xi_putfield (pc' := 5) (fs' := [.int 0, .int u5, .ref 116, .ref 117, .ref 118, .ref 119, .ref 120, .ref 121, .ref 122, .ref 123, .ref 124, .ref 125, .ref 126, .ref 127, .ref 128, .ref 129, .int u6, .ref 130, .int u7, .ref 131, .ref 132, .ref 133, .ref 134, .int u1, .ref 135, .ref 136, .ref 137, .ref 138, .ref 139, .ref 140, .ref 141, .ref 142, .int u9, .int u10, .int u11, .ref 143, .ref 144, .ref 145, .ref 146, .ref 147, .ref 148, .int u12, .ref 149, .ref 150, .ref 151, .int u13, .ref 152, .ref 153, .ref 154, .ref 155, .ref 156, .ref 157, .ref 158, .ref 159, .int u14, .ref 160, .int u15, .ref 161, .ref 162, .ref 163, .ref 164, .int u16, .ref 165, .ref 166]) kc_23_2 rfl rfl rfl A424 rfl rfl rfl (Nat.le_of_ble_eq_true rfl) rfl (fun hh426 eh425 => ?_)
                have K427 := xk_pf (k := 0) (v := 0) K423 (xk_wf rfl) xD_115 A424 rfl (by first | omega | decide) (by first | omega | decide) eh425 rfl
                refine xi_iload_n (pc' := 6) (x := a19) kc_23_5 rfl rfl ?_
                refine xi_static (mj := 24) (as := [.int a19]) (st1 := []) (lv0 := [(0, .int a19)]) kc_23_6 rfl rfl (Nat.le_of_ble_eq_true rfl) rfl rfl (Nat.le_of_ble_eq_true rfl) (hJ _ _ _ _ (by decide)) (xm_le ml_24 rfl) rfl ?_
                refine xi_iload_n (pc' := 1) (x := a19) kc_24_0 rfl rfl ?_
                refine xi_iconst (pc' := 2) (v := 0) kc_24_1 rfl rfl ?_
                refine xi_bipush (pc' := 4) (v := 11) kc_24_2 rfl rfl ?_
                refine xi_static (mj := 11) (as := [.int a19, .int 0, .int 11]) (st1 := []) (lv0 := [(0, .int a19), (1, .int 0), (2, .int 11)]) kc_24_4 rfl rfl (Nat.le_of_ble_eq_true rfl) rfl rfl (Nat.le_of_ble_eq_true rfl) (hJ _ _ _ _ (by decide)) (xm_le ml_11 rfl) rfl ?_
                refine xi_iload_n (pc' := 1) (x := a19) kc_11_0 rfl rfl ?_
                refine xi_iload_n (pc' := 2) (x := 0) kc_11_1 rfl rfl ?_
                refine xi_cmf (pc' := 5) kc_11_2 rfl (xc_lt_f (X := a19.toInt) (Y := 0) rfl (by decide) (by omega)) ?_
                refine xi_iload_n (pc' := 6) (x := a19) kc_11_5 rfl rfl ?_
                refine xi_iload_n (pc' := 7) (x := 11) kc_11_6 rfl rfl ?_
                refine xi_cmf (pc' := 10) kc_11_7 rfl (xc_gt_f (X := a19.toInt) (Y := 11) rfl (by decide) (by omega)) ?_
                refine xi_iconst (pc' := 11) (v := 1) kc_11_10 rfl rfl ?_
                refine xi_goto (pc' := 15) kc_11_11 rfl ?_
                refine xi_ireturn kc_11_15 mr_11 rfl ?_
                show xw J ov 98 24 (7, [(0, .int a19)], [.int 1], hh426) _
                refine xi_ireturn kc_24_7 mr_24 rfl ?_
                show xw J ov 99 23 (9, [(0, .ref 115), (1, .int a19), (2, .int a21), (3, .int a23), (4, .int 1)], [.int 1], hh426) _
                refine xi_iff (pc' := 12) kc_23_9 rfl rfl ?_
                refine xi_iload_n (pc' := 13) (x := a21) kc_23_12 rfl rfl ?_
                refine xi_static (mj := 10) (as := [.int a21]) (st1 := []) (lv0 := [(0, .int a21)]) kc_23_13 rfl rfl (Nat.le_of_ble_eq_true rfl) rfl rfl (Nat.le_of_ble_eq_true rfl) (hJ _ _ _ _ (by decide)) (xm_le ml_10 rfl) rfl ?_
                refine xi_iload_n (pc' := 1) (x := a21) kc_10_0 rfl rfl ?_
                refine xi_iconst (pc' := 2) (v := 0) kc_10_1 rfl rfl ?_
                refine xi_iconst (pc' := 3) (v := 5) kc_10_2 rfl rfl ?_
                refine xi_static (mj := 11) (as := [.int a21, .int 0, .int 5]) (st1 := []) (lv0 := [(0, .int a21), (1, .int 0), (2, .int 5)]) kc_10_3 rfl rfl (Nat.le_of_ble_eq_true rfl) rfl rfl (Nat.le_of_ble_eq_true rfl) (hJ _ _ _ _ (by decide)) (xm_le ml_11 rfl) rfl ?_
                refine xi_iload_n (pc' := 1) (x := a21) kc_11_0 rfl rfl ?_
                refine xi_iload_n (pc' := 2) (x := 0) kc_11_1 rfl rfl ?_
                refine xi_cmf (pc' := 5) kc_11_2 rfl (xc_lt_f (X := a21.toInt) (Y := 0) rfl (by decide) (by omega)) ?_
                refine xi_iload_n (pc' := 6) (x := a21) kc_11_5 rfl rfl ?_
                refine xi_iload_n (pc' := 7) (x := 5) kc_11_6 rfl rfl ?_
                refine xi_cmf (pc' := 10) kc_11_7 rfl (xc_gt_f (X := a21.toInt) (Y := 5) rfl (by decide) (by omega)) ?_
                refine xi_iconst (pc' := 11) (v := 1) kc_11_10 rfl rfl ?_
                refine xi_goto (pc' := 15) kc_11_11 rfl ?_
                refine xi_ireturn kc_11_15 mr_11 rfl ?_
                show xw J ov 98 10 (6, [(0, .int a21)], [.int 1], hh426) _
                refine xi_ireturn kc_10_6 mr_10 rfl ?_
                show xw J ov 99 23 (16, [(0, .ref 115), (1, .int a19), (2, .int a21), (3, .int a23), (4, .int 1)], [.int 1], hh426) _
                refine xi_ift (pc' := 25) kc_23_16 rfl rfl ?_
                refine xi_iload_n (pc' := 26) (x := a23) kc_23_25 rfl rfl ?_
                refine xi_ift (pc' := 36) kc_23_26 rfl (xc_ge_t (X := a23.toInt) (Y := 0) rfl (by decide) (by omega)) ?_
                refine xi_iload_n (pc' := 37) (x := a23) kc_23_36 rfl rfl ?_
                refine xi_bipush (pc' := 39) (v := 100) kc_23_37 rfl rfl ?_
                refine xi_cmf (pc' := 42) kc_23_39 rfl (xc_le_f (X := a23.toInt) (Y := 100) rfl (by decide) (by omega)) ?_
                refine xi_aload_n (pc' := 43) (x := 115) kc_23_42 rfl rfl ?_
                refine xi_bipush (pc' := 45) (v := (-6)) kc_23_43 rfl rfl ?_
                refine xi_virtual (mj := 12) (as := [.int (-6)]) (st1 := []) (lv0 := [(0, .ref 115), (1, .int (-6))]) kc_23_45 rfl rfl rfl rfl rfl eh425.1 (Nat.le_of_ble_eq_true rfl) (hJ _ _ _ _ (by decide)) (xm_le ml_12 rfl) rfl ?_
                refine xi_aload_n (pc' := 1) (x := 115) kc_12_0 rfl rfl ?_
                refine xi_getfield (pc' := 4) (v := .ref 140) kc_12_1 rfl rfl rfl eh425.1 rfl ?_
                refine xi_iload_n (pc' := 5) (x := (-6)) kc_12_4 rfl rfl ?_
                refine xi_ineg (pc' := 6) (v := 6) kc_12_5 rfl rfl ?_
                refine xi_dup2 (pc' := 7) kc_12_6 rfl ⟨rfl, rfl⟩ ?_
                obtain ⟨y428, A428, hy428, ry428⟩ := xk_arr K.1 xD_140
                obtain ⟨v429, ev429, bv429, dv429⟩ := xj_get hy428 ry428 (i := 6) (by decide) (by decide)
                have A430 := ((eh425.2.1 140 (by decide)).trans ((eh422.2.1 140 (by decide)).trans A428))
                refine xi_iaload (pc' := 8) (v := v429) kc_12_7 rfl A430 (by decide) rfl (xi_in (by decide) (by rw [hy428]; decide)) ev429 ?_
                refine xi_iconst (pc' := 9) (v := 1) kc_12_8 rfl rfl ?_
                obtain ⟨v431, ev431⟩ : ∃ q : Int32, (v429 : Int32) + 1 = q := ⟨_, rfl⟩
                have rv431 := xc_rng v431
                refine xi_iadd (pc' := 10) (v := v431) kc_12_9 rfl ev431 ?_
                obtain ⟨y432, s432, hy432, ry432⟩ := xj_set (v := v431) hy428 ry428 6 (by first | omega | decide) (by first | omega | decide)
                refine xi_iastore (pc' := 11) (x' := y432) kc_12_10 rfl A430 rfl (xi_in (by decide) (by rw [hy428]; decide)) s432 (fun hh432 eh432 => ?_)
                have K433 := xk_pa K427 (xk_wa rfl) xD_140 hy432 ry432 eh432
                refine xi_iload_n (pc' := 12) (x := (-6)) kc_12_11 rfl rfl ?_
                refine xi_ireturn kc_12_12 mr_12 rfl ?_
                show xw J ov 99 23 (48, [(0, .ref 115), (1, .int a19), (2, .int a21), (3, .int a23), (4, .int 1)], [.int (-6)], hh432) _
                refine xi_ireturn kc_23_48 mr_23 rfl ?_
                show xw J ov 100 195 (474, [(4, .int x4), (3, .ref 167), (2, .ref 115), (1, .ref 0), (0, .ref 1000000)], [.int (-6)], hh432) _
                refine xi_pop (pc' := 475) kc_195_474 rfl rfl ?_
                refine xi_goto (pc' := 1501) kc_195_475 rfl ?_
                obtain ⟨v434, ev434⟩ : ∃ q : Int32, x4 + 6 = q := ⟨_, rfl⟩
                have zv434 : v434.toInt = (x4.toInt + 6) := by rw [← ev434]; exact (xz_add (X := x4.toInt) (Y := 6) rfl (by decide) (by omega) (by omega)).trans (by omega)
                refine xi_iinc (pc' := 1504) (x := x4) (v := v434) (lv' := [(4, .int v434), (3, .ref 167), (2, .ref 115), (1, .ref 0), (0, .ref 1000000)]) kc_195_1501 rfl rfl ev434 rfl (xm_lt ml_195 rfl) ?_
                refine xi_goto (pc' := 23) kc_195_1504 rfl ?_
                have A435 := ((eh432.2.1 1 (by decide)).trans ((eh425.2.1 1 (by decide)).trans ((eh422.2.1 1 (by decide)).trans A3)))
                have A436 := ((eh432.2.1 115 (by decide)).trans eh425.1)
                exact kk v434 hh432 (by omega) K433 ⟨(xGR_kept I.1 (fun c hc => ((eh432.2.1 c (Ne.symm (xk_nc hc rfl))).trans ((eh425.2.1 c (Ne.symm (xk_nc hc rfl))).trans (eh422.2.1 c (Ne.symm (xk_nc hc rfl)))))) ((eh432.2.1 125 (by decide)).trans ((eh425.2.1 125 (by decide)).trans (eh422.2.1 125 (by decide))))), (xGR_kept I.2.1 (fun c hc => ((eh432.2.1 c (Ne.symm (xk_nc hc rfl))).trans ((eh425.2.1 c (Ne.symm (xk_nc hc rfl))).trans (eh422.2.1 c (Ne.symm (xk_nc hc rfl)))))) ((eh432.2.1 127 (by decide)).trans ((eh425.2.1 127 (by decide)).trans (eh422.2.1 127 (by decide))))), ((xl_of A435 rfl).trans (xl_of A436 rfl).symm)⟩
            · refine xi_iff (pc' := 24) kc_103_21 rfl (xc_ge_f (X := a23.toInt) (Y := 0) rfl (by decide) (by omega)) ?_
              refine xi_aload_n (pc' := 25) (x := 0) kc_103_24 rfl rfl ?_
              refine xi_bipush (pc' := 27) (v := (-4)) kc_103_25 rfl rfl ?_
              refine xi_virtual (mj := 90) (as := [.int (-4)]) (st1 := []) (lv0 := [(0, .ref 0), (1, .int (-4))]) kc_103_27 rfl rfl rfl rfl rfl A243 (Nat.le_of_ble_eq_true rfl) (hJ _ _ _ _ (by decide)) (xm_le ml_90 rfl) rfl ?_
              refine xi_iload_n (pc' := 1) (x := (-4)) kc_90_0 rfl rfl ?_
              refine xi_ineg (pc' := 2) (v := 4) kc_90_1 rfl rfl ?_
              refine xi_istore_n (pc' := 3) (lv' := [(2, .int 4), (0, .ref 0), (1, .int (-4))]) kc_90_2 rfl rfl (xm_lt ml_90 rfl) ?_
              refine xi_iload_n (pc' := 4) (x := 4) kc_90_3 rfl rfl ?_
              refine xi_iff (pc' := 7) kc_90_4 rfl rfl ?_
              refine xi_iload_n (pc' := 8) (x := 4) kc_90_7 rfl rfl ?_
              refine xi_aload_n (pc' := 9) (x := 0) kc_90_8 rfl rfl ?_
              refine xi_getfield (pc' := 12) (v := .ref 94) kc_90_9 rfl rfl rfl A243 rfl ?_
              obtain ⟨y437, A437, hy437, ry437⟩ := xk_arr K.1 xD_94
              refine xi_arraylength (pc' := 13) (n := 7) (v := 7) kc_90_12 rfl (xl_lenI (by decide) (by decide) A437 hy437) rfl ?_
              refine xi_cmf (pc' := 16) kc_90_13 rfl rfl ?_
              refine xi_aload_n (pc' := 17) (x := 0) kc_90_16 rfl rfl ?_
              refine xi_getfield (pc' := 20) (v := .ref 94) kc_90_17 rfl rfl rfl A243 rfl ?_
              refine xi_iload_n (pc' := 21) (x := 4) kc_90_20 rfl rfl ?_
              refine xi_dup2 (pc' := 22) kc_90_21 rfl ⟨rfl, rfl⟩ ?_
              obtain ⟨v438, ev438, bv438, dv438⟩ := xj_get hy437 ry437 (i := 4) (by decide) (by decide)
              refine xi_iaload (pc' := 23) (v := v438) kc_90_22 rfl A437 (by decide) rfl (xi_in (by decide) (by rw [hy437]; decide)) ev438 ?_
              refine xi_iconst (pc' := 24) (v := 1) kc_90_23 rfl rfl ?_
              obtain ⟨v439, ev439⟩ : ∃ q : Int32, (v438 : Int32) + 1 = q := ⟨_, rfl⟩
              have rv439 := xc_rng v439
              refine xi_iadd (pc' := 25) (v := v439) kc_90_24 rfl ev439 ?_
              obtain ⟨y440, s440, hy440, ry440⟩ := xj_set (v := v439) hy437 ry437 4 (by first | omega | decide) (by first | omega | decide)
              refine xi_iastore (pc' := 26) (x' := y440) kc_90_25 rfl A437 rfl (xi_in (by decide) (by rw [hy437]; decide)) s440 (fun hh440 eh440 => ?_)
              have K441 := xk_pa K (xk_wa rfl) xD_94 hy440 ry440 eh440
              refine xi_iload_n (pc' := 27) (x := (-4)) kc_90_26 rfl rfl ?_
              refine xi_ireturn kc_90_27 mr_90 rfl ?_
              show xw J ov 99 103 (30, [(0, .ref 0), (1, .int a19), (2, .int a21), (3, .int a23), (4, .int 1)], [.int (-4)], hh440) _
              refine xi_ireturn kc_103_30 mr_103 rfl ?_
              show xw J ov 100 195 (437, [(4, .int x4), (3, .ref 167), (2, .ref 115), (1, .ref 0), (0, .ref 1000000)], [.int (-4)], hh440) _
              refine xi_pop (pc' := 438) kc_195_437 rfl rfl ?_
              refine xi_aload_n (pc' := 439) (x := 115) kc_195_438 rfl rfl ?_
              refine xi_aload_n (pc' := 440) (x := 1000000) kc_195_439 rfl rfl ?_
              refine xi_iload (pc' := 442) (x := x4) kc_195_440 rfl rfl ?_
              refine xi_iconst (pc' := 443) (v := 1) kc_195_442 rfl rfl ?_
              refine xi_iadd (pc' := 444) (v := v18) kc_195_443 rfl ev18 ?_
              refine xi_ialoadO (pc' := 445) (v := a19) kc_195_444 rfl (by decide) hov0 (xi_in (by omega) (by omega)) ea19 ?_
              refine xi_aload_n (pc' := 446) (x := 1000000) kc_195_445 rfl rfl ?_
              refine xi_iload (pc' := 448) (x := x4) kc_195_446 rfl rfl ?_
              refine xi_iconst (pc' := 449) (v := 2) kc_195_448 rfl rfl ?_
              refine xi_iadd (pc' := 450) (v := v20) kc_195_449 rfl ev20 ?_
              refine xi_ialoadO (pc' := 451) (v := a21) kc_195_450 rfl (by decide) hov0 (xi_in (by omega) (by omega)) ea21 ?_
              refine xi_aload_n (pc' := 452) (x := 1000000) kc_195_451 rfl rfl ?_
              refine xi_iload (pc' := 454) (x := x4) kc_195_452 rfl rfl ?_
              refine xi_iconst (pc' := 455) (v := 3) kc_195_454 rfl rfl ?_
              refine xi_iadd (pc' := 456) (v := v22) kc_195_455 rfl ev22 ?_
              refine xi_ialoadO (pc' := 457) (v := a23) kc_195_456 rfl (by decide) hov0 (xi_in (by omega) (by omega)) ea23 ?_
              refine xi_aload_n (pc' := 458) (x := 1000000) kc_195_457 rfl rfl ?_
              refine xi_iload (pc' := 460) (x := x4) kc_195_458 rfl rfl ?_
              refine xi_iconst (pc' := 461) (v := 4) kc_195_460 rfl rfl ?_
              refine xi_iadd (pc' := 462) (v := v24) kc_195_461 rfl ev24 ?_
              refine xi_ialoadO (pc' := 463) (v := a25) kc_195_462 rfl (by decide) hov0 (xi_in (by omega) (by omega)) ea25 ?_
              refine xi_iff (pc' := 466) kc_195_463 rfl (xc_eq_f (X := a25.toInt) (Y := 0) rfl (by decide) (by omega)) ?_
              refine xi_iconst (pc' := 467) (v := 1) kc_195_466 rfl rfl ?_
              refine xi_goto (pc' := 471) kc_195_467 rfl ?_
              have A442 := ((eh440.2.1 115 (by decide)).trans A17)
              refine xi_virtual (mj := 23) (as := [.int a19, .int a21, .int a23, .int 1]) (st1 := []) (lv0 := [(0, .ref 115), (1, .int a19), (2, .int a21), (3, .int a23), (4, .int 1)]) kc_195_471 rfl rfl rfl rfl rfl A442 (Nat.le_of_ble_eq_true rfl) (hJ _ _ _ _ (by decide)) (xm_le ml_23 rfl) rfl ?_
              refine xi_aload_n (pc' := 1) (x := 115) kc_23_0 rfl rfl ?_
              refine xi_iconst (pc' := 2) (v := 0) kc_23_1 rfl rfl ?_
              refine xi_putfield (pc' := 5) (fs' := [.int 0, .int u5, .ref 116, .ref 117, .ref 118, .ref 119, .ref 120, .ref 121, .ref 122, .ref 123, .ref 124, .ref 125, .ref 126, .ref 127, .ref 128, .ref 129, .int u6, .ref 130, .int u7, .ref 131, .ref 132, .ref 133, .ref 134, .int u1, .ref 135, .ref 136, .ref 137, .ref 138, .ref 139, .ref 140, .ref 141, .ref 142, .int u9, .int u10, .int u11, .ref 143, .ref 144, .ref 145, .ref 146, .ref 147, .ref 148, .int u12, .ref 149, .ref 150, .ref 151, .int u13, .ref 152, .ref 153, .ref 154, .ref 155, .ref 156, .ref 157, .ref 158, .ref 159, .int u14, .ref 160, .int u15, .ref 161, .ref 162, .ref 163, .ref 164, .int u16, .ref 165, .ref 166]) kc_23_2 rfl rfl rfl A442 rfl rfl rfl (Nat.le_of_ble_eq_true rfl) rfl (fun hh444 eh443 => ?_)
              have K445 := xk_pf (k := 0) (v := 0) K441 (xk_wf rfl) xD_115 A442 rfl (by first | omega | decide) (by first | omega | decide) eh443 rfl
              refine xi_iload_n (pc' := 6) (x := a19) kc_23_5 rfl rfl ?_
              refine xi_static (mj := 24) (as := [.int a19]) (st1 := []) (lv0 := [(0, .int a19)]) kc_23_6 rfl rfl (Nat.le_of_ble_eq_true rfl) rfl rfl (Nat.le_of_ble_eq_true rfl) (hJ _ _ _ _ (by decide)) (xm_le ml_24 rfl) rfl ?_
              refine xi_iload_n (pc' := 1) (x := a19) kc_24_0 rfl rfl ?_
              refine xi_iconst (pc' := 2) (v := 0) kc_24_1 rfl rfl ?_
              refine xi_bipush (pc' := 4) (v := 11) kc_24_2 rfl rfl ?_
              refine xi_static (mj := 11) (as := [.int a19, .int 0, .int 11]) (st1 := []) (lv0 := [(0, .int a19), (1, .int 0), (2, .int 11)]) kc_24_4 rfl rfl (Nat.le_of_ble_eq_true rfl) rfl rfl (Nat.le_of_ble_eq_true rfl) (hJ _ _ _ _ (by decide)) (xm_le ml_11 rfl) rfl ?_
              refine xi_iload_n (pc' := 1) (x := a19) kc_11_0 rfl rfl ?_
              refine xi_iload_n (pc' := 2) (x := 0) kc_11_1 rfl rfl ?_
              refine xi_cmf (pc' := 5) kc_11_2 rfl (xc_lt_f (X := a19.toInt) (Y := 0) rfl (by decide) (by omega)) ?_
              refine xi_iload_n (pc' := 6) (x := a19) kc_11_5 rfl rfl ?_
              refine xi_iload_n (pc' := 7) (x := 11) kc_11_6 rfl rfl ?_
              refine xi_cmf (pc' := 10) kc_11_7 rfl (xc_gt_f (X := a19.toInt) (Y := 11) rfl (by decide) (by omega)) ?_
              refine xi_iconst (pc' := 11) (v := 1) kc_11_10 rfl rfl ?_
              refine xi_goto (pc' := 15) kc_11_11 rfl ?_
              refine xi_ireturn kc_11_15 mr_11 rfl ?_
              show xw J ov 98 24 (7, [(0, .int a19)], [.int 1], hh444) _
              refine xi_ireturn kc_24_7 mr_24 rfl ?_
              show xw J ov 99 23 (9, [(0, .ref 115), (1, .int a19), (2, .int a21), (3, .int a23), (4, .int 1)], [.int 1], hh444) _
              refine xi_iff (pc' := 12) kc_23_9 rfl rfl ?_
              refine xi_iload_n (pc' := 13) (x := a21) kc_23_12 rfl rfl ?_
              refine xi_static (mj := 10) (as := [.int a21]) (st1 := []) (lv0 := [(0, .int a21)]) kc_23_13 rfl rfl (Nat.le_of_ble_eq_true rfl) rfl rfl (Nat.le_of_ble_eq_true rfl) (hJ _ _ _ _ (by decide)) (xm_le ml_10 rfl) rfl ?_
              refine xi_iload_n (pc' := 1) (x := a21) kc_10_0 rfl rfl ?_
              refine xi_iconst (pc' := 2) (v := 0) kc_10_1 rfl rfl ?_
              refine xi_iconst (pc' := 3) (v := 5) kc_10_2 rfl rfl ?_
              refine xi_static (mj := 11) (as := [.int a21, .int 0, .int 5]) (st1 := []) (lv0 := [(0, .int a21), (1, .int 0), (2, .int 5)]) kc_10_3 rfl rfl (Nat.le_of_ble_eq_true rfl) rfl rfl (Nat.le_of_ble_eq_true rfl) (hJ _ _ _ _ (by decide)) (xm_le ml_11 rfl) rfl ?_
              refine xi_iload_n (pc' := 1) (x := a21) kc_11_0 rfl rfl ?_
              refine xi_iload_n (pc' := 2) (x := 0) kc_11_1 rfl rfl ?_
              refine xi_cmf (pc' := 5) kc_11_2 rfl (xc_lt_f (X := a21.toInt) (Y := 0) rfl (by decide) (by omega)) ?_
              refine xi_iload_n (pc' := 6) (x := a21) kc_11_5 rfl rfl ?_
              refine xi_iload_n (pc' := 7) (x := 5) kc_11_6 rfl rfl ?_
              refine xi_cmf (pc' := 10) kc_11_7 rfl (xc_gt_f (X := a21.toInt) (Y := 5) rfl (by decide) (by omega)) ?_
              refine xi_iconst (pc' := 11) (v := 1) kc_11_10 rfl rfl ?_
              refine xi_goto (pc' := 15) kc_11_11 rfl ?_
              refine xi_ireturn kc_11_15 mr_11 rfl ?_
              show xw J ov 98 10 (6, [(0, .int a21)], [.int 1], hh444) _
              refine xi_ireturn kc_10_6 mr_10 rfl ?_
              show xw J ov 99 23 (16, [(0, .ref 115), (1, .int a19), (2, .int a21), (3, .int a23), (4, .int 1)], [.int 1], hh444) _
              refine xi_ift (pc' := 25) kc_23_16 rfl rfl ?_
              refine xi_iload_n (pc' := 26) (x := a23) kc_23_25 rfl rfl ?_
              refine xi_iff (pc' := 29) kc_23_26 rfl (xc_ge_f (X := a23.toInt) (Y := 0) rfl (by decide) (by omega)) ?_
              refine xi_aload_n (pc' := 30) (x := 115) kc_23_29 rfl rfl ?_
              refine xi_bipush (pc' := 32) (v := (-4)) kc_23_30 rfl rfl ?_
              refine xi_virtual (mj := 12) (as := [.int (-4)]) (st1 := []) (lv0 := [(0, .ref 115), (1, .int (-4))]) kc_23_32 rfl rfl rfl rfl rfl eh443.1 (Nat.le_of_ble_eq_true rfl) (hJ _ _ _ _ (by decide)) (xm_le ml_12 rfl) rfl ?_
              refine xi_aload_n (pc' := 1) (x := 115) kc_12_0 rfl rfl ?_
              refine xi_getfield (pc' := 4) (v := .ref 140) kc_12_1 rfl rfl rfl eh443.1 rfl ?_
              refine xi_iload_n (pc' := 5) (x := (-4)) kc_12_4 rfl rfl ?_
              refine xi_ineg (pc' := 6) (v := 4) kc_12_5 rfl rfl ?_
              refine xi_dup2 (pc' := 7) kc_12_6 rfl ⟨rfl, rfl⟩ ?_
              obtain ⟨y446, A446, hy446, ry446⟩ := xk_arr K.1 xD_140
              obtain ⟨v447, ev447, bv447, dv447⟩ := xj_get hy446 ry446 (i := 4) (by decide) (by decide)
              have A448 := ((eh443.2.1 140 (by decide)).trans ((eh440.2.1 140 (by decide)).trans A446))
              refine xi_iaload (pc' := 8) (v := v447) kc_12_7 rfl A448 (by decide) rfl (xi_in (by decide) (by rw [hy446]; decide)) ev447 ?_
              refine xi_iconst (pc' := 9) (v := 1) kc_12_8 rfl rfl ?_
              obtain ⟨v449, ev449⟩ : ∃ q : Int32, (v447 : Int32) + 1 = q := ⟨_, rfl⟩
              have rv449 := xc_rng v449
              refine xi_iadd (pc' := 10) (v := v449) kc_12_9 rfl ev449 ?_
              obtain ⟨y450, s450, hy450, ry450⟩ := xj_set (v := v449) hy446 ry446 4 (by first | omega | decide) (by first | omega | decide)
              refine xi_iastore (pc' := 11) (x' := y450) kc_12_10 rfl A448 rfl (xi_in (by decide) (by rw [hy446]; decide)) s450 (fun hh450 eh450 => ?_)
              have K451 := xk_pa K445 (xk_wa rfl) xD_140 hy450 ry450 eh450
              refine xi_iload_n (pc' := 12) (x := (-4)) kc_12_11 rfl rfl ?_
              refine xi_ireturn kc_12_12 mr_12 rfl ?_
              show xw J ov 99 23 (35, [(0, .ref 115), (1, .int a19), (2, .int a21), (3, .int a23), (4, .int 1)], [.int (-4)], hh450) _
              refine xi_ireturn kc_23_35 mr_23 rfl ?_
              show xw J ov 100 195 (474, [(4, .int x4), (3, .ref 167), (2, .ref 115), (1, .ref 0), (0, .ref 1000000)], [.int (-4)], hh450) _
              refine xi_pop (pc' := 475) kc_195_474 rfl rfl ?_
              refine xi_goto (pc' := 1501) kc_195_475 rfl ?_
              obtain ⟨v452, ev452⟩ : ∃ q : Int32, x4 + 6 = q := ⟨_, rfl⟩
              have zv452 : v452.toInt = (x4.toInt + 6) := by rw [← ev452]; exact (xz_add (X := x4.toInt) (Y := 6) rfl (by decide) (by omega) (by omega)).trans (by omega)
              refine xi_iinc (pc' := 1504) (x := x4) (v := v452) (lv' := [(4, .int v452), (3, .ref 167), (2, .ref 115), (1, .ref 0), (0, .ref 1000000)]) kc_195_1501 rfl rfl ev452 rfl (xm_lt ml_195 rfl) ?_
              refine xi_goto (pc' := 23) kc_195_1504 rfl ?_
              have A453 := ((eh450.2.1 1 (by decide)).trans ((eh443.2.1 1 (by decide)).trans ((eh440.2.1 1 (by decide)).trans A3)))
              have A454 := ((eh450.2.1 115 (by decide)).trans eh443.1)
              exact kk v452 hh450 (by omega) K451 ⟨(xGR_kept I.1 (fun c hc => ((eh450.2.1 c (Ne.symm (xk_nc hc rfl))).trans ((eh443.2.1 c (Ne.symm (xk_nc hc rfl))).trans (eh440.2.1 c (Ne.symm (xk_nc hc rfl)))))) ((eh450.2.1 125 (by decide)).trans ((eh443.2.1 125 (by decide)).trans (eh440.2.1 125 (by decide))))), (xGR_kept I.2.1 (fun c hc => ((eh450.2.1 c (Ne.symm (xk_nc hc rfl))).trans ((eh443.2.1 c (Ne.symm (xk_nc hc rfl))).trans (eh440.2.1 c (Ne.symm (xk_nc hc rfl)))))) ((eh450.2.1 127 (by decide)).trans ((eh443.2.1 127 (by decide)).trans (eh440.2.1 127 (by decide))))), ((xl_of A453 rfl).trans (xl_of A454 rfl).symm)⟩
set_option maxHeartbeats 8000000 in
theorem lc_6 {J : xe_J} {ov : List (List Int32)} (hJ : ∀ d mj as h, mj ≠ xe_loff → J d mj as h = none) (hov1 : ov[1]? = some [10, 0, 0, 0, 0, 0]) (hov2 : ov[2]? = some [99, 30, 50, 50, 1, 99999]) {xs : List Int32} (hov0 : ov[0]? = some xs) {Q : Option Value → xe_H → Prop} {h : xe_H} {x4 : Int32} (hi0 : 0 ≤ x4.toInt) (hi1 : x4.toInt + 6 ≤ xs.length) (hi2 : x4.toInt ≤ 3066) (T : xt h) (kk : ∀ (i : Int32) (h' : xe_H), i.toInt = x4.toInt + 6 → xk [(29, 0), (31, 0), (33, 0), (35, 0), (37, 0), (39, 0), (41, 0), (43, 0), (45, 0), (47, 0), (49, 0), (51, 0), (125, 0), (29, 2), (31, 2), (33, 2), (35, 2), (37, 2), (39, 2), (41, 2), (43, 2), (45, 2), (47, 2), (49, 2), (51, 2), (127, 0), (1, 5), (115, 23)] h h' → xw J ov 100 195 (23, [(4, .int i), (3, .ref 167), (2, .ref 115), (1, .ref 0), (0, .ref 1000000)], [], h') Q) : xw J ov 100 195 (478, [(4, .int x4), (3, .ref 167), (2, .ref 115), (1, .ref 0), (0, .ref 1000000)], [], h) Q := by
  have K : xk [(29, 0), (31, 0), (33, 0), (35, 0), (37, 0), (39, 0), (41, 0), (43, 0), (45, 0), (47, 0), (49, 0), (51, 0), (125, 0), (29, 2), (31, 2), (33, 2), (35, 2), (37, 2), (39, 2), (41, 2), (43, 2), (45, 2), (47, 2), (49, 2), (51, 2), (127, 0), (1, 5), (115, 23)] h h := xk_re T
  refine xi_aload_n (pc' := 479) (x := 0) kc_195_478 rfl rfl ?_
  refine xi_aload_n (pc' := 480) (x := 1000000) kc_195_479 rfl rfl ?_
  refine xi_iload (pc' := 482) (x := x4) kc_195_480 rfl rfl ?_
  refine xi_iconst (pc' := 483) (v := 1) kc_195_482 rfl rfl ?_
  obtain ⟨v1, ev1⟩ : ∃ q : Int32, x4 + 1 = q := ⟨_, rfl⟩
  have zv1 : v1.toInt = (x4.toInt + 1) := by rw [← ev1]; exact (xz_add (X := x4.toInt) (Y := 1) rfl (by decide) (by omega) (by omega)).trans (by omega)
  refine xi_iadd (pc' := 484) (v := v1) kc_195_483 rfl ev1 ?_
  obtain ⟨a2, ea2⟩ : ∃ q : Int32, xs.getD (Int32.toNatClampNeg v1) 0 = q := ⟨_, rfl⟩
  have ra2 := xc_rng a2
  refine xi_ialoadO (pc' := 485) (v := a2) kc_195_484 rfl (by decide) hov0 (xi_in (by omega) (by omega)) ea2 ?_
  refine xi_aload_n (pc' := 486) (x := 1000000) kc_195_485 rfl rfl ?_
  refine xi_iload (pc' := 488) (x := x4) kc_195_486 rfl rfl ?_
  refine xi_iconst (pc' := 489) (v := 2) kc_195_488 rfl rfl ?_
  obtain ⟨v3, ev3⟩ : ∃ q : Int32, x4 + 2 = q := ⟨_, rfl⟩
  have zv3 : v3.toInt = (x4.toInt + 2) := by rw [← ev3]; exact (xz_add (X := x4.toInt) (Y := 2) rfl (by decide) (by omega) (by omega)).trans (by omega)
  refine xi_iadd (pc' := 490) (v := v3) kc_195_489 rfl ev3 ?_
  obtain ⟨a4, ea4⟩ : ∃ q : Int32, xs.getD (Int32.toNatClampNeg v3) 0 = q := ⟨_, rfl⟩
  have ra4 := xc_rng a4
  refine xi_ialoadO (pc' := 491) (v := a4) kc_195_490 rfl (by decide) hov0 (xi_in (by omega) (by omega)) ea4 ?_
  obtain ⟨u5, u6, bu5, bu6, A7⟩ := xq_0 K.1
  refine xi_virtual (mj := 106) (as := [.int a2, .int a4]) (st1 := []) (lv0 := [(0, .ref 0), (1, .int a2), (2, .int a4)]) kc_195_491 rfl rfl rfl rfl rfl A7 (Nat.le_of_ble_eq_true rfl) (hJ _ _ _ _ (by decide)) (xm_le ml_106 rfl) rfl ?_
  refine mt_106_0 hJ hov1 hov2 (d := 95) (x1 := a2) (x2 := a4) K.1 (fun r8 hh9 K10 => ?_)
  have br8 := xc_rng r8
  have K11 := xk_tr K K10 rfl
  obtain ⟨u12, u13, bu12, bu13, A14⟩ := xq_0 K11.1
  have e15 : u6 = u13 := xk_eqi (q := 9) K10 rfl A7 A14 rfl rfl
  subst e15
  show xw J ov 100 195 (494, [(4, .int x4), (3, .ref 167), (2, .ref 115), (1, .ref 0), (0, .ref 1000000)], [.int r8], hh9) _
  refine xi_pop (pc' := 495) kc_195_494 rfl rfl ?_
  refine xi_aload_n (pc' := 496) (x := 115) kc_195_495 rfl rfl ?_
  refine xi_aload_n (pc' := 497) (x := 1000000) kc_195_496 rfl rfl ?_
  refine xi_iload (pc' := 499) (x := x4) kc_195_497 rfl rfl ?_
  refine xi_iconst (pc' := 500) (v := 1) kc_195_499 rfl rfl ?_
  refine xi_iadd (pc' := 501) (v := v1) kc_195_500 rfl ev1 ?_
  refine xi_ialoadO (pc' := 502) (v := a2) kc_195_501 rfl (by decide) hov0 (xi_in (by omega) (by omega)) ea2 ?_
  refine xi_aload_n (pc' := 503) (x := 1000000) kc_195_502 rfl rfl ?_
  refine xi_iload (pc' := 505) (x := x4) kc_195_503 rfl rfl ?_
  refine xi_iconst (pc' := 506) (v := 2) kc_195_505 rfl rfl ?_
  refine xi_iadd (pc' := 507) (v := v3) kc_195_506 rfl ev3 ?_
  refine xi_ialoadO (pc' := 508) (v := a4) kc_195_507 rfl (by decide) hov0 (xi_in (by omega) (by omega)) ea4 ?_
  obtain ⟨u16, u17, u18, u19, u20, u21, u22, u23, u24, u25, u26, u27, u28, bu16, bu17, bu18, bu19, bu20, bu21, bu22, bu23, bu24, bu25, bu26, bu27, bu28, A29⟩ := xq_115 K11.1
  refine xi_virtual (mj := 25) (as := [.int a2, .int a4]) (st1 := []) (lv0 := [(0, .ref 115), (1, .int a2), (2, .int a4)]) kc_195_508 rfl rfl rfl rfl rfl A29 (Nat.le_of_ble_eq_true rfl) (hJ _ _ _ _ (by decide)) (xm_le ml_25 rfl) rfl ?_
  refine mt_25_0 hJ hov1 hov2 (d := 96) (x1 := a2) (x2 := a4) K11.1 (fun r30 hh31 K32 => ?_)
  have br30 := xc_rng r30
  have K33 := xk_tr K11 K32 rfl
  obtain ⟨u34, u35, bu34, bu35, A36⟩ := xq_0 K33.1
  have e37 : u6 = u35 := xk_eqi (q := 9) K32 rfl A14 A36 rfl rfl
  subst e37
  obtain ⟨u38, u39, u40, u41, u42, u43, u44, u45, u46, u47, u48, u49, u50, bu38, bu39, bu40, bu41, bu42, bu43, bu44, bu45, bu46, bu47, bu48, bu49, bu50, A51⟩ := xq_115 K33.1
  have e52 : u17 = u39 := xk_eqi (q := 1) K32 rfl A29 A51 rfl rfl
  subst e52
  have e53 : u20 = u42 := xk_eqi (q := 23) K32 rfl A29 A51 rfl rfl
  subst e53
  show xw J ov 100 195 (511, [(4, .int x4), (3, .ref 167), (2, .ref 115), (1, .ref 0), (0, .ref 1000000)], [.int r30], hh31) _
  refine xi_pop (pc' := 512) kc_195_511 rfl rfl ?_
  refine xi_goto (pc' := 1501) kc_195_512 rfl ?_
  obtain ⟨v54, ev54⟩ : ∃ q : Int32, x4 + 6 = q := ⟨_, rfl⟩
  have zv54 : v54.toInt = (x4.toInt + 6) := by rw [← ev54]; exact (xz_add (X := x4.toInt) (Y := 6) rfl (by decide) (by omega) (by omega)).trans (by omega)
  refine xi_iinc (pc' := 1504) (x := x4) (v := v54) (lv' := [(4, .int v54), (3, .ref 167), (2, .ref 115), (1, .ref 0), (0, .ref 1000000)]) kc_195_1501 rfl rfl ev54 rfl (xm_lt ml_195 rfl) ?_
  refine xi_goto (pc' := 23) kc_195_1504 rfl ?_
  exact kk v54 hh31 (by omega) K33
set_option maxHeartbeats 8000000 in
theorem lc_7 {J : xe_J} {ov : List (List Int32)} (hJ : ∀ d mj as h, mj ≠ xe_loff → J d mj as h = none) (hov1 : ov[1]? = some [10, 0, 0, 0, 0, 0]) (hov2 : ov[2]? = some [99, 30, 50, 50, 1, 99999]) {xs : List Int32} (hov0 : ov[0]? = some xs) {Q : Option Value → xe_H → Prop} {h : xe_H} {x4 : Int32} (hi0 : 0 ≤ x4.toInt) (hi1 : x4.toInt + 6 ≤ xs.length) (hi2 : x4.toInt ≤ 3066) (T : xt h) (kk : ∀ (i : Int32) (h' : xe_H), i.toInt = x4.toInt + 6 → xk [(29, 0), (31, 0), (33, 0), (35, 0), (37, 0), (39, 0), (41, 0), (43, 0), (45, 0), (47, 0), (49, 0), (51, 0), (125, 0), (29, 2), (31, 2), (33, 2), (35, 2), (37, 2), (39, 2), (41, 2), (43, 2), (45, 2), (47, 2), (49, 2), (51, 2), (127, 0), (1, 5), (115, 23)] h h' → xw J ov 100 195 (23, [(4, .int i), (3, .ref 167), (2, .ref 115), (1, .ref 0), (0, .ref 1000000)], [], h') Q) : xw J ov 100 195 (515, [(4, .int x4), (3, .ref 167), (2, .ref 115), (1, .ref 0), (0, .ref 1000000)], [], h) Q := by
  have K : xk [(29, 0), (31, 0), (33, 0), (35, 0), (37, 0), (39, 0), (41, 0), (43, 0), (45, 0), (47, 0), (49, 0), (51, 0), (125, 0), (29, 2), (31, 2), (33, 2), (35, 2), (37, 2), (39, 2), (41, 2), (43, 2), (45, 2), (47, 2), (49, 2), (51, 2), (127, 0), (1, 5), (115, 23)] h h := xk_re T
  refine xi_aload_n (pc' := 516) (x := 0) kc_195_515 rfl rfl ?_
  refine xi_aload_n (pc' := 517) (x := 1000000) kc_195_516 rfl rfl ?_
  refine xi_iload (pc' := 519) (x := x4) kc_195_517 rfl rfl ?_
  refine xi_iconst (pc' := 520) (v := 1) kc_195_519 rfl rfl ?_
  obtain ⟨v1, ev1⟩ : ∃ q : Int32, x4 + 1 = q := ⟨_, rfl⟩
  have zv1 : v1.toInt = (x4.toInt + 1) := by rw [← ev1]; exact (xz_add (X := x4.toInt) (Y := 1) rfl (by decide) (by omega) (by omega)).trans (by omega)
  refine xi_iadd (pc' := 521) (v := v1) kc_195_520 rfl ev1 ?_
  obtain ⟨a2, ea2⟩ : ∃ q : Int32, xs.getD (Int32.toNatClampNeg v1) 0 = q := ⟨_, rfl⟩
  have ra2 := xc_rng a2
  refine xi_ialoadO (pc' := 522) (v := a2) kc_195_521 rfl (by decide) hov0 (xi_in (by omega) (by omega)) ea2 ?_
  obtain ⟨u3, u4, bu3, bu4, A5⟩ := xq_0 K.1
  refine xi_virtual (mj := 110) (as := [.int a2]) (st1 := []) (lv0 := [(0, .ref 0), (1, .int a2)]) kc_195_522 rfl rfl rfl rfl rfl A5 (Nat.le_of_ble_eq_true rfl) (hJ _ _ _ _ (by decide)) (xm_le ml_110 rfl) rfl ?_
  refine mt_110_0 hJ hov1 hov2 (d := 98) (x1 := a2) K.1 (fun r6 hh7 K8 => ?_)
  have br6 := xc_rng r6
  have K9 := xk_tr K K8 rfl
  obtain ⟨u10, u11, bu10, bu11, A12⟩ := xq_0 K9.1
  have e13 : u4 = u11 := xk_eqi (q := 9) K8 rfl A5 A12 rfl rfl
  subst e13
  show xw J ov 100 195 (525, [(4, .int x4), (3, .ref 167), (2, .ref 115), (1, .ref 0), (0, .ref 1000000)], [.int r6], hh7) _
  refine xi_pop (pc' := 526) kc_195_525 rfl rfl ?_
  refine xi_aload_n (pc' := 527) (x := 115) kc_195_526 rfl rfl ?_
  refine xi_aload_n (pc' := 528) (x := 1000000) kc_195_527 rfl rfl ?_
  refine xi_iload (pc' := 530) (x := x4) kc_195_528 rfl rfl ?_
  refine xi_iconst (pc' := 531) (v := 1) kc_195_530 rfl rfl ?_
  refine xi_iadd (pc' := 532) (v := v1) kc_195_531 rfl ev1 ?_
  refine xi_ialoadO (pc' := 533) (v := a2) kc_195_532 rfl (by decide) hov0 (xi_in (by omega) (by omega)) ea2 ?_
  obtain ⟨u14, u15, u16, u17, u18, u19, u20, u21, u22, u23, u24, u25, u26, bu14, bu15, bu16, bu17, bu18, bu19, bu20, bu21, bu22, bu23, bu24, bu25, bu26, A27⟩ := xq_115 K9.1
  refine xi_virtual (mj := 27) (as := [.int a2]) (st1 := []) (lv0 := [(0, .ref 115), (1, .int a2)]) kc_195_533 rfl rfl rfl rfl rfl A27 (Nat.le_of_ble_eq_true rfl) (hJ _ _ _ _ (by decide)) (xm_le ml_27 rfl) rfl ?_
  refine mt_27_0 hJ hov1 hov2 (d := 98) (x1 := a2) K9.1 (fun r28 hh29 K30 => ?_)
  have br28 := xc_rng r28
  have K31 := xk_tr K9 K30 rfl
  obtain ⟨u32, u33, bu32, bu33, A34⟩ := xq_0 K31.1
  have e35 : u4 = u33 := xk_eqi (q := 9) K30 rfl A12 A34 rfl rfl
  subst e35
  obtain ⟨u36, u37, u38, u39, u40, u41, u42, u43, u44, u45, u46, u47, u48, bu36, bu37, bu38, bu39, bu40, bu41, bu42, bu43, bu44, bu45, bu46, bu47, bu48, A49⟩ := xq_115 K31.1
  have e50 : u15 = u37 := xk_eqi (q := 1) K30 rfl A27 A49 rfl rfl
  subst e50
  have e51 : u18 = u40 := xk_eqi (q := 23) K30 rfl A27 A49 rfl rfl
  subst e51
  show xw J ov 100 195 (536, [(4, .int x4), (3, .ref 167), (2, .ref 115), (1, .ref 0), (0, .ref 1000000)], [.int r28], hh29) _
  refine xi_pop (pc' := 537) kc_195_536 rfl rfl ?_
  refine xi_goto (pc' := 1501) kc_195_537 rfl ?_
  obtain ⟨v52, ev52⟩ : ∃ q : Int32, x4 + 6 = q := ⟨_, rfl⟩
  have zv52 : v52.toInt = (x4.toInt + 6) := by rw [← ev52]; exact (xz_add (X := x4.toInt) (Y := 6) rfl (by decide) (by omega) (by omega)).trans (by omega)
  refine xi_iinc (pc' := 1504) (x := x4) (v := v52) (lv' := [(4, .int v52), (3, .ref 167), (2, .ref 115), (1, .ref 0), (0, .ref 1000000)]) kc_195_1501 rfl rfl ev52 rfl (xm_lt ml_195 rfl) ?_
  refine xi_goto (pc' := 23) kc_195_1504 rfl ?_
  exact kk v52 hh29 (by omega) K31
set_option maxHeartbeats 8000000 in
theorem lc_8 {J : xe_J} {ov : List (List Int32)} (hJ : ∀ d mj as h, mj ≠ xe_loff → J d mj as h = none) (hov1 : ov[1]? = some [10, 0, 0, 0, 0, 0]) (hov2 : ov[2]? = some [99, 30, 50, 50, 1, 99999]) {xs : List Int32} (hov0 : ov[0]? = some xs) {Q : Option Value → xe_H → Prop} {h : xe_H} {x4 : Int32} (hi0 : 0 ≤ x4.toInt) (hi1 : x4.toInt + 6 ≤ xs.length) (hi2 : x4.toInt ≤ 3066) (T : xt h) (kk : ∀ (i : Int32) (h' : xe_H), i.toInt = x4.toInt + 6 → xk [(29, 0), (31, 0), (33, 0), (35, 0), (37, 0), (39, 0), (41, 0), (43, 0), (45, 0), (47, 0), (49, 0), (51, 0), (125, 0), (29, 2), (31, 2), (33, 2), (35, 2), (37, 2), (39, 2), (41, 2), (43, 2), (45, 2), (47, 2), (49, 2), (51, 2), (127, 0), (1, 5), (115, 23)] h h' → xw J ov 100 195 (23, [(4, .int i), (3, .ref 167), (2, .ref 115), (1, .ref 0), (0, .ref 1000000)], [], h') Q) : xw J ov 100 195 (540, [(4, .int x4), (3, .ref 167), (2, .ref 115), (1, .ref 0), (0, .ref 1000000)], [], h) Q := by
  have K : xk [(29, 0), (31, 0), (33, 0), (35, 0), (37, 0), (39, 0), (41, 0), (43, 0), (45, 0), (47, 0), (49, 0), (51, 0), (125, 0), (29, 2), (31, 2), (33, 2), (35, 2), (37, 2), (39, 2), (41, 2), (43, 2), (45, 2), (47, 2), (49, 2), (51, 2), (127, 0), (1, 5), (115, 23)] h h := xk_re T
  refine xi_aload_n (pc' := 541) (x := 0) kc_195_540 rfl rfl ?_
  refine xi_aload_n (pc' := 542) (x := 1000000) kc_195_541 rfl rfl ?_
  refine xi_iload (pc' := 544) (x := x4) kc_195_542 rfl rfl ?_
  refine xi_iconst (pc' := 545) (v := 1) kc_195_544 rfl rfl ?_
  obtain ⟨v1, ev1⟩ : ∃ q : Int32, x4 + 1 = q := ⟨_, rfl⟩
  have zv1 : v1.toInt = (x4.toInt + 1) := by rw [← ev1]; exact (xz_add (X := x4.toInt) (Y := 1) rfl (by decide) (by omega) (by omega)).trans (by omega)
  refine xi_iadd (pc' := 546) (v := v1) kc_195_545 rfl ev1 ?_
  obtain ⟨a2, ea2⟩ : ∃ q : Int32, xs.getD (Int32.toNatClampNeg v1) 0 = q := ⟨_, rfl⟩
  have ra2 := xc_rng a2
  refine xi_ialoadO (pc' := 547) (v := a2) kc_195_546 rfl (by decide) hov0 (xi_in (by omega) (by omega)) ea2 ?_
  obtain ⟨u3, u4, bu3, bu4, A5⟩ := xq_0 K.1
  refine xi_virtual (mj := 111) (as := [.int a2]) (st1 := []) (lv0 := [(0, .ref 0), (1, .int a2)]) kc_195_547 rfl rfl rfl rfl rfl A5 (Nat.le_of_ble_eq_true rfl) (hJ _ _ _ _ (by decide)) (xm_le ml_111 rfl) rfl ?_
  refine mt_111_0 hJ hov1 hov2 (d := 98) (x1 := a2) K.1 (fun r6 hh7 K8 => ?_)
  have br6 := xc_rng r6
  have K9 := xk_tr K K8 rfl
  obtain ⟨u10, u11, bu10, bu11, A12⟩ := xq_0 K9.1
  have e13 : u4 = u11 := xk_eqi (q := 9) K8 rfl A5 A12 rfl rfl
  subst e13
  show xw J ov 100 195 (550, [(4, .int x4), (3, .ref 167), (2, .ref 115), (1, .ref 0), (0, .ref 1000000)], [.int r6], hh7) _
  refine xi_pop (pc' := 551) kc_195_550 rfl rfl ?_
  refine xi_aload_n (pc' := 552) (x := 115) kc_195_551 rfl rfl ?_
  refine xi_aload_n (pc' := 553) (x := 1000000) kc_195_552 rfl rfl ?_
  refine xi_iload (pc' := 555) (x := x4) kc_195_553 rfl rfl ?_
  refine xi_iconst (pc' := 556) (v := 1) kc_195_555 rfl rfl ?_
  refine xi_iadd (pc' := 557) (v := v1) kc_195_556 rfl ev1 ?_
  refine xi_ialoadO (pc' := 558) (v := a2) kc_195_557 rfl (by decide) hov0 (xi_in (by omega) (by omega)) ea2 ?_
  obtain ⟨u14, u15, u16, u17, u18, u19, u20, u21, u22, u23, u24, u25, u26, bu14, bu15, bu16, bu17, bu18, bu19, bu20, bu21, bu22, bu23, bu24, bu25, bu26, A27⟩ := xq_115 K9.1
  refine xi_virtual (mj := 28) (as := [.int a2]) (st1 := []) (lv0 := [(0, .ref 115), (1, .int a2)]) kc_195_558 rfl rfl rfl rfl rfl A27 (Nat.le_of_ble_eq_true rfl) (hJ _ _ _ _ (by decide)) (xm_le ml_28 rfl) rfl ?_
  refine mt_28_0 hJ hov1 hov2 (d := 97) (x1 := a2) K9.1 (fun r28 hh29 K30 => ?_)
  have br28 := xc_rng r28
  have K31 := xk_tr K9 K30 rfl
  obtain ⟨u32, u33, bu32, bu33, A34⟩ := xq_0 K31.1
  have e35 : u4 = u33 := xk_eqi (q := 9) K30 rfl A12 A34 rfl rfl
  subst e35
  obtain ⟨u36, u37, u38, u39, u40, u41, u42, u43, u44, u45, u46, u47, u48, bu36, bu37, bu38, bu39, bu40, bu41, bu42, bu43, bu44, bu45, bu46, bu47, bu48, A49⟩ := xq_115 K31.1
  have e50 : u15 = u37 := xk_eqi (q := 1) K30 rfl A27 A49 rfl rfl
  subst e50
  have e51 : u18 = u40 := xk_eqi (q := 23) K30 rfl A27 A49 rfl rfl
  subst e51
  show xw J ov 100 195 (561, [(4, .int x4), (3, .ref 167), (2, .ref 115), (1, .ref 0), (0, .ref 1000000)], [.int r28], hh29) _
  refine xi_pop (pc' := 562) kc_195_561 rfl rfl ?_
  refine xi_goto (pc' := 1501) kc_195_562 rfl ?_
  obtain ⟨v52, ev52⟩ : ∃ q : Int32, x4 + 6 = q := ⟨_, rfl⟩
  have zv52 : v52.toInt = (x4.toInt + 6) := by rw [← ev52]; exact (xz_add (X := x4.toInt) (Y := 6) rfl (by decide) (by omega) (by omega)).trans (by omega)
  refine xi_iinc (pc' := 1504) (x := x4) (v := v52) (lv' := [(4, .int v52), (3, .ref 167), (2, .ref 115), (1, .ref 0), (0, .ref 1000000)]) kc_195_1501 rfl rfl ev52 rfl (xm_lt ml_195 rfl) ?_
  refine xi_goto (pc' := 23) kc_195_1504 rfl ?_
  exact kk v52 hh29 (by omega) K31
set_option maxHeartbeats 8000000 in
theorem lc_9 {J : xe_J} {ov : List (List Int32)} (hJ : ∀ d mj as h, mj ≠ xe_loff → J d mj as h = none) (hov1 : ov[1]? = some [10, 0, 0, 0, 0, 0]) (hov2 : ov[2]? = some [99, 30, 50, 50, 1, 99999]) {xs : List Int32} (hov0 : ov[0]? = some xs) {Q : Option Value → xe_H → Prop} {h : xe_H} {x4 : Int32} (hi0 : 0 ≤ x4.toInt) (hi1 : x4.toInt + 6 ≤ xs.length) (hi2 : x4.toInt ≤ 3066) (T : xt h) (kk : ∀ (i : Int32) (h' : xe_H), i.toInt = x4.toInt + 6 → xk [(29, 0), (31, 0), (33, 0), (35, 0), (37, 0), (39, 0), (41, 0), (43, 0), (45, 0), (47, 0), (49, 0), (51, 0), (125, 0), (29, 2), (31, 2), (33, 2), (35, 2), (37, 2), (39, 2), (41, 2), (43, 2), (45, 2), (47, 2), (49, 2), (51, 2), (127, 0), (1, 5), (115, 23)] h h' → xw J ov 100 195 (23, [(4, .int i), (3, .ref 167), (2, .ref 115), (1, .ref 0), (0, .ref 1000000)], [], h') Q) : xw J ov 100 195 (565, [(4, .int x4), (3, .ref 167), (2, .ref 115), (1, .ref 0), (0, .ref 1000000)], [], h) Q := by
  have K : xk [(29, 0), (31, 0), (33, 0), (35, 0), (37, 0), (39, 0), (41, 0), (43, 0), (45, 0), (47, 0), (49, 0), (51, 0), (125, 0), (29, 2), (31, 2), (33, 2), (35, 2), (37, 2), (39, 2), (41, 2), (43, 2), (45, 2), (47, 2), (49, 2), (51, 2), (127, 0), (1, 5), (115, 23)] h h := xk_re T
  refine xi_aload_n (pc' := 566) (x := 0) kc_195_565 rfl rfl ?_
  refine xi_aload_n (pc' := 567) (x := 1000000) kc_195_566 rfl rfl ?_
  refine xi_iload (pc' := 569) (x := x4) kc_195_567 rfl rfl ?_
  refine xi_iconst (pc' := 570) (v := 1) kc_195_569 rfl rfl ?_
  obtain ⟨v1, ev1⟩ : ∃ q : Int32, x4 + 1 = q := ⟨_, rfl⟩
  have zv1 : v1.toInt = (x4.toInt + 1) := by rw [← ev1]; exact (xz_add (X := x4.toInt) (Y := 1) rfl (by decide) (by omega) (by omega)).trans (by omega)
  refine xi_iadd (pc' := 571) (v := v1) kc_195_570 rfl ev1 ?_
  obtain ⟨a2, ea2⟩ : ∃ q : Int32, xs.getD (Int32.toNatClampNeg v1) 0 = q := ⟨_, rfl⟩
  have ra2 := xc_rng a2
  refine xi_ialoadO (pc' := 572) (v := a2) kc_195_571 rfl (by decide) hov0 (xi_in (by omega) (by omega)) ea2 ?_
  obtain ⟨u3, u4, bu3, bu4, A5⟩ := xq_0 K.1
  refine xi_virtual (mj := 112) (as := [.int a2]) (st1 := []) (lv0 := [(0, .ref 0), (1, .int a2)]) kc_195_572 rfl rfl rfl rfl rfl A5 (Nat.le_of_ble_eq_true rfl) (hJ _ _ _ _ (by decide)) (xm_le ml_112 rfl) rfl ?_
  refine mt_112_0 hJ hov1 hov2 (d := 98) (x1 := a2) K.1 (fun r6 hh7 K8 => ?_)
  have br6 := xc_rng r6
  have K9 := xk_tr K K8 rfl
  obtain ⟨u10, u11, bu10, bu11, A12⟩ := xq_0 K9.1
  have e13 : u4 = u11 := xk_eqi (q := 9) K8 rfl A5 A12 rfl rfl
  subst e13
  show xw J ov 100 195 (575, [(4, .int x4), (3, .ref 167), (2, .ref 115), (1, .ref 0), (0, .ref 1000000)], [.int r6], hh7) _
  refine xi_pop (pc' := 576) kc_195_575 rfl rfl ?_
  refine xi_aload_n (pc' := 577) (x := 115) kc_195_576 rfl rfl ?_
  refine xi_aload_n (pc' := 578) (x := 1000000) kc_195_577 rfl rfl ?_
  refine xi_iload (pc' := 580) (x := x4) kc_195_578 rfl rfl ?_
  refine xi_iconst (pc' := 581) (v := 1) kc_195_580 rfl rfl ?_
  refine xi_iadd (pc' := 582) (v := v1) kc_195_581 rfl ev1 ?_
  refine xi_ialoadO (pc' := 583) (v := a2) kc_195_582 rfl (by decide) hov0 (xi_in (by omega) (by omega)) ea2 ?_
  obtain ⟨u14, u15, u16, u17, u18, u19, u20, u21, u22, u23, u24, u25, u26, bu14, bu15, bu16, bu17, bu18, bu19, bu20, bu21, bu22, bu23, bu24, bu25, bu26, A27⟩ := xq_115 K9.1
  refine xi_virtual (mj := 29) (as := [.int a2]) (st1 := []) (lv0 := [(0, .ref 115), (1, .int a2)]) kc_195_583 rfl rfl rfl rfl rfl A27 (Nat.le_of_ble_eq_true rfl) (hJ _ _ _ _ (by decide)) (xm_le ml_29 rfl) rfl ?_
  refine mt_29_0 hJ hov1 hov2 (d := 97) (x1 := a2) K9.1 (fun r28 hh29 K30 => ?_)
  have br28 := xc_rng r28
  have K31 := xk_tr K9 K30 rfl
  obtain ⟨u32, u33, bu32, bu33, A34⟩ := xq_0 K31.1
  have e35 : u4 = u33 := xk_eqi (q := 9) K30 rfl A12 A34 rfl rfl
  subst e35
  obtain ⟨u36, u37, u38, u39, u40, u41, u42, u43, u44, u45, u46, u47, u48, bu36, bu37, bu38, bu39, bu40, bu41, bu42, bu43, bu44, bu45, bu46, bu47, bu48, A49⟩ := xq_115 K31.1
  have e50 : u15 = u37 := xk_eqi (q := 1) K30 rfl A27 A49 rfl rfl
  subst e50
  have e51 : u18 = u40 := xk_eqi (q := 23) K30 rfl A27 A49 rfl rfl
  subst e51
  show xw J ov 100 195 (586, [(4, .int x4), (3, .ref 167), (2, .ref 115), (1, .ref 0), (0, .ref 1000000)], [.int r28], hh29) _
  refine xi_pop (pc' := 587) kc_195_586 rfl rfl ?_
  refine xi_goto (pc' := 1501) kc_195_587 rfl ?_
  obtain ⟨v52, ev52⟩ : ∃ q : Int32, x4 + 6 = q := ⟨_, rfl⟩
  have zv52 : v52.toInt = (x4.toInt + 6) := by rw [← ev52]; exact (xz_add (X := x4.toInt) (Y := 6) rfl (by decide) (by omega) (by omega)).trans (by omega)
  refine xi_iinc (pc' := 1504) (x := x4) (v := v52) (lv' := [(4, .int v52), (3, .ref 167), (2, .ref 115), (1, .ref 0), (0, .ref 1000000)]) kc_195_1501 rfl rfl ev52 rfl (xm_lt ml_195 rfl) ?_
  refine xi_goto (pc' := 23) kc_195_1504 rfl ?_
  exact kk v52 hh29 (by omega) K31
set_option maxHeartbeats 8000000 in
theorem lc_10 {J : xe_J} {ov : List (List Int32)} (hJ : ∀ d mj as h, mj ≠ xe_loff → J d mj as h = none) (hov1 : ov[1]? = some [10, 0, 0, 0, 0, 0]) (hov2 : ov[2]? = some [99, 30, 50, 50, 1, 99999]) {xs : List Int32} (hov0 : ov[0]? = some xs) {Q : Option Value → xe_H → Prop} {h : xe_H} {x4 : Int32} (hi0 : 0 ≤ x4.toInt) (hi1 : x4.toInt + 6 ≤ xs.length) (hi2 : x4.toInt ≤ 3066) (T : xt h) (kk : ∀ (i : Int32) (h' : xe_H), i.toInt = x4.toInt + 6 → xk [(29, 0), (31, 0), (33, 0), (35, 0), (37, 0), (39, 0), (41, 0), (43, 0), (45, 0), (47, 0), (49, 0), (51, 0), (125, 0), (29, 2), (31, 2), (33, 2), (35, 2), (37, 2), (39, 2), (41, 2), (43, 2), (45, 2), (47, 2), (49, 2), (51, 2), (127, 0), (1, 5), (115, 23)] h h' → xw J ov 100 195 (23, [(4, .int i), (3, .ref 167), (2, .ref 115), (1, .ref 0), (0, .ref 1000000)], [], h') Q) : xw J ov 100 195 (590, [(4, .int x4), (3, .ref 167), (2, .ref 115), (1, .ref 0), (0, .ref 1000000)], [], h) Q := by
  have K : xk [(29, 0), (31, 0), (33, 0), (35, 0), (37, 0), (39, 0), (41, 0), (43, 0), (45, 0), (47, 0), (49, 0), (51, 0), (125, 0), (29, 2), (31, 2), (33, 2), (35, 2), (37, 2), (39, 2), (41, 2), (43, 2), (45, 2), (47, 2), (49, 2), (51, 2), (127, 0), (1, 5), (115, 23)] h h := xk_re T
  refine xi_aload_n (pc' := 591) (x := 0) kc_195_590 rfl rfl ?_
  refine xi_aload_n (pc' := 592) (x := 1000000) kc_195_591 rfl rfl ?_
  refine xi_iload (pc' := 594) (x := x4) kc_195_592 rfl rfl ?_
  refine xi_iconst (pc' := 595) (v := 1) kc_195_594 rfl rfl ?_
  obtain ⟨v1, ev1⟩ : ∃ q : Int32, x4 + 1 = q := ⟨_, rfl⟩
  have zv1 : v1.toInt = (x4.toInt + 1) := by rw [← ev1]; exact (xz_add (X := x4.toInt) (Y := 1) rfl (by decide) (by omega) (by omega)).trans (by omega)
  refine xi_iadd (pc' := 596) (v := v1) kc_195_595 rfl ev1 ?_
  obtain ⟨a2, ea2⟩ : ∃ q : Int32, xs.getD (Int32.toNatClampNeg v1) 0 = q := ⟨_, rfl⟩
  have ra2 := xc_rng a2
  refine xi_ialoadO (pc' := 597) (v := a2) kc_195_596 rfl (by decide) hov0 (xi_in (by omega) (by omega)) ea2 ?_
  refine xi_aload_n (pc' := 598) (x := 1000000) kc_195_597 rfl rfl ?_
  refine xi_iload (pc' := 600) (x := x4) kc_195_598 rfl rfl ?_
  refine xi_iconst (pc' := 601) (v := 2) kc_195_600 rfl rfl ?_
  obtain ⟨v3, ev3⟩ : ∃ q : Int32, x4 + 2 = q := ⟨_, rfl⟩
  have zv3 : v3.toInt = (x4.toInt + 2) := by rw [← ev3]; exact (xz_add (X := x4.toInt) (Y := 2) rfl (by decide) (by omega) (by omega)).trans (by omega)
  refine xi_iadd (pc' := 602) (v := v3) kc_195_601 rfl ev3 ?_
  obtain ⟨a4, ea4⟩ : ∃ q : Int32, xs.getD (Int32.toNatClampNeg v3) 0 = q := ⟨_, rfl⟩
  have ra4 := xc_rng a4
  refine xi_ialoadO (pc' := 603) (v := a4) kc_195_602 rfl (by decide) hov0 (xi_in (by omega) (by omega)) ea4 ?_
  refine xi_aload_n (pc' := 604) (x := 1000000) kc_195_603 rfl rfl ?_
  refine xi_iload (pc' := 606) (x := x4) kc_195_604 rfl rfl ?_
  refine xi_iconst (pc' := 607) (v := 3) kc_195_606 rfl rfl ?_
  obtain ⟨v5, ev5⟩ : ∃ q : Int32, x4 + 3 = q := ⟨_, rfl⟩
  have zv5 : v5.toInt = (x4.toInt + 3) := by rw [← ev5]; exact (xz_add (X := x4.toInt) (Y := 3) rfl (by decide) (by omega) (by omega)).trans (by omega)
  refine xi_iadd (pc' := 608) (v := v5) kc_195_607 rfl ev5 ?_
  obtain ⟨a6, ea6⟩ : ∃ q : Int32, xs.getD (Int32.toNatClampNeg v5) 0 = q := ⟨_, rfl⟩
  have ra6 := xc_rng a6
  refine xi_ialoadO (pc' := 609) (v := a6) kc_195_608 rfl (by decide) hov0 (xi_in (by omega) (by omega)) ea6 ?_
  refine xi_aload_n (pc' := 610) (x := 1000000) kc_195_609 rfl rfl ?_
  refine xi_iload (pc' := 612) (x := x4) kc_195_610 rfl rfl ?_
  refine xi_iconst (pc' := 613) (v := 4) kc_195_612 rfl rfl ?_
  obtain ⟨v7, ev7⟩ : ∃ q : Int32, x4 + 4 = q := ⟨_, rfl⟩
  have zv7 : v7.toInt = (x4.toInt + 4) := by rw [← ev7]; exact (xz_add (X := x4.toInt) (Y := 4) rfl (by decide) (by omega) (by omega)).trans (by omega)
  refine xi_iadd (pc' := 614) (v := v7) kc_195_613 rfl ev7 ?_
  obtain ⟨a8, ea8⟩ : ∃ q : Int32, xs.getD (Int32.toNatClampNeg v7) 0 = q := ⟨_, rfl⟩
  have ra8 := xc_rng a8
  refine xi_ialoadO (pc' := 615) (v := a8) kc_195_614 rfl (by decide) hov0 (xi_in (by omega) (by omega)) ea8 ?_
  obtain ⟨u9, u10, bu9, bu10, A11⟩ := xq_0 K.1
  refine xi_virtual (mj := 113) (as := [.int a2, .int a4, .int a6, .int a8]) (st1 := []) (lv0 := [(0, .ref 0), (1, .int a2), (2, .int a4), (3, .int a6), (4, .int a8)]) kc_195_615 rfl rfl rfl rfl rfl A11 (Nat.le_of_ble_eq_true rfl) (hJ _ _ _ _ (by decide)) (xm_le ml_113 rfl) rfl ?_
  refine mt_113_0 hJ hov1 hov2 (d := 96) (x1 := a2) (x2 := a4) (x3 := a6) (x4 := a8) K.1 (fun r12 hh13 br12 K14 => ?_)
  have K15 := xk_tr K K14 rfl
  obtain ⟨u16, u17, bu16, bu17, A18⟩ := xq_0 K15.1
  have e19 : u10 = u17 := xk_eqi (q := 9) K14 rfl A11 A18 rfl rfl
  subst e19
  show xw J ov 100 195 (618, [(4, .int x4), (3, .ref 167), (2, .ref 115), (1, .ref 0), (0, .ref 1000000)], [.int r12], hh13) _
  refine xi_pop (pc' := 619) kc_195_618 rfl rfl ?_
  refine xi_aload_n (pc' := 620) (x := 115) kc_195_619 rfl rfl ?_
  refine xi_aload_n (pc' := 621) (x := 1000000) kc_195_620 rfl rfl ?_
  refine xi_iload (pc' := 623) (x := x4) kc_195_621 rfl rfl ?_
  refine xi_iconst (pc' := 624) (v := 1) kc_195_623 rfl rfl ?_
  refine xi_iadd (pc' := 625) (v := v1) kc_195_624 rfl ev1 ?_
  refine xi_ialoadO (pc' := 626) (v := a2) kc_195_625 rfl (by decide) hov0 (xi_in (by omega) (by omega)) ea2 ?_
  refine xi_aload_n (pc' := 627) (x := 1000000) kc_195_626 rfl rfl ?_
  refine xi_iload (pc' := 629) (x := x4) kc_195_627 rfl rfl ?_
  refine xi_iconst (pc' := 630) (v := 2) kc_195_629 rfl rfl ?_
  refine xi_iadd (pc' := 631) (v := v3) kc_195_630 rfl ev3 ?_
  refine xi_ialoadO (pc' := 632) (v := a4) kc_195_631 rfl (by decide) hov0 (xi_in (by omega) (by omega)) ea4 ?_
  refine xi_aload_n (pc' := 633) (x := 1000000) kc_195_632 rfl rfl ?_
  refine xi_iload (pc' := 635) (x := x4) kc_195_633 rfl rfl ?_
  refine xi_iconst (pc' := 636) (v := 3) kc_195_635 rfl rfl ?_
  refine xi_iadd (pc' := 637) (v := v5) kc_195_636 rfl ev5 ?_
  refine xi_ialoadO (pc' := 638) (v := a6) kc_195_637 rfl (by decide) hov0 (xi_in (by omega) (by omega)) ea6 ?_
  refine xi_aload_n (pc' := 639) (x := 1000000) kc_195_638 rfl rfl ?_
  refine xi_iload (pc' := 641) (x := x4) kc_195_639 rfl rfl ?_
  refine xi_iconst (pc' := 642) (v := 4) kc_195_641 rfl rfl ?_
  refine xi_iadd (pc' := 643) (v := v7) kc_195_642 rfl ev7 ?_
  refine xi_ialoadO (pc' := 644) (v := a8) kc_195_643 rfl (by decide) hov0 (xi_in (by omega) (by omega)) ea8 ?_
  obtain ⟨u20, u21, u22, u23, u24, u25, u26, u27, u28, u29, u30, u31, u32, bu20, bu21, bu22, bu23, bu24, bu25, bu26, bu27, bu28, bu29, bu30, bu31, bu32, A33⟩ := xq_115 K15.1
  refine xi_virtual (mj := 30) (as := [.int a2, .int a4, .int a6, .int a8]) (st1 := []) (lv0 := [(0, .ref 115), (1, .int a2), (2, .int a4), (3, .int a6), (4, .int a8)]) kc_195_644 rfl rfl rfl rfl rfl A33 (Nat.le_of_ble_eq_true rfl) (hJ _ _ _ _ (by decide)) (xm_le ml_30 rfl) rfl ?_
  refine mt_30_0 hJ hov1 hov2 (d := 96) (x1 := a2) (x2 := a4) (x3 := a6) (x4 := a8) K15.1 (fun r34 hh35 br34 K36 => ?_)
  have K37 := xk_tr K15 K36 rfl
  obtain ⟨u38, u39, bu38, bu39, A40⟩ := xq_0 K37.1
  have e41 : u10 = u39 := xk_eqi (q := 9) K36 rfl A18 A40 rfl rfl
  subst e41
  obtain ⟨u42, u43, u44, u45, u46, u47, u48, u49, u50, u51, u52, u53, u54, bu42, bu43, bu44, bu45, bu46, bu47, bu48, bu49, bu50, bu51, bu52, bu53, bu54, A55⟩ := xq_115 K37.1
  have e56 : u21 = u43 := xk_eqi (q := 1) K36 rfl A33 A55 rfl rfl
  subst e56
  have e57 : u24 = u46 := xk_eqi (q := 23) K36 rfl A33 A55 rfl rfl
  subst e57
  show xw J ov 100 195 (647, [(4, .int x4), (3, .ref 167), (2, .ref 115), (1, .ref 0), (0, .ref 1000000)], [.int r34], hh35) _
  refine xi_pop (pc' := 648) kc_195_647 rfl rfl ?_
  refine xi_goto (pc' := 1501) kc_195_648 rfl ?_
  obtain ⟨v58, ev58⟩ : ∃ q : Int32, x4 + 6 = q := ⟨_, rfl⟩
  have zv58 : v58.toInt = (x4.toInt + 6) := by rw [← ev58]; exact (xz_add (X := x4.toInt) (Y := 6) rfl (by decide) (by omega) (by omega)).trans (by omega)
  refine xi_iinc (pc' := 1504) (x := x4) (v := v58) (lv' := [(4, .int v58), (3, .ref 167), (2, .ref 115), (1, .ref 0), (0, .ref 1000000)]) kc_195_1501 rfl rfl ev58 rfl (xm_lt ml_195 rfl) ?_
  refine xi_goto (pc' := 23) kc_195_1504 rfl ?_
  exact kk v58 hh35 (by omega) K37
set_option maxHeartbeats 8000000 in
theorem lc_11 {J : xe_J} {ov : List (List Int32)} (hJ : ∀ d mj as h, mj ≠ xe_loff → J d mj as h = none) (hov1 : ov[1]? = some [10, 0, 0, 0, 0, 0]) (hov2 : ov[2]? = some [99, 30, 50, 50, 1, 99999]) {xs : List Int32} (hov0 : ov[0]? = some xs) {Q : Option Value → xe_H → Prop} {h : xe_H} {x4 : Int32} (hi0 : 0 ≤ x4.toInt) (hi1 : x4.toInt + 6 ≤ xs.length) (hi2 : x4.toInt ≤ 3066) (T : xt h) (I : xI h) (kk : ∀ (i : Int32) (h' : xe_H), i.toInt = x4.toInt + 6 → xk [] h h' → xI h' → xw J ov 100 195 (23, [(4, .int i), (3, .ref 167), (2, .ref 115), (1, .ref 0), (0, .ref 1000000)], [], h') Q) : xw J ov 100 195 (651, [(4, .int x4), (3, .ref 167), (2, .ref 115), (1, .ref 0), (0, .ref 1000000)], [], h) Q := by
  have K : xk [] h h := xk_re T
  obtain ⟨u1, u2, bu1, bu2, A3⟩ := xq_1 K.1
  obtain ⟨u4, u5, u6, u7, u8, u9, u10, u11, u12, u13, u14, u15, u16, bu4, bu5, bu6, bu7, bu8, bu9, bu10, bu11, bu12, bu13, bu14, bu15, bu16, A17⟩ := xq_115 K.1
  have ee2 : u1 = u8 := xl_eqf I.2.2 A3 A17 rfl rfl
  subst ee2
  refine xi_aload_n (pc' := 652) (x := 0) kc_195_651 rfl rfl ?_
  refine xi_aload_n (pc' := 653) (x := 1000000) kc_195_652 rfl rfl ?_
  refine xi_iload (pc' := 655) (x := x4) kc_195_653 rfl rfl ?_
  refine xi_iconst (pc' := 656) (v := 1) kc_195_655 rfl rfl ?_
  obtain ⟨v18, ev18⟩ : ∃ q : Int32, x4 + 1 = q := ⟨_, rfl⟩
  have zv18 : v18.toInt = (x4.toInt + 1) := by rw [← ev18]; exact (xz_add (X := x4.toInt) (Y := 1) rfl (by decide) (by omega) (by omega)).trans (by omega)
  refine xi_iadd (pc' := 657) (v := v18) kc_195_656 rfl ev18 ?_
  obtain ⟨a19, ea19⟩ : ∃ q : Int32, xs.getD (Int32.toNatClampNeg v18) 0 = q := ⟨_, rfl⟩
  have ra19 := xc_rng a19
  refine xi_ialoadO (pc' := 658) (v := a19) kc_195_657 rfl (by decide) hov0 (xi_in (by omega) (by omega)) ea19 ?_
  refine xi_aload_n (pc' := 659) (x := 1000000) kc_195_658 rfl rfl ?_
  refine xi_iload (pc' := 661) (x := x4) kc_195_659 rfl rfl ?_
  refine xi_iconst (pc' := 662) (v := 2) kc_195_661 rfl rfl ?_
  obtain ⟨v20, ev20⟩ : ∃ q : Int32, x4 + 2 = q := ⟨_, rfl⟩
  have zv20 : v20.toInt = (x4.toInt + 2) := by rw [← ev20]; exact (xz_add (X := x4.toInt) (Y := 2) rfl (by decide) (by omega) (by omega)).trans (by omega)
  refine xi_iadd (pc' := 663) (v := v20) kc_195_662 rfl ev20 ?_
  obtain ⟨a21, ea21⟩ : ∃ q : Int32, xs.getD (Int32.toNatClampNeg v20) 0 = q := ⟨_, rfl⟩
  have ra21 := xc_rng a21
  refine xi_ialoadO (pc' := 664) (v := a21) kc_195_663 rfl (by decide) hov0 (xi_in (by omega) (by omega)) ea21 ?_
  refine xi_aload_n (pc' := 665) (x := 1000000) kc_195_664 rfl rfl ?_
  refine xi_iload (pc' := 667) (x := x4) kc_195_665 rfl rfl ?_
  refine xi_iconst (pc' := 668) (v := 3) kc_195_667 rfl rfl ?_
  obtain ⟨v22, ev22⟩ : ∃ q : Int32, x4 + 3 = q := ⟨_, rfl⟩
  have zv22 : v22.toInt = (x4.toInt + 3) := by rw [← ev22]; exact (xz_add (X := x4.toInt) (Y := 3) rfl (by decide) (by omega) (by omega)).trans (by omega)
  refine xi_iadd (pc' := 669) (v := v22) kc_195_668 rfl ev22 ?_
  obtain ⟨a23, ea23⟩ : ∃ q : Int32, xs.getD (Int32.toNatClampNeg v22) 0 = q := ⟨_, rfl⟩
  have ra23 := xc_rng a23
  refine xi_ialoadO (pc' := 670) (v := a23) kc_195_669 rfl (by decide) hov0 (xi_in (by omega) (by omega)) ea23 ?_
  refine xi_aload_n (pc' := 671) (x := 1000000) kc_195_670 rfl rfl ?_
  refine xi_iload (pc' := 673) (x := x4) kc_195_671 rfl rfl ?_
  refine xi_iconst (pc' := 674) (v := 4) kc_195_673 rfl rfl ?_
  obtain ⟨v24, ev24⟩ : ∃ q : Int32, x4 + 4 = q := ⟨_, rfl⟩
  have zv24 : v24.toInt = (x4.toInt + 4) := by rw [← ev24]; exact (xz_add (X := x4.toInt) (Y := 4) rfl (by decide) (by omega) (by omega)).trans (by omega)
  refine xi_iadd (pc' := 675) (v := v24) kc_195_674 rfl ev24 ?_
  obtain ⟨a25, ea25⟩ : ∃ q : Int32, xs.getD (Int32.toNatClampNeg v24) 0 = q := ⟨_, rfl⟩
  have ra25 := xc_rng a25
  refine xi_ialoadO (pc' := 676) (v := a25) kc_195_675 rfl (by decide) hov0 (xi_in (by omega) (by omega)) ea25 ?_
  obtain ⟨u26, u27, bu26, bu27, A28⟩ := xq_0 K.1
  refine xi_virtual (mj := 116) (as := [.int a19, .int a21, .int a23, .int a25]) (st1 := []) (lv0 := [(0, .ref 0), (1, .int a19), (2, .int a21), (3, .int a23), (4, .int a25)]) kc_195_676 rfl rfl rfl rfl rfl A28 (Nat.le_of_ble_eq_true rfl) (hJ _ _ _ _ (by decide)) (xm_le ml_116 rfl) rfl ?_
  refine xi_iload_n (pc' := 1) (x := a19) kc_116_0 rfl rfl ?_
  refine xi_static (mj := 117) (as := [.int a19]) (st1 := []) (lv0 := [(0, .int a19)]) kc_116_1 rfl rfl (Nat.le_of_ble_eq_true rfl) rfl rfl (Nat.le_of_ble_eq_true rfl) (hJ _ _ _ _ (by decide)) (xm_le ml_117 rfl) rfl ?_
  refine xi_iload_n (pc' := 1) (x := a19) kc_117_0 rfl rfl ?_
  by_cases c29 : a19.toInt < 0
  · refine xi_ift (pc' := 13) kc_117_1 rfl (xc_lt_t (X := a19.toInt) (Y := 0) rfl (by decide) (by omega)) ?_
    refine xi_iconst (pc' := 14) (v := 0) kc_117_13 rfl rfl ?_
    refine xi_ireturn kc_117_14 mr_117 rfl ?_
    show xw J ov 99 116 (4, [(0, .ref 0), (1, .int a19), (2, .int a21), (3, .int a23), (4, .int a25)], [.int 0], h) _
    refine xi_iff (pc' := 7) kc_116_4 rfl rfl ?_
    refine xi_aload_n (pc' := 8) (x := 0) kc_116_7 rfl rfl ?_
    refine xi_bipush (pc' := 10) (v := (-2)) kc_116_8 rfl rfl ?_
    refine xi_virtual (mj := 90) (as := [.int (-2)]) (st1 := []) (lv0 := [(0, .ref 0), (1, .int (-2))]) kc_116_10 rfl rfl rfl rfl rfl A28 (Nat.le_of_ble_eq_true rfl) (hJ _ _ _ _ (by decide)) (xm_le ml_90 rfl) rfl ?_
    refine xi_iload_n (pc' := 1) (x := (-2)) kc_90_0 rfl rfl ?_
    refine xi_ineg (pc' := 2) (v := 2) kc_90_1 rfl rfl ?_
    refine xi_istore_n (pc' := 3) (lv' := [(2, .int 2), (0, .ref 0), (1, .int (-2))]) kc_90_2 rfl rfl (xm_lt ml_90 rfl) ?_
    refine xi_iload_n (pc' := 4) (x := 2) kc_90_3 rfl rfl ?_
    refine xi_iff (pc' := 7) kc_90_4 rfl rfl ?_
    refine xi_iload_n (pc' := 8) (x := 2) kc_90_7 rfl rfl ?_
    refine xi_aload_n (pc' := 9) (x := 0) kc_90_8 rfl rfl ?_
    refine xi_getfield (pc' := 12) (v := .ref 94) kc_90_9 rfl rfl rfl A28 rfl ?_
    obtain ⟨y30, A30, hy30, ry30⟩ := xk_arr K.1 xD_94
    refine xi_arraylength (pc' := 13) (n := 7) (v := 7) kc_90_12 rfl (xl_lenI (by decide) (by decide) A30 hy30) rfl ?_
    refine xi_cmf (pc' := 16) kc_90_13 rfl rfl ?_
    refine xi_aload_n (pc' := 17) (x := 0) kc_90_16 rfl rfl ?_
    refine xi_getfield (pc' := 20) (v := .ref 94) kc_90_17 rfl rfl rfl A28 rfl ?_
    refine xi_iload_n (pc' := 21) (x := 2) kc_90_20 rfl rfl ?_
    refine xi_dup2 (pc' := 22) kc_90_21 rfl ⟨rfl, rfl⟩ ?_
    obtain ⟨v31, ev31, bv31, dv31⟩ := xj_get hy30 ry30 (i := 2) (by decide) (by decide)
    refine xi_iaload (pc' := 23) (v := v31) kc_90_22 rfl A30 (by decide) rfl (xi_in (by decide) (by rw [hy30]; decide)) ev31 ?_
    refine xi_iconst (pc' := 24) (v := 1) kc_90_23 rfl rfl ?_
    obtain ⟨v32, ev32⟩ : ∃ q : Int32, (v31 : Int32) + 1 = q := ⟨_, rfl⟩
    have rv32 := xc_rng v32
    refine xi_iadd (pc' := 25) (v := v32) kc_90_24 rfl ev32 ?_
    obtain ⟨y33, s33, hy33, ry33⟩ := xj_set (v := v32) hy30 ry30 2 (by first | omega | decide) (by first | omega | decide)
    refine xi_iastore (pc' := 26) (x' := y33) kc_90_25 rfl A30 rfl (xi_in (by decide) (by rw [hy30]; decide)) s33 (fun hh33 eh33 => ?_)
    have K34 := xk_pa K (xk_wa rfl) xD_94 hy33 ry33 eh33
    refine xi_iload_n (pc' := 27) (x := (-2)) kc_90_26 rfl rfl ?_
    refine xi_ireturn kc_90_27 mr_90 rfl ?_
    show xw J ov 99 116 (13, [(0, .ref 0), (1, .int a19), (2, .int a21), (3, .int a23), (4, .int a25)], [.int (-2)], hh33) _
    refine xi_ireturn kc_116_13 mr_116 rfl ?_
    show xw J ov 100 195 (679, [(4, .int x4), (3, .ref 167), (2, .ref 115), (1, .ref 0), (0, .ref 1000000)], [.int (-2)], hh33) _
    refine xi_aload_n (pc' := 680) (x := 115) kc_195_679 rfl rfl ?_
    refine xi_aload_n (pc' := 681) (x := 1000000) kc_195_680 rfl rfl ?_
    refine xi_iload (pc' := 683) (x := x4) kc_195_681 rfl rfl ?_
    refine xi_iconst (pc' := 684) (v := 1) kc_195_683 rfl rfl ?_
    refine xi_iadd (pc' := 685) (v := v18) kc_195_684 rfl ev18 ?_
    refine xi_ialoadO (pc' := 686) (v := a19) kc_195_685 rfl (by decide) hov0 (xi_in (by omega) (by omega)) ea19 ?_
    refine xi_aload_n (pc' := 687) (x := 1000000) kc_195_686 rfl rfl ?_
    refine xi_iload (pc' := 689) (x := x4) kc_195_687 rfl rfl ?_
    refine xi_iconst (pc' := 690) (v := 2) kc_195_689 rfl rfl ?_
    refine xi_iadd (pc' := 691) (v := v20) kc_195_690 rfl ev20 ?_
    refine xi_ialoadO (pc' := 692) (v := a21) kc_195_691 rfl (by decide) hov0 (xi_in (by omega) (by omega)) ea21 ?_
    refine xi_aload_n (pc' := 693) (x := 1000000) kc_195_692 rfl rfl ?_
    refine xi_iload (pc' := 695) (x := x4) kc_195_693 rfl rfl ?_
    refine xi_iconst (pc' := 696) (v := 3) kc_195_695 rfl rfl ?_
    refine xi_iadd (pc' := 697) (v := v22) kc_195_696 rfl ev22 ?_
    refine xi_ialoadO (pc' := 698) (v := a23) kc_195_697 rfl (by decide) hov0 (xi_in (by omega) (by omega)) ea23 ?_
    refine xi_aload_n (pc' := 699) (x := 1000000) kc_195_698 rfl rfl ?_
    refine xi_iload (pc' := 701) (x := x4) kc_195_699 rfl rfl ?_
    refine xi_iconst (pc' := 702) (v := 4) kc_195_701 rfl rfl ?_
    refine xi_iadd (pc' := 703) (v := v24) kc_195_702 rfl ev24 ?_
    refine xi_ialoadO (pc' := 704) (v := a25) kc_195_703 rfl (by decide) hov0 (xi_in (by omega) (by omega)) ea25 ?_
    have A35 := ((eh33.2.1 115 (by decide)).trans A17)
    refine xi_virtual (mj := 32) (as := [.int a19, .int a21, .int a23, .int a25]) (st1 := [.int (-2)]) (lv0 := [(0, .ref 115), (1, .int a19), (2, .int a21), (3, .int a23), (4, .int a25)]) kc_195_704 rfl rfl rfl rfl rfl A35 (Nat.le_of_ble_eq_true rfl) (hJ _ _ _ _ (by decide)) (xm_le ml_32 rfl) rfl ?_
    refine xi_aload_n (pc' := 1) (x := 115) kc_32_0 rfl rfl ?_
    refine xi_iconst (pc' := 2) (v := 0) kc_32_1 rfl rfl ?_
    refine xi_putfield (pc' := 5) (fs' := [.int 0, .int u5, .ref 116, .ref 117, .ref 118, .ref 119, .ref 120, .ref 121, .ref 122, .ref 123, .ref 124, .ref 125, .ref 126, .ref 127, .ref 128, .ref 129, .int u6, .ref 130, .int u7, .ref 131, .ref 132, .ref 133, .ref 134, .int u1, .ref 135, .ref 136, .ref 137, .ref 138, .ref 139, .ref 140, .ref 141, .ref 142, .int u9, .int u10, .int u11, .ref 143, .ref 144, .ref 145, .ref 146, .ref 147, .ref 148, .int u12, .ref 149, .ref 150, .ref 151, .int u13, .ref 152, .ref 153, .ref 154, .ref 155, .ref 156, .ref 157, .ref 158, .ref 159, .int u14, .ref 160, .int u15, .ref 161, .ref 162, .ref 163, .ref 164, .int u16, .ref 165, .ref 166]) kc_32_2 rfl rfl rfl A35 rfl rfl rfl (Nat.le_of_ble_eq_true rfl) rfl (fun hh37 eh36 => ?_)
    have K38 := xk_pf (k := 0) (v := 0) K34 (xk_wf rfl) xD_115 A35 rfl (by first | omega | decide) (by first | omega | decide) eh36 rfl
    refine xi_iload_n (pc' := 6) (x := a19) kc_32_5 rfl rfl ?_
    refine xi_iconst (pc' := 7) (v := 0) kc_32_6 rfl rfl ?_
    refine xi_iconst (pc' := 8) (v := 3) kc_32_7 rfl rfl ?_
    refine xi_static (mj := 11) (as := [.int a19, .int 0, .int 3]) (st1 := []) (lv0 := [(0, .int a19), (1, .int 0), (2, .int 3)]) kc_32_8 rfl rfl (Nat.le_of_ble_eq_true rfl) rfl rfl (Nat.le_of_ble_eq_true rfl) (hJ _ _ _ _ (by decide)) (xm_le ml_11 rfl) rfl ?_
    refine xi_iload_n (pc' := 1) (x := a19) kc_11_0 rfl rfl ?_
    refine xi_iload_n (pc' := 2) (x := 0) kc_11_1 rfl rfl ?_
    refine xi_cmt (pc' := 14) kc_11_2 rfl (xc_lt_t (X := a19.toInt) (Y := 0) rfl (by decide) (by omega)) ?_
    refine xi_iconst (pc' := 15) (v := 0) kc_11_14 rfl rfl ?_
    refine xi_ireturn kc_11_15 mr_11 rfl ?_
    show xw J ov 99 32 (11, [(0, .ref 115), (1, .int a19), (2, .int a21), (3, .int a23), (4, .int a25)], [.int 0], hh37) _
    refine xi_iff (pc' := 14) kc_32_11 rfl rfl ?_
    refine xi_aload_n (pc' := 15) (x := 115) kc_32_14 rfl rfl ?_
    refine xi_bipush (pc' := 17) (v := (-2)) kc_32_15 rfl rfl ?_
    refine xi_virtual (mj := 12) (as := [.int (-2)]) (st1 := []) (lv0 := [(0, .ref 115), (1, .int (-2))]) kc_32_17 rfl rfl rfl rfl rfl eh36.1 (Nat.le_of_ble_eq_true rfl) (hJ _ _ _ _ (by decide)) (xm_le ml_12 rfl) rfl ?_
    refine xi_aload_n (pc' := 1) (x := 115) kc_12_0 rfl rfl ?_
    refine xi_getfield (pc' := 4) (v := .ref 140) kc_12_1 rfl rfl rfl eh36.1 rfl ?_
    refine xi_iload_n (pc' := 5) (x := (-2)) kc_12_4 rfl rfl ?_
    refine xi_ineg (pc' := 6) (v := 2) kc_12_5 rfl rfl ?_
    refine xi_dup2 (pc' := 7) kc_12_6 rfl ⟨rfl, rfl⟩ ?_
    obtain ⟨y39, A39, hy39, ry39⟩ := xk_arr K.1 xD_140
    obtain ⟨v40, ev40, bv40, dv40⟩ := xj_get hy39 ry39 (i := 2) (by decide) (by decide)
    have A41 := ((eh36.2.1 140 (by decide)).trans ((eh33.2.1 140 (by decide)).trans A39))
    refine xi_iaload (pc' := 8) (v := v40) kc_12_7 rfl A41 (by decide) rfl (xi_in (by decide) (by rw [hy39]; decide)) ev40 ?_
    refine xi_iconst (pc' := 9) (v := 1) kc_12_8 rfl rfl ?_
    obtain ⟨v42, ev42⟩ : ∃ q : Int32, (v40 : Int32) + 1 = q := ⟨_, rfl⟩
    have rv42 := xc_rng v42
    refine xi_iadd (pc' := 10) (v := v42) kc_12_9 rfl ev42 ?_
    obtain ⟨y43, s43, hy43, ry43⟩ := xj_set (v := v42) hy39 ry39 2 (by first | omega | decide) (by first | omega | decide)
    refine xi_iastore (pc' := 11) (x' := y43) kc_12_10 rfl A41 rfl (xi_in (by decide) (by rw [hy39]; decide)) s43 (fun hh43 eh43 => ?_)
    have K44 := xk_pa K38 (xk_wa rfl) xD_140 hy43 ry43 eh43
    refine xi_iload_n (pc' := 12) (x := (-2)) kc_12_11 rfl rfl ?_
    refine xi_ireturn kc_12_12 mr_12 rfl ?_
    show xw J ov 99 32 (20, [(0, .ref 115), (1, .int a19), (2, .int a21), (3, .int a23), (4, .int a25)], [.int (-2)], hh43) _
    refine xi_ireturn kc_32_20 mr_32 rfl ?_
    show xw J ov 100 195 (707, [(4, .int x4), (3, .ref 167), (2, .ref 115), (1, .ref 0), (0, .ref 1000000)], [.int (-2), .int (-2)], hh43) _
    refine xi_cmt (pc' := 1501) kc_195_707 rfl rfl ?_
    obtain ⟨v45, ev45⟩ : ∃ q : Int32, x4 + 6 = q := ⟨_, rfl⟩
    have zv45 : v45.toInt = (x4.toInt + 6) := by rw [← ev45]; exact (xz_add (X := x4.toInt) (Y := 6) rfl (by decide) (by omega) (by omega)).trans (by omega)
    refine xi_iinc (pc' := 1504) (x := x4) (v := v45) (lv' := [(4, .int v45), (3, .ref 167), (2, .ref 115), (1, .ref 0), (0, .ref 1000000)]) kc_195_1501 rfl rfl ev45 rfl (xm_lt ml_195 rfl) ?_
    refine xi_goto (pc' := 23) kc_195_1504 rfl ?_
    have A46 := ((eh43.2.1 1 (by decide)).trans ((eh36.2.1 1 (by decide)).trans ((eh33.2.1 1 (by decide)).trans A3)))
    have A47 := ((eh43.2.1 115 (by decide)).trans eh36.1)
    exact kk v45 hh43 (by omega) K44 ⟨(xGR_kept I.1 (fun c hc => ((eh43.2.1 c (Ne.symm (xk_nc hc rfl))).trans ((eh36.2.1 c (Ne.symm (xk_nc hc rfl))).trans (eh33.2.1 c (Ne.symm (xk_nc hc rfl)))))) ((eh43.2.1 125 (by decide)).trans ((eh36.2.1 125 (by decide)).trans (eh33.2.1 125 (by decide))))), (xGR_kept I.2.1 (fun c hc => ((eh43.2.1 c (Ne.symm (xk_nc hc rfl))).trans ((eh36.2.1 c (Ne.symm (xk_nc hc rfl))).trans (eh33.2.1 c (Ne.symm (xk_nc hc rfl)))))) ((eh43.2.1 127 (by decide)).trans ((eh36.2.1 127 (by decide)).trans (eh33.2.1 127 (by decide))))), ((xl_of A46 rfl).trans (xl_of A47 rfl).symm)⟩
  · refine xi_iff (pc' := 4) kc_117_1 rfl (xc_lt_f (X := a19.toInt) (Y := 0) rfl (by decide) (by omega)) ?_
    refine xi_iload_n (pc' := 5) (x := a19) kc_117_4 rfl rfl ?_
    refine xi_iconst (pc' := 6) (v := 4) kc_117_5 rfl rfl ?_
    by_cases c48 : 4 ≤ a19.toInt
    · refine xi_cmt (pc' := 13) kc_117_6 rfl (xc_ge_t (X := a19.toInt) (Y := 4) rfl (by decide) (by omega)) ?_
      refine xi_iconst (pc' := 14) (v := 0) kc_117_13 rfl rfl ?_
      refine xi_ireturn kc_117_14 mr_117 rfl ?_
      show xw J ov 99 116 (4, [(0, .ref 0), (1, .int a19), (2, .int a21), (3, .int a23), (4, .int a25)], [.int 0], h) _
      refine xi_iff (pc' := 7) kc_116_4 rfl rfl ?_
      refine xi_aload_n (pc' := 8) (x := 0) kc_116_7 rfl rfl ?_
      refine xi_bipush (pc' := 10) (v := (-2)) kc_116_8 rfl rfl ?_
      refine xi_virtual (mj := 90) (as := [.int (-2)]) (st1 := []) (lv0 := [(0, .ref 0), (1, .int (-2))]) kc_116_10 rfl rfl rfl rfl rfl A28 (Nat.le_of_ble_eq_true rfl) (hJ _ _ _ _ (by decide)) (xm_le ml_90 rfl) rfl ?_
      refine xi_iload_n (pc' := 1) (x := (-2)) kc_90_0 rfl rfl ?_
      refine xi_ineg (pc' := 2) (v := 2) kc_90_1 rfl rfl ?_
      refine xi_istore_n (pc' := 3) (lv' := [(2, .int 2), (0, .ref 0), (1, .int (-2))]) kc_90_2 rfl rfl (xm_lt ml_90 rfl) ?_
      refine xi_iload_n (pc' := 4) (x := 2) kc_90_3 rfl rfl ?_
      refine xi_iff (pc' := 7) kc_90_4 rfl rfl ?_
      refine xi_iload_n (pc' := 8) (x := 2) kc_90_7 rfl rfl ?_
      refine xi_aload_n (pc' := 9) (x := 0) kc_90_8 rfl rfl ?_
      refine xi_getfield (pc' := 12) (v := .ref 94) kc_90_9 rfl rfl rfl A28 rfl ?_
      obtain ⟨y49, A49, hy49, ry49⟩ := xk_arr K.1 xD_94
      refine xi_arraylength (pc' := 13) (n := 7) (v := 7) kc_90_12 rfl (xl_lenI (by decide) (by decide) A49 hy49) rfl ?_
      refine xi_cmf (pc' := 16) kc_90_13 rfl rfl ?_
      refine xi_aload_n (pc' := 17) (x := 0) kc_90_16 rfl rfl ?_
      refine xi_getfield (pc' := 20) (v := .ref 94) kc_90_17 rfl rfl rfl A28 rfl ?_
      refine xi_iload_n (pc' := 21) (x := 2) kc_90_20 rfl rfl ?_
      refine xi_dup2 (pc' := 22) kc_90_21 rfl ⟨rfl, rfl⟩ ?_
      obtain ⟨v50, ev50, bv50, dv50⟩ := xj_get hy49 ry49 (i := 2) (by decide) (by decide)
      refine xi_iaload (pc' := 23) (v := v50) kc_90_22 rfl A49 (by decide) rfl (xi_in (by decide) (by rw [hy49]; decide)) ev50 ?_
      refine xi_iconst (pc' := 24) (v := 1) kc_90_23 rfl rfl ?_
      obtain ⟨v51, ev51⟩ : ∃ q : Int32, (v50 : Int32) + 1 = q := ⟨_, rfl⟩
      have rv51 := xc_rng v51
      refine xi_iadd (pc' := 25) (v := v51) kc_90_24 rfl ev51 ?_
      obtain ⟨y52, s52, hy52, ry52⟩ := xj_set (v := v51) hy49 ry49 2 (by first | omega | decide) (by first | omega | decide)
      refine xi_iastore (pc' := 26) (x' := y52) kc_90_25 rfl A49 rfl (xi_in (by decide) (by rw [hy49]; decide)) s52 (fun hh52 eh52 => ?_)
      have K53 := xk_pa K (xk_wa rfl) xD_94 hy52 ry52 eh52
      refine xi_iload_n (pc' := 27) (x := (-2)) kc_90_26 rfl rfl ?_
      refine xi_ireturn kc_90_27 mr_90 rfl ?_
      show xw J ov 99 116 (13, [(0, .ref 0), (1, .int a19), (2, .int a21), (3, .int a23), (4, .int a25)], [.int (-2)], hh52) _
      refine xi_ireturn kc_116_13 mr_116 rfl ?_
      show xw J ov 100 195 (679, [(4, .int x4), (3, .ref 167), (2, .ref 115), (1, .ref 0), (0, .ref 1000000)], [.int (-2)], hh52) _
      refine xi_aload_n (pc' := 680) (x := 115) kc_195_679 rfl rfl ?_
      refine xi_aload_n (pc' := 681) (x := 1000000) kc_195_680 rfl rfl ?_
      refine xi_iload (pc' := 683) (x := x4) kc_195_681 rfl rfl ?_
      refine xi_iconst (pc' := 684) (v := 1) kc_195_683 rfl rfl ?_
      refine xi_iadd (pc' := 685) (v := v18) kc_195_684 rfl ev18 ?_
      refine xi_ialoadO (pc' := 686) (v := a19) kc_195_685 rfl (by decide) hov0 (xi_in (by omega) (by omega)) ea19 ?_
      refine xi_aload_n (pc' := 687) (x := 1000000) kc_195_686 rfl rfl ?_
      refine xi_iload (pc' := 689) (x := x4) kc_195_687 rfl rfl ?_
      refine xi_iconst (pc' := 690) (v := 2) kc_195_689 rfl rfl ?_
      refine xi_iadd (pc' := 691) (v := v20) kc_195_690 rfl ev20 ?_
      refine xi_ialoadO (pc' := 692) (v := a21) kc_195_691 rfl (by decide) hov0 (xi_in (by omega) (by omega)) ea21 ?_
      refine xi_aload_n (pc' := 693) (x := 1000000) kc_195_692 rfl rfl ?_
      refine xi_iload (pc' := 695) (x := x4) kc_195_693 rfl rfl ?_
      refine xi_iconst (pc' := 696) (v := 3) kc_195_695 rfl rfl ?_
      refine xi_iadd (pc' := 697) (v := v22) kc_195_696 rfl ev22 ?_
      refine xi_ialoadO (pc' := 698) (v := a23) kc_195_697 rfl (by decide) hov0 (xi_in (by omega) (by omega)) ea23 ?_
      refine xi_aload_n (pc' := 699) (x := 1000000) kc_195_698 rfl rfl ?_
      refine xi_iload (pc' := 701) (x := x4) kc_195_699 rfl rfl ?_
      refine xi_iconst (pc' := 702) (v := 4) kc_195_701 rfl rfl ?_
      refine xi_iadd (pc' := 703) (v := v24) kc_195_702 rfl ev24 ?_
      refine xi_ialoadO (pc' := 704) (v := a25) kc_195_703 rfl (by decide) hov0 (xi_in (by omega) (by omega)) ea25 ?_
      have A54 := ((eh52.2.1 115 (by decide)).trans A17)
      refine xi_virtual (mj := 32) (as := [.int a19, .int a21, .int a23, .int a25]) (st1 := [.int (-2)]) (lv0 := [(0, .ref 115), (1, .int a19), (2, .int a21), (3, .int a23), (4, .int a25)]) kc_195_704 rfl rfl rfl rfl rfl A54 (Nat.le_of_ble_eq_true rfl) (hJ _ _ _ _ (by decide)) (xm_le ml_32 rfl) rfl ?_
      refine xi_aload_n (pc' := 1) (x := 115) kc_32_0 rfl rfl ?_
      refine xi_iconst (pc' := 2) (v := 0) kc_32_1 rfl rfl ?_
      refine xi_putfield (pc' := 5) (fs' := [.int 0, .int u5, .ref 116, .ref 117, .ref 118, .ref 119, .ref 120, .ref 121, .ref 122, .ref 123, .ref 124, .ref 125, .ref 126, .ref 127, .ref 128, .ref 129, .int u6, .ref 130, .int u7, .ref 131, .ref 132, .ref 133, .ref 134, .int u1, .ref 135, .ref 136, .ref 137, .ref 138, .ref 139, .ref 140, .ref 141, .ref 142, .int u9, .int u10, .int u11, .ref 143, .ref 144, .ref 145, .ref 146, .ref 147, .ref 148, .int u12, .ref 149, .ref 150, .ref 151, .int u13, .ref 152, .ref 153, .ref 154, .ref 155, .ref 156, .ref 157, .ref 158, .ref 159, .int u14, .ref 160, .int u15, .ref 161, .ref 162, .ref 163, .ref 164, .int u16, .ref 165, .ref 166]) kc_32_2 rfl rfl rfl A54 rfl rfl rfl (Nat.le_of_ble_eq_true rfl) rfl (fun hh56 eh55 => ?_)
      have K57 := xk_pf (k := 0) (v := 0) K53 (xk_wf rfl) xD_115 A54 rfl (by first | omega | decide) (by first | omega | decide) eh55 rfl
      refine xi_iload_n (pc' := 6) (x := a19) kc_32_5 rfl rfl ?_
      refine xi_iconst (pc' := 7) (v := 0) kc_32_6 rfl rfl ?_
      refine xi_iconst (pc' := 8) (v := 3) kc_32_7 rfl rfl ?_
      refine xi_static (mj := 11) (as := [.int a19, .int 0, .int 3]) (st1 := []) (lv0 := [(0, .int a19), (1, .int 0), (2, .int 3)]) kc_32_8 rfl rfl (Nat.le_of_ble_eq_true rfl) rfl rfl (Nat.le_of_ble_eq_true rfl) (hJ _ _ _ _ (by decide)) (xm_le ml_11 rfl) rfl ?_
      refine xi_iload_n (pc' := 1) (x := a19) kc_11_0 rfl rfl ?_
      refine xi_iload_n (pc' := 2) (x := 0) kc_11_1 rfl rfl ?_
      refine xi_cmf (pc' := 5) kc_11_2 rfl (xc_lt_f (X := a19.toInt) (Y := 0) rfl (by decide) (by omega)) ?_
      refine xi_iload_n (pc' := 6) (x := a19) kc_11_5 rfl rfl ?_
      refine xi_iload_n (pc' := 7) (x := 3) kc_11_6 rfl rfl ?_
      refine xi_cmt (pc' := 14) kc_11_7 rfl (xc_gt_t (X := a19.toInt) (Y := 3) rfl (by decide) (by omega)) ?_
      refine xi_iconst (pc' := 15) (v := 0) kc_11_14 rfl rfl ?_
      refine xi_ireturn kc_11_15 mr_11 rfl ?_
      show xw J ov 99 32 (11, [(0, .ref 115), (1, .int a19), (2, .int a21), (3, .int a23), (4, .int a25)], [.int 0], hh56) _
      refine xi_iff (pc' := 14) kc_32_11 rfl rfl ?_
      refine xi_aload_n (pc' := 15) (x := 115) kc_32_14 rfl rfl ?_
      refine xi_bipush (pc' := 17) (v := (-2)) kc_32_15 rfl rfl ?_
      refine xi_virtual (mj := 12) (as := [.int (-2)]) (st1 := []) (lv0 := [(0, .ref 115), (1, .int (-2))]) kc_32_17 rfl rfl rfl rfl rfl eh55.1 (Nat.le_of_ble_eq_true rfl) (hJ _ _ _ _ (by decide)) (xm_le ml_12 rfl) rfl ?_
      refine xi_aload_n (pc' := 1) (x := 115) kc_12_0 rfl rfl ?_
      refine xi_getfield (pc' := 4) (v := .ref 140) kc_12_1 rfl rfl rfl eh55.1 rfl ?_
      refine xi_iload_n (pc' := 5) (x := (-2)) kc_12_4 rfl rfl ?_
      refine xi_ineg (pc' := 6) (v := 2) kc_12_5 rfl rfl ?_
      refine xi_dup2 (pc' := 7) kc_12_6 rfl ⟨rfl, rfl⟩ ?_
      obtain ⟨y58, A58, hy58, ry58⟩ := xk_arr K.1 xD_140
      obtain ⟨v59, ev59, bv59, dv59⟩ := xj_get hy58 ry58 (i := 2) (by decide) (by decide)
      have A60 := ((eh55.2.1 140 (by decide)).trans ((eh52.2.1 140 (by decide)).trans A58))
      refine xi_iaload (pc' := 8) (v := v59) kc_12_7 rfl A60 (by decide) rfl (xi_in (by decide) (by rw [hy58]; decide)) ev59 ?_
      refine xi_iconst (pc' := 9) (v := 1) kc_12_8 rfl rfl ?_
      obtain ⟨v61, ev61⟩ : ∃ q : Int32, (v59 : Int32) + 1 = q := ⟨_, rfl⟩
      have rv61 := xc_rng v61
      refine xi_iadd (pc' := 10) (v := v61) kc_12_9 rfl ev61 ?_
      obtain ⟨y62, s62, hy62, ry62⟩ := xj_set (v := v61) hy58 ry58 2 (by first | omega | decide) (by first | omega | decide)
      refine xi_iastore (pc' := 11) (x' := y62) kc_12_10 rfl A60 rfl (xi_in (by decide) (by rw [hy58]; decide)) s62 (fun hh62 eh62 => ?_)
      have K63 := xk_pa K57 (xk_wa rfl) xD_140 hy62 ry62 eh62
      refine xi_iload_n (pc' := 12) (x := (-2)) kc_12_11 rfl rfl ?_
      refine xi_ireturn kc_12_12 mr_12 rfl ?_
      show xw J ov 99 32 (20, [(0, .ref 115), (1, .int a19), (2, .int a21), (3, .int a23), (4, .int a25)], [.int (-2)], hh62) _
      refine xi_ireturn kc_32_20 mr_32 rfl ?_
      show xw J ov 100 195 (707, [(4, .int x4), (3, .ref 167), (2, .ref 115), (1, .ref 0), (0, .ref 1000000)], [.int (-2), .int (-2)], hh62) _
      refine xi_cmt (pc' := 1501) kc_195_707 rfl rfl ?_
      obtain ⟨v64, ev64⟩ : ∃ q : Int32, x4 + 6 = q := ⟨_, rfl⟩
      have zv64 : v64.toInt = (x4.toInt + 6) := by rw [← ev64]; exact (xz_add (X := x4.toInt) (Y := 6) rfl (by decide) (by omega) (by omega)).trans (by omega)
      refine xi_iinc (pc' := 1504) (x := x4) (v := v64) (lv' := [(4, .int v64), (3, .ref 167), (2, .ref 115), (1, .ref 0), (0, .ref 1000000)]) kc_195_1501 rfl rfl ev64 rfl (xm_lt ml_195 rfl) ?_
      refine xi_goto (pc' := 23) kc_195_1504 rfl ?_
      have A65 := ((eh62.2.1 1 (by decide)).trans ((eh55.2.1 1 (by decide)).trans ((eh52.2.1 1 (by decide)).trans A3)))
      have A66 := ((eh62.2.1 115 (by decide)).trans eh55.1)
      exact kk v64 hh62 (by omega) K63 ⟨(xGR_kept I.1 (fun c hc => ((eh62.2.1 c (Ne.symm (xk_nc hc rfl))).trans ((eh55.2.1 c (Ne.symm (xk_nc hc rfl))).trans (eh52.2.1 c (Ne.symm (xk_nc hc rfl)))))) ((eh62.2.1 125 (by decide)).trans ((eh55.2.1 125 (by decide)).trans (eh52.2.1 125 (by decide))))), (xGR_kept I.2.1 (fun c hc => ((eh62.2.1 c (Ne.symm (xk_nc hc rfl))).trans ((eh55.2.1 c (Ne.symm (xk_nc hc rfl))).trans (eh52.2.1 c (Ne.symm (xk_nc hc rfl)))))) ((eh62.2.1 127 (by decide)).trans ((eh55.2.1 127 (by decide)).trans (eh52.2.1 127 (by decide))))), ((xl_of A65 rfl).trans (xl_of A66 rfl).symm)⟩
    · refine xi_cmf (pc' := 9) kc_117_6 rfl (xc_ge_f (X := a19.toInt) (Y := 4) rfl (by decide) (by omega)) ?_
      refine xi_iconst (pc' := 10) (v := 1) kc_117_9 rfl rfl ?_
      refine xi_goto (pc' := 14) kc_117_10 rfl ?_
      refine xi_ireturn kc_117_14 mr_117 rfl ?_
      show xw J ov 99 116 (4, [(0, .ref 0), (1, .int a19), (2, .int a21), (3, .int a23), (4, .int a25)], [.int 1], h) _
      refine xi_ift (pc' := 14) kc_116_4 rfl rfl ?_
      refine xi_aload_n (pc' := 15) (x := 0) kc_116_14 rfl rfl ?_
      refine xi_getfield (pc' := 18) (v := .ref 1) kc_116_15 rfl rfl rfl A28 rfl ?_
      refine xi_iload_n (pc' := 19) (x := a19) kc_116_18 rfl rfl ?_
      refine xi_iload_n (pc' := 20) (x := a21) kc_116_19 rfl rfl ?_
      refine xi_virtual (mj := 118) (as := [.int a19, .int a21]) (st1 := []) (lv0 := [(0, .ref 1), (1, .int a19), (2, .int a21)]) kc_116_20 rfl rfl rfl rfl rfl A3 (Nat.le_of_ble_eq_true rfl) (hJ _ _ _ _ (by decide)) (xm_le ml_118 rfl) rfl ?_
      refine xi_iload_n (pc' := 1) (x := a19) kc_118_0 rfl rfl ?_
      refine xi_iconst (pc' := 2) (v := 3) kc_118_1 rfl rfl ?_
      by_cases c67 : a19.toInt = 3
      · refine xi_cmf (pc' := 5) kc_118_2 rfl (xc_ne_f (X := a19.toInt) (Y := 3) rfl (by decide) (by omega)) ?_
        refine xi_iload_n (pc' := 6) (x := a21) kc_118_5 rfl rfl ?_
        refine xi_static (mj := 89) (as := [.int a21]) (st1 := []) (lv0 := [(0, .int a21)]) kc_118_6 rfl rfl (Nat.le_of_ble_eq_true rfl) rfl rfl (Nat.le_of_ble_eq_true rfl) (hJ _ _ _ _ (by decide)) (xm_le ml_89 rfl) rfl ?_
        refine xi_iload_n (pc' := 1) (x := a21) kc_89_0 rfl rfl ?_
        by_cases c68 : a21.toInt < 0
        · refine xi_ift (pc' := 14) kc_89_1 rfl (xc_lt_t (X := a21.toInt) (Y := 0) rfl (by decide) (by omega)) ?_
          refine xi_iconst (pc' := 15) (v := 0) kc_89_14 rfl rfl ?_
          refine xi_ireturn kc_89_15 mr_89 rfl ?_
          show xw J ov 98 118 (9, [(0, .ref 1), (1, .int a19), (2, .int a21)], [.int 0], h) _
          refine xi_ireturn kc_118_9 mr_118 rfl ?_
          show xw J ov 99 116 (23, [(0, .ref 0), (1, .int a19), (2, .int a21), (3, .int a23), (4, .int a25)], [.int 0], h) _
          refine xi_iff (pc' := 26) kc_116_23 rfl rfl ?_
          refine xi_aload_n (pc' := 27) (x := 0) kc_116_26 rfl rfl ?_
          refine xi_iconst (pc' := 28) (v := (-1)) kc_116_27 rfl rfl ?_
          refine xi_virtual (mj := 90) (as := [.int (-1)]) (st1 := []) (lv0 := [(0, .ref 0), (1, .int (-1))]) kc_116_28 rfl rfl rfl rfl rfl A28 (Nat.le_of_ble_eq_true rfl) (hJ _ _ _ _ (by decide)) (xm_le ml_90 rfl) rfl ?_
          refine xi_iload_n (pc' := 1) (x := (-1)) kc_90_0 rfl rfl ?_
          refine xi_ineg (pc' := 2) (v := 1) kc_90_1 rfl rfl ?_
          refine xi_istore_n (pc' := 3) (lv' := [(2, .int 1), (0, .ref 0), (1, .int (-1))]) kc_90_2 rfl rfl (xm_lt ml_90 rfl) ?_
          refine xi_iload_n (pc' := 4) (x := 1) kc_90_3 rfl rfl ?_
          refine xi_iff (pc' := 7) kc_90_4 rfl rfl ?_
          refine xi_iload_n (pc' := 8) (x := 1) kc_90_7 rfl rfl ?_
          refine xi_aload_n (pc' := 9) (x := 0) kc_90_8 rfl rfl ?_
          refine xi_getfield (pc' := 12) (v := .ref 94) kc_90_9 rfl rfl rfl A28 rfl ?_
          obtain ⟨y69, A69, hy69, ry69⟩ := xk_arr K.1 xD_94
          refine xi_arraylength (pc' := 13) (n := 7) (v := 7) kc_90_12 rfl (xl_lenI (by decide) (by decide) A69 hy69) rfl ?_
          refine xi_cmf (pc' := 16) kc_90_13 rfl rfl ?_
          refine xi_aload_n (pc' := 17) (x := 0) kc_90_16 rfl rfl ?_
          refine xi_getfield (pc' := 20) (v := .ref 94) kc_90_17 rfl rfl rfl A28 rfl ?_
          refine xi_iload_n (pc' := 21) (x := 1) kc_90_20 rfl rfl ?_
          refine xi_dup2 (pc' := 22) kc_90_21 rfl ⟨rfl, rfl⟩ ?_
          obtain ⟨v70, ev70, bv70, dv70⟩ := xj_get hy69 ry69 (i := 1) (by decide) (by decide)
          refine xi_iaload (pc' := 23) (v := v70) kc_90_22 rfl A69 (by decide) rfl (xi_in (by decide) (by rw [hy69]; decide)) ev70 ?_
          refine xi_iconst (pc' := 24) (v := 1) kc_90_23 rfl rfl ?_
          obtain ⟨v71, ev71⟩ : ∃ q : Int32, (v70 : Int32) + 1 = q := ⟨_, rfl⟩
          have rv71 := xc_rng v71
          refine xi_iadd (pc' := 25) (v := v71) kc_90_24 rfl ev71 ?_
          obtain ⟨y72, s72, hy72, ry72⟩ := xj_set (v := v71) hy69 ry69 1 (by first | omega | decide) (by first | omega | decide)
          refine xi_iastore (pc' := 26) (x' := y72) kc_90_25 rfl A69 rfl (xi_in (by decide) (by rw [hy69]; decide)) s72 (fun hh72 eh72 => ?_)
          have K73 := xk_pa K (xk_wa rfl) xD_94 hy72 ry72 eh72
          refine xi_iload_n (pc' := 27) (x := (-1)) kc_90_26 rfl rfl ?_
          refine xi_ireturn kc_90_27 mr_90 rfl ?_
          show xw J ov 99 116 (31, [(0, .ref 0), (1, .int a19), (2, .int a21), (3, .int a23), (4, .int a25)], [.int (-1)], hh72) _
          refine xi_ireturn kc_116_31 mr_116 rfl ?_
          show xw J ov 100 195 (679, [(4, .int x4), (3, .ref 167), (2, .ref 115), (1, .ref 0), (0, .ref 1000000)], [.int (-1)], hh72) _
          refine xi_aload_n (pc' := 680) (x := 115) kc_195_679 rfl rfl ?_
          refine xi_aload_n (pc' := 681) (x := 1000000) kc_195_680 rfl rfl ?_
          refine xi_iload (pc' := 683) (x := x4) kc_195_681 rfl rfl ?_
          refine xi_iconst (pc' := 684) (v := 1) kc_195_683 rfl rfl ?_
          refine xi_iadd (pc' := 685) (v := v18) kc_195_684 rfl ev18 ?_
          refine xi_ialoadO (pc' := 686) (v := a19) kc_195_685 rfl (by decide) hov0 (xi_in (by omega) (by omega)) ea19 ?_
          refine xi_aload_n (pc' := 687) (x := 1000000) kc_195_686 rfl rfl ?_
          refine xi_iload (pc' := 689) (x := x4) kc_195_687 rfl rfl ?_
          refine xi_iconst (pc' := 690) (v := 2) kc_195_689 rfl rfl ?_
          refine xi_iadd (pc' := 691) (v := v20) kc_195_690 rfl ev20 ?_
          refine xi_ialoadO (pc' := 692) (v := a21) kc_195_691 rfl (by decide) hov0 (xi_in (by omega) (by omega)) ea21 ?_
          refine xi_aload_n (pc' := 693) (x := 1000000) kc_195_692 rfl rfl ?_
          refine xi_iload (pc' := 695) (x := x4) kc_195_693 rfl rfl ?_
          refine xi_iconst (pc' := 696) (v := 3) kc_195_695 rfl rfl ?_
          refine xi_iadd (pc' := 697) (v := v22) kc_195_696 rfl ev22 ?_
          refine xi_ialoadO (pc' := 698) (v := a23) kc_195_697 rfl (by decide) hov0 (xi_in (by omega) (by omega)) ea23 ?_
          refine xi_aload_n (pc' := 699) (x := 1000000) kc_195_698 rfl rfl ?_
          refine xi_iload (pc' := 701) (x := x4) kc_195_699 rfl rfl ?_
          refine xi_iconst (pc' := 702) (v := 4) kc_195_701 rfl rfl ?_
          refine xi_iadd (pc' := 703) (v := v24) kc_195_702 rfl ev24 ?_
          refine xi_ialoadO (pc' := 704) (v := a25) kc_195_703 rfl (by decide) hov0 (xi_in (by omega) (by omega)) ea25 ?_
          have A74 := ((eh72.2.1 115 (by decide)).trans A17)
          refine xi_virtual (mj := 32) (as := [.int a19, .int a21, .int a23, .int a25]) (st1 := [.int (-1)]) (lv0 := [(0, .ref 115), (1, .int a19), (2, .int a21), (3, .int a23), (4, .int a25)]) kc_195_704 rfl rfl rfl rfl rfl A74 (Nat.le_of_ble_eq_true rfl) (hJ _ _ _ _ (by decide)) (xm_le ml_32 rfl) rfl ?_
          refine xi_aload_n (pc' := 1) (x := 115) kc_32_0 rfl rfl ?_
          refine xi_iconst (pc' := 2) (v := 0) kc_32_1 rfl rfl ?_
          refine xi_putfield (pc' := 5) (fs' := [.int 0, .int u5, .ref 116, .ref 117, .ref 118, .ref 119, .ref 120, .ref 121, .ref 122, .ref 123, .ref 124, .ref 125, .ref 126, .ref 127, .ref 128, .ref 129, .int u6, .ref 130, .int u7, .ref 131, .ref 132, .ref 133, .ref 134, .int u1, .ref 135, .ref 136, .ref 137, .ref 138, .ref 139, .ref 140, .ref 141, .ref 142, .int u9, .int u10, .int u11, .ref 143, .ref 144, .ref 145, .ref 146, .ref 147, .ref 148, .int u12, .ref 149, .ref 150, .ref 151, .int u13, .ref 152, .ref 153, .ref 154, .ref 155, .ref 156, .ref 157, .ref 158, .ref 159, .int u14, .ref 160, .int u15, .ref 161, .ref 162, .ref 163, .ref 164, .int u16, .ref 165, .ref 166]) kc_32_2 rfl rfl rfl A74 rfl rfl rfl (Nat.le_of_ble_eq_true rfl) rfl (fun hh76 eh75 => ?_)
          have K77 := xk_pf (k := 0) (v := 0) K73 (xk_wf rfl) xD_115 A74 rfl (by first | omega | decide) (by first | omega | decide) eh75 rfl
          refine xi_iload_n (pc' := 6) (x := a19) kc_32_5 rfl rfl ?_
          refine xi_iconst (pc' := 7) (v := 0) kc_32_6 rfl rfl ?_
          refine xi_iconst (pc' := 8) (v := 3) kc_32_7 rfl rfl ?_
          refine xi_static (mj := 11) (as := [.int a19, .int 0, .int 3]) (st1 := []) (lv0 := [(0, .int a19), (1, .int 0), (2, .int 3)]) kc_32_8 rfl rfl (Nat.le_of_ble_eq_true rfl) rfl rfl (Nat.le_of_ble_eq_true rfl) (hJ _ _ _ _ (by decide)) (xm_le ml_11 rfl) rfl ?_
          refine xi_iload_n (pc' := 1) (x := a19) kc_11_0 rfl rfl ?_
          refine xi_iload_n (pc' := 2) (x := 0) kc_11_1 rfl rfl ?_
          refine xi_cmf (pc' := 5) kc_11_2 rfl (xc_lt_f (X := a19.toInt) (Y := 0) rfl (by decide) (by omega)) ?_
          refine xi_iload_n (pc' := 6) (x := a19) kc_11_5 rfl rfl ?_
          refine xi_iload_n (pc' := 7) (x := 3) kc_11_6 rfl rfl ?_
          refine xi_cmf (pc' := 10) kc_11_7 rfl (xc_gt_f (X := a19.toInt) (Y := 3) rfl (by decide) (by omega)) ?_
          refine xi_iconst (pc' := 11) (v := 1) kc_11_10 rfl rfl ?_
          refine xi_goto (pc' := 15) kc_11_11 rfl ?_
          refine xi_ireturn kc_11_15 mr_11 rfl ?_
          show xw J ov 99 32 (11, [(0, .ref 115), (1, .int a19), (2, .int a21), (3, .int a23), (4, .int a25)], [.int 1], hh76) _
          refine xi_ift (pc' := 21) kc_32_11 rfl rfl ?_
          refine xi_iload_n (pc' := 22) (x := a19) kc_32_21 rfl rfl ?_
          refine xi_iconst (pc' := 23) (v := 3) kc_32_22 rfl rfl ?_
          refine xi_cmf (pc' := 26) kc_32_23 rfl (xc_ne_f (X := a19.toInt) (Y := 3) rfl (by decide) (by omega)) ?_
          refine xi_iload_n (pc' := 27) (x := a21) kc_32_26 rfl rfl ?_
          refine xi_static (mj := 10) (as := [.int a21]) (st1 := []) (lv0 := [(0, .int a21)]) kc_32_27 rfl rfl (Nat.le_of_ble_eq_true rfl) rfl rfl (Nat.le_of_ble_eq_true rfl) (hJ _ _ _ _ (by decide)) (xm_le ml_10 rfl) rfl ?_
          refine xi_iload_n (pc' := 1) (x := a21) kc_10_0 rfl rfl ?_
          refine xi_iconst (pc' := 2) (v := 0) kc_10_1 rfl rfl ?_
          refine xi_iconst (pc' := 3) (v := 5) kc_10_2 rfl rfl ?_
          refine xi_static (mj := 11) (as := [.int a21, .int 0, .int 5]) (st1 := []) (lv0 := [(0, .int a21), (1, .int 0), (2, .int 5)]) kc_10_3 rfl rfl (Nat.le_of_ble_eq_true rfl) rfl rfl (Nat.le_of_ble_eq_true rfl) (hJ _ _ _ _ (by decide)) (xm_le ml_11 rfl) rfl ?_
          refine xi_iload_n (pc' := 1) (x := a21) kc_11_0 rfl rfl ?_
          refine xi_iload_n (pc' := 2) (x := 0) kc_11_1 rfl rfl ?_
          refine xi_cmt (pc' := 14) kc_11_2 rfl (xc_lt_t (X := a21.toInt) (Y := 0) rfl (by decide) (by omega)) ?_
          refine xi_iconst (pc' := 15) (v := 0) kc_11_14 rfl rfl ?_
          refine xi_ireturn kc_11_15 mr_11 rfl ?_
          show xw J ov 98 10 (6, [(0, .int a21)], [.int 0], hh76) _
          refine xi_ireturn kc_10_6 mr_10 rfl ?_
          show xw J ov 99 32 (30, [(0, .ref 115), (1, .int a19), (2, .int a21), (3, .int a23), (4, .int a25)], [.int 0], hh76) _
          refine xi_iff (pc' := 33) kc_32_30 rfl rfl ?_
          refine xi_goto (pc' := 57) kc_32_33 rfl ?_
          refine xi_aload_n (pc' := 58) (x := 115) kc_32_57 rfl rfl ?_
          refine xi_iconst (pc' := 59) (v := (-1)) kc_32_58 rfl rfl ?_
          refine xi_virtual (mj := 12) (as := [.int (-1)]) (st1 := []) (lv0 := [(0, .ref 115), (1, .int (-1))]) kc_32_59 rfl rfl rfl rfl rfl eh75.1 (Nat.le_of_ble_eq_true rfl) (hJ _ _ _ _ (by decide)) (xm_le ml_12 rfl) rfl ?_
          refine xi_aload_n (pc' := 1) (x := 115) kc_12_0 rfl rfl ?_
          refine xi_getfield (pc' := 4) (v := .ref 140) kc_12_1 rfl rfl rfl eh75.1 rfl ?_
          refine xi_iload_n (pc' := 5) (x := (-1)) kc_12_4 rfl rfl ?_
          refine xi_ineg (pc' := 6) (v := 1) kc_12_5 rfl rfl ?_
          refine xi_dup2 (pc' := 7) kc_12_6 rfl ⟨rfl, rfl⟩ ?_
          obtain ⟨y78, A78, hy78, ry78⟩ := xk_arr K.1 xD_140
          obtain ⟨v79, ev79, bv79, dv79⟩ := xj_get hy78 ry78 (i := 1) (by decide) (by decide)
          have A80 := ((eh75.2.1 140 (by decide)).trans ((eh72.2.1 140 (by decide)).trans A78))
          refine xi_iaload (pc' := 8) (v := v79) kc_12_7 rfl A80 (by decide) rfl (xi_in (by decide) (by rw [hy78]; decide)) ev79 ?_
          refine xi_iconst (pc' := 9) (v := 1) kc_12_8 rfl rfl ?_
          obtain ⟨v81, ev81⟩ : ∃ q : Int32, (v79 : Int32) + 1 = q := ⟨_, rfl⟩
          have rv81 := xc_rng v81
          refine xi_iadd (pc' := 10) (v := v81) kc_12_9 rfl ev81 ?_
          obtain ⟨y82, s82, hy82, ry82⟩ := xj_set (v := v81) hy78 ry78 1 (by first | omega | decide) (by first | omega | decide)
          refine xi_iastore (pc' := 11) (x' := y82) kc_12_10 rfl A80 rfl (xi_in (by decide) (by rw [hy78]; decide)) s82 (fun hh82 eh82 => ?_)
          have K83 := xk_pa K77 (xk_wa rfl) xD_140 hy82 ry82 eh82
          refine xi_iload_n (pc' := 12) (x := (-1)) kc_12_11 rfl rfl ?_
          refine xi_ireturn kc_12_12 mr_12 rfl ?_
          show xw J ov 99 32 (62, [(0, .ref 115), (1, .int a19), (2, .int a21), (3, .int a23), (4, .int a25)], [.int (-1)], hh82) _
          refine xi_ireturn kc_32_62 mr_32 rfl ?_
          show xw J ov 100 195 (707, [(4, .int x4), (3, .ref 167), (2, .ref 115), (1, .ref 0), (0, .ref 1000000)], [.int (-1), .int (-1)], hh82) _
          refine xi_cmt (pc' := 1501) kc_195_707 rfl rfl ?_
          obtain ⟨v84, ev84⟩ : ∃ q : Int32, x4 + 6 = q := ⟨_, rfl⟩
          have zv84 : v84.toInt = (x4.toInt + 6) := by rw [← ev84]; exact (xz_add (X := x4.toInt) (Y := 6) rfl (by decide) (by omega) (by omega)).trans (by omega)
          refine xi_iinc (pc' := 1504) (x := x4) (v := v84) (lv' := [(4, .int v84), (3, .ref 167), (2, .ref 115), (1, .ref 0), (0, .ref 1000000)]) kc_195_1501 rfl rfl ev84 rfl (xm_lt ml_195 rfl) ?_
          refine xi_goto (pc' := 23) kc_195_1504 rfl ?_
          have A85 := ((eh82.2.1 1 (by decide)).trans ((eh75.2.1 1 (by decide)).trans ((eh72.2.1 1 (by decide)).trans A3)))
          have A86 := ((eh82.2.1 115 (by decide)).trans eh75.1)
          exact kk v84 hh82 (by omega) K83 ⟨(xGR_kept I.1 (fun c hc => ((eh82.2.1 c (Ne.symm (xk_nc hc rfl))).trans ((eh75.2.1 c (Ne.symm (xk_nc hc rfl))).trans (eh72.2.1 c (Ne.symm (xk_nc hc rfl)))))) ((eh82.2.1 125 (by decide)).trans ((eh75.2.1 125 (by decide)).trans (eh72.2.1 125 (by decide))))), (xGR_kept I.2.1 (fun c hc => ((eh82.2.1 c (Ne.symm (xk_nc hc rfl))).trans ((eh75.2.1 c (Ne.symm (xk_nc hc rfl))).trans (eh72.2.1 c (Ne.symm (xk_nc hc rfl)))))) ((eh82.2.1 127 (by decide)).trans ((eh75.2.1 127 (by decide)).trans (eh72.2.1 127 (by decide))))), ((xl_of A85 rfl).trans (xl_of A86 rfl).symm)⟩
        · refine xi_iff (pc' := 4) kc_89_1 rfl (xc_lt_f (X := a21.toInt) (Y := 0) rfl (by decide) (by omega)) ?_
          refine xi_iload_n (pc' := 5) (x := a21) kc_89_4 rfl rfl ?_
          refine xi_bipush (pc' := 7) (v := 6) kc_89_5 rfl rfl ?_
          by_cases c87 : 6 ≤ a21.toInt
          · refine xi_cmt (pc' := 14) kc_89_7 rfl (xc_ge_t (X := a21.toInt) (Y := 6) rfl (by decide) (by omega)) ?_
            refine xi_iconst (pc' := 15) (v := 0) kc_89_14 rfl rfl ?_
            refine xi_ireturn kc_89_15 mr_89 rfl ?_
            show xw J ov 98 118 (9, [(0, .ref 1), (1, .int a19), (2, .int a21)], [.int 0], h) _
            refine xi_ireturn kc_118_9 mr_118 rfl ?_
            show xw J ov 99 116 (23, [(0, .ref 0), (1, .int a19), (2, .int a21), (3, .int a23), (4, .int a25)], [.int 0], h) _
            refine xi_iff (pc' := 26) kc_116_23 rfl rfl ?_
            refine xi_aload_n (pc' := 27) (x := 0) kc_116_26 rfl rfl ?_
            refine xi_iconst (pc' := 28) (v := (-1)) kc_116_27 rfl rfl ?_
            refine xi_virtual (mj := 90) (as := [.int (-1)]) (st1 := []) (lv0 := [(0, .ref 0), (1, .int (-1))]) kc_116_28 rfl rfl rfl rfl rfl A28 (Nat.le_of_ble_eq_true rfl) (hJ _ _ _ _ (by decide)) (xm_le ml_90 rfl) rfl ?_
            refine xi_iload_n (pc' := 1) (x := (-1)) kc_90_0 rfl rfl ?_
            refine xi_ineg (pc' := 2) (v := 1) kc_90_1 rfl rfl ?_
            refine xi_istore_n (pc' := 3) (lv' := [(2, .int 1), (0, .ref 0), (1, .int (-1))]) kc_90_2 rfl rfl (xm_lt ml_90 rfl) ?_
            refine xi_iload_n (pc' := 4) (x := 1) kc_90_3 rfl rfl ?_
            refine xi_iff (pc' := 7) kc_90_4 rfl rfl ?_
            refine xi_iload_n (pc' := 8) (x := 1) kc_90_7 rfl rfl ?_
            refine xi_aload_n (pc' := 9) (x := 0) kc_90_8 rfl rfl ?_
            refine xi_getfield (pc' := 12) (v := .ref 94) kc_90_9 rfl rfl rfl A28 rfl ?_
            obtain ⟨y88, A88, hy88, ry88⟩ := xk_arr K.1 xD_94
            refine xi_arraylength (pc' := 13) (n := 7) (v := 7) kc_90_12 rfl (xl_lenI (by decide) (by decide) A88 hy88) rfl ?_
            refine xi_cmf (pc' := 16) kc_90_13 rfl rfl ?_
            refine xi_aload_n (pc' := 17) (x := 0) kc_90_16 rfl rfl ?_
            refine xi_getfield (pc' := 20) (v := .ref 94) kc_90_17 rfl rfl rfl A28 rfl ?_
            refine xi_iload_n (pc' := 21) (x := 1) kc_90_20 rfl rfl ?_
            refine xi_dup2 (pc' := 22) kc_90_21 rfl ⟨rfl, rfl⟩ ?_
            obtain ⟨v89, ev89, bv89, dv89⟩ := xj_get hy88 ry88 (i := 1) (by decide) (by decide)
            refine xi_iaload (pc' := 23) (v := v89) kc_90_22 rfl A88 (by decide) rfl (xi_in (by decide) (by rw [hy88]; decide)) ev89 ?_
            refine xi_iconst (pc' := 24) (v := 1) kc_90_23 rfl rfl ?_
            obtain ⟨v90, ev90⟩ : ∃ q : Int32, (v89 : Int32) + 1 = q := ⟨_, rfl⟩
            have rv90 := xc_rng v90
            refine xi_iadd (pc' := 25) (v := v90) kc_90_24 rfl ev90 ?_
            obtain ⟨y91, s91, hy91, ry91⟩ := xj_set (v := v90) hy88 ry88 1 (by first | omega | decide) (by first | omega | decide)
            refine xi_iastore (pc' := 26) (x' := y91) kc_90_25 rfl A88 rfl (xi_in (by decide) (by rw [hy88]; decide)) s91 (fun hh91 eh91 => ?_)
            have K92 := xk_pa K (xk_wa rfl) xD_94 hy91 ry91 eh91
            refine xi_iload_n (pc' := 27) (x := (-1)) kc_90_26 rfl rfl ?_
            refine xi_ireturn kc_90_27 mr_90 rfl ?_
            show xw J ov 99 116 (31, [(0, .ref 0), (1, .int a19), (2, .int a21), (3, .int a23), (4, .int a25)], [.int (-1)], hh91) _
            refine xi_ireturn kc_116_31 mr_116 rfl ?_
            show xw J ov 100 195 (679, [(4, .int x4), (3, .ref 167), (2, .ref 115), (1, .ref 0), (0, .ref 1000000)], [.int (-1)], hh91) _
            refine xi_aload_n (pc' := 680) (x := 115) kc_195_679 rfl rfl ?_
            refine xi_aload_n (pc' := 681) (x := 1000000) kc_195_680 rfl rfl ?_
            refine xi_iload (pc' := 683) (x := x4) kc_195_681 rfl rfl ?_
            refine xi_iconst (pc' := 684) (v := 1) kc_195_683 rfl rfl ?_
            refine xi_iadd (pc' := 685) (v := v18) kc_195_684 rfl ev18 ?_
            refine xi_ialoadO (pc' := 686) (v := a19) kc_195_685 rfl (by decide) hov0 (xi_in (by omega) (by omega)) ea19 ?_
            refine xi_aload_n (pc' := 687) (x := 1000000) kc_195_686 rfl rfl ?_
            refine xi_iload (pc' := 689) (x := x4) kc_195_687 rfl rfl ?_
            refine xi_iconst (pc' := 690) (v := 2) kc_195_689 rfl rfl ?_
            refine xi_iadd (pc' := 691) (v := v20) kc_195_690 rfl ev20 ?_
            refine xi_ialoadO (pc' := 692) (v := a21) kc_195_691 rfl (by decide) hov0 (xi_in (by omega) (by omega)) ea21 ?_
            refine xi_aload_n (pc' := 693) (x := 1000000) kc_195_692 rfl rfl ?_
            refine xi_iload (pc' := 695) (x := x4) kc_195_693 rfl rfl ?_
            refine xi_iconst (pc' := 696) (v := 3) kc_195_695 rfl rfl ?_
            refine xi_iadd (pc' := 697) (v := v22) kc_195_696 rfl ev22 ?_
            refine xi_ialoadO (pc' := 698) (v := a23) kc_195_697 rfl (by decide) hov0 (xi_in (by omega) (by omega)) ea23 ?_
            refine xi_aload_n (pc' := 699) (x := 1000000) kc_195_698 rfl rfl ?_
            refine xi_iload (pc' := 701) (x := x4) kc_195_699 rfl rfl ?_
            refine xi_iconst (pc' := 702) (v := 4) kc_195_701 rfl rfl ?_
            refine xi_iadd (pc' := 703) (v := v24) kc_195_702 rfl ev24 ?_
            refine xi_ialoadO (pc' := 704) (v := a25) kc_195_703 rfl (by decide) hov0 (xi_in (by omega) (by omega)) ea25 ?_
            have A93 := ((eh91.2.1 115 (by decide)).trans A17)
            refine xi_virtual (mj := 32) (as := [.int a19, .int a21, .int a23, .int a25]) (st1 := [.int (-1)]) (lv0 := [(0, .ref 115), (1, .int a19), (2, .int a21), (3, .int a23), (4, .int a25)]) kc_195_704 rfl rfl rfl rfl rfl A93 (Nat.le_of_ble_eq_true rfl) (hJ _ _ _ _ (by decide)) (xm_le ml_32 rfl) rfl ?_
            refine xi_aload_n (pc' := 1) (x := 115) kc_32_0 rfl rfl ?_
            refine xi_iconst (pc' := 2) (v := 0) kc_32_1 rfl rfl ?_
            refine xi_putfield (pc' := 5) (fs' := [.int 0, .int u5, .ref 116, .ref 117, .ref 118, .ref 119, .ref 120, .ref 121, .ref 122, .ref 123, .ref 124, .ref 125, .ref 126, .ref 127, .ref 128, .ref 129, .int u6, .ref 130, .int u7, .ref 131, .ref 132, .ref 133, .ref 134, .int u1, .ref 135, .ref 136, .ref 137, .ref 138, .ref 139, .ref 140, .ref 141, .ref 142, .int u9, .int u10, .int u11, .ref 143, .ref 144, .ref 145, .ref 146, .ref 147, .ref 148, .int u12, .ref 149, .ref 150, .ref 151, .int u13, .ref 152, .ref 153, .ref 154, .ref 155, .ref 156, .ref 157, .ref 158, .ref 159, .int u14, .ref 160, .int u15, .ref 161, .ref 162, .ref 163, .ref 164, .int u16, .ref 165, .ref 166]) kc_32_2 rfl rfl rfl A93 rfl rfl rfl (Nat.le_of_ble_eq_true rfl) rfl (fun hh95 eh94 => ?_)
            have K96 := xk_pf (k := 0) (v := 0) K92 (xk_wf rfl) xD_115 A93 rfl (by first | omega | decide) (by first | omega | decide) eh94 rfl
            refine xi_iload_n (pc' := 6) (x := a19) kc_32_5 rfl rfl ?_
            refine xi_iconst (pc' := 7) (v := 0) kc_32_6 rfl rfl ?_
            refine xi_iconst (pc' := 8) (v := 3) kc_32_7 rfl rfl ?_
            refine xi_static (mj := 11) (as := [.int a19, .int 0, .int 3]) (st1 := []) (lv0 := [(0, .int a19), (1, .int 0), (2, .int 3)]) kc_32_8 rfl rfl (Nat.le_of_ble_eq_true rfl) rfl rfl (Nat.le_of_ble_eq_true rfl) (hJ _ _ _ _ (by decide)) (xm_le ml_11 rfl) rfl ?_
            refine xi_iload_n (pc' := 1) (x := a19) kc_11_0 rfl rfl ?_
            refine xi_iload_n (pc' := 2) (x := 0) kc_11_1 rfl rfl ?_
            refine xi_cmf (pc' := 5) kc_11_2 rfl (xc_lt_f (X := a19.toInt) (Y := 0) rfl (by decide) (by omega)) ?_
            refine xi_iload_n (pc' := 6) (x := a19) kc_11_5 rfl rfl ?_
            refine xi_iload_n (pc' := 7) (x := 3) kc_11_6 rfl rfl ?_
            refine xi_cmf (pc' := 10) kc_11_7 rfl (xc_gt_f (X := a19.toInt) (Y := 3) rfl (by decide) (by omega)) ?_
            refine xi_iconst (pc' := 11) (v := 1) kc_11_10 rfl rfl ?_
            refine xi_goto (pc' := 15) kc_11_11 rfl ?_
            refine xi_ireturn kc_11_15 mr_11 rfl ?_
            show xw J ov 99 32 (11, [(0, .ref 115), (1, .int a19), (2, .int a21), (3, .int a23), (4, .int a25)], [.int 1], hh95) _
            refine xi_ift (pc' := 21) kc_32_11 rfl rfl ?_
            refine xi_iload_n (pc' := 22) (x := a19) kc_32_21 rfl rfl ?_
            refine xi_iconst (pc' := 23) (v := 3) kc_32_22 rfl rfl ?_
            refine xi_cmf (pc' := 26) kc_32_23 rfl (xc_ne_f (X := a19.toInt) (Y := 3) rfl (by decide) (by omega)) ?_
            refine xi_iload_n (pc' := 27) (x := a21) kc_32_26 rfl rfl ?_
            refine xi_static (mj := 10) (as := [.int a21]) (st1 := []) (lv0 := [(0, .int a21)]) kc_32_27 rfl rfl (Nat.le_of_ble_eq_true rfl) rfl rfl (Nat.le_of_ble_eq_true rfl) (hJ _ _ _ _ (by decide)) (xm_le ml_10 rfl) rfl ?_
            refine xi_iload_n (pc' := 1) (x := a21) kc_10_0 rfl rfl ?_
            refine xi_iconst (pc' := 2) (v := 0) kc_10_1 rfl rfl ?_
            refine xi_iconst (pc' := 3) (v := 5) kc_10_2 rfl rfl ?_
            refine xi_static (mj := 11) (as := [.int a21, .int 0, .int 5]) (st1 := []) (lv0 := [(0, .int a21), (1, .int 0), (2, .int 5)]) kc_10_3 rfl rfl (Nat.le_of_ble_eq_true rfl) rfl rfl (Nat.le_of_ble_eq_true rfl) (hJ _ _ _ _ (by decide)) (xm_le ml_11 rfl) rfl ?_
            refine xi_iload_n (pc' := 1) (x := a21) kc_11_0 rfl rfl ?_
            refine xi_iload_n (pc' := 2) (x := 0) kc_11_1 rfl rfl ?_
            refine xi_cmf (pc' := 5) kc_11_2 rfl (xc_lt_f (X := a21.toInt) (Y := 0) rfl (by decide) (by omega)) ?_
            refine xi_iload_n (pc' := 6) (x := a21) kc_11_5 rfl rfl ?_
            refine xi_iload_n (pc' := 7) (x := 5) kc_11_6 rfl rfl ?_
            refine xi_cmt (pc' := 14) kc_11_7 rfl (xc_gt_t (X := a21.toInt) (Y := 5) rfl (by decide) (by omega)) ?_
            refine xi_iconst (pc' := 15) (v := 0) kc_11_14 rfl rfl ?_
            refine xi_ireturn kc_11_15 mr_11 rfl ?_
            show xw J ov 98 10 (6, [(0, .int a21)], [.int 0], hh95) _
            refine xi_ireturn kc_10_6 mr_10 rfl ?_
            show xw J ov 99 32 (30, [(0, .ref 115), (1, .int a19), (2, .int a21), (3, .int a23), (4, .int a25)], [.int 0], hh95) _
            refine xi_iff (pc' := 33) kc_32_30 rfl rfl ?_
            refine xi_goto (pc' := 57) kc_32_33 rfl ?_
            refine xi_aload_n (pc' := 58) (x := 115) kc_32_57 rfl rfl ?_
            refine xi_iconst (pc' := 59) (v := (-1)) kc_32_58 rfl rfl ?_
            refine xi_virtual (mj := 12) (as := [.int (-1)]) (st1 := []) (lv0 := [(0, .ref 115), (1, .int (-1))]) kc_32_59 rfl rfl rfl rfl rfl eh94.1 (Nat.le_of_ble_eq_true rfl) (hJ _ _ _ _ (by decide)) (xm_le ml_12 rfl) rfl ?_
            refine xi_aload_n (pc' := 1) (x := 115) kc_12_0 rfl rfl ?_
            refine xi_getfield (pc' := 4) (v := .ref 140) kc_12_1 rfl rfl rfl eh94.1 rfl ?_
            refine xi_iload_n (pc' := 5) (x := (-1)) kc_12_4 rfl rfl ?_
            refine xi_ineg (pc' := 6) (v := 1) kc_12_5 rfl rfl ?_
            refine xi_dup2 (pc' := 7) kc_12_6 rfl ⟨rfl, rfl⟩ ?_
            obtain ⟨y97, A97, hy97, ry97⟩ := xk_arr K.1 xD_140
            obtain ⟨v98, ev98, bv98, dv98⟩ := xj_get hy97 ry97 (i := 1) (by decide) (by decide)
            have A99 := ((eh94.2.1 140 (by decide)).trans ((eh91.2.1 140 (by decide)).trans A97))
            refine xi_iaload (pc' := 8) (v := v98) kc_12_7 rfl A99 (by decide) rfl (xi_in (by decide) (by rw [hy97]; decide)) ev98 ?_
            refine xi_iconst (pc' := 9) (v := 1) kc_12_8 rfl rfl ?_
            obtain ⟨v100, ev100⟩ : ∃ q : Int32, (v98 : Int32) + 1 = q := ⟨_, rfl⟩
            have rv100 := xc_rng v100
            refine xi_iadd (pc' := 10) (v := v100) kc_12_9 rfl ev100 ?_
            obtain ⟨y101, s101, hy101, ry101⟩ := xj_set (v := v100) hy97 ry97 1 (by first | omega | decide) (by first | omega | decide)
            refine xi_iastore (pc' := 11) (x' := y101) kc_12_10 rfl A99 rfl (xi_in (by decide) (by rw [hy97]; decide)) s101 (fun hh101 eh101 => ?_)
            have K102 := xk_pa K96 (xk_wa rfl) xD_140 hy101 ry101 eh101
            refine xi_iload_n (pc' := 12) (x := (-1)) kc_12_11 rfl rfl ?_
            refine xi_ireturn kc_12_12 mr_12 rfl ?_
            show xw J ov 99 32 (62, [(0, .ref 115), (1, .int a19), (2, .int a21), (3, .int a23), (4, .int a25)], [.int (-1)], hh101) _
            refine xi_ireturn kc_32_62 mr_32 rfl ?_
            show xw J ov 100 195 (707, [(4, .int x4), (3, .ref 167), (2, .ref 115), (1, .ref 0), (0, .ref 1000000)], [.int (-1), .int (-1)], hh101) _
            refine xi_cmt (pc' := 1501) kc_195_707 rfl rfl ?_
            obtain ⟨v103, ev103⟩ : ∃ q : Int32, x4 + 6 = q := ⟨_, rfl⟩
            have zv103 : v103.toInt = (x4.toInt + 6) := by rw [← ev103]; exact (xz_add (X := x4.toInt) (Y := 6) rfl (by decide) (by omega) (by omega)).trans (by omega)
            refine xi_iinc (pc' := 1504) (x := x4) (v := v103) (lv' := [(4, .int v103), (3, .ref 167), (2, .ref 115), (1, .ref 0), (0, .ref 1000000)]) kc_195_1501 rfl rfl ev103 rfl (xm_lt ml_195 rfl) ?_
            refine xi_goto (pc' := 23) kc_195_1504 rfl ?_
            have A104 := ((eh101.2.1 1 (by decide)).trans ((eh94.2.1 1 (by decide)).trans ((eh91.2.1 1 (by decide)).trans A3)))
            have A105 := ((eh101.2.1 115 (by decide)).trans eh94.1)
            exact kk v103 hh101 (by omega) K102 ⟨(xGR_kept I.1 (fun c hc => ((eh101.2.1 c (Ne.symm (xk_nc hc rfl))).trans ((eh94.2.1 c (Ne.symm (xk_nc hc rfl))).trans (eh91.2.1 c (Ne.symm (xk_nc hc rfl)))))) ((eh101.2.1 125 (by decide)).trans ((eh94.2.1 125 (by decide)).trans (eh91.2.1 125 (by decide))))), (xGR_kept I.2.1 (fun c hc => ((eh101.2.1 c (Ne.symm (xk_nc hc rfl))).trans ((eh94.2.1 c (Ne.symm (xk_nc hc rfl))).trans (eh91.2.1 c (Ne.symm (xk_nc hc rfl)))))) ((eh101.2.1 127 (by decide)).trans ((eh94.2.1 127 (by decide)).trans (eh91.2.1 127 (by decide))))), ((xl_of A104 rfl).trans (xl_of A105 rfl).symm)⟩
          · refine xi_cmf (pc' := 10) kc_89_7 rfl (xc_ge_f (X := a21.toInt) (Y := 6) rfl (by decide) (by omega)) ?_
            refine xi_iconst (pc' := 11) (v := 1) kc_89_10 rfl rfl ?_
            refine xi_goto (pc' := 15) kc_89_11 rfl ?_
            refine xi_ireturn kc_89_15 mr_89 rfl ?_
            show xw J ov 98 118 (9, [(0, .ref 1), (1, .int a19), (2, .int a21)], [.int 1], h) _
            refine xi_ireturn kc_118_9 mr_118 rfl ?_
            show xw J ov 99 116 (23, [(0, .ref 0), (1, .int a19), (2, .int a21), (3, .int a23), (4, .int a25)], [.int 1], h) _
            refine xi_ift (pc' := 32) kc_116_23 rfl rfl ?_
            refine xi_iload_n (pc' := 33) (x := a23) kc_116_32 rfl rfl ?_
            refine xi_iconst (pc' := 34) (v := 1) kc_116_33 rfl rfl ?_
            by_cases c106 : a23.toInt < 1
            · refine xi_cmt (pc' := 42) kc_116_34 rfl (xc_lt_t (X := a23.toInt) (Y := 1) rfl (by decide) (by omega)) ?_
              refine xi_aload_n (pc' := 43) (x := 0) kc_116_42 rfl rfl ?_
              refine xi_bipush (pc' := 45) (v := (-4)) kc_116_43 rfl rfl ?_
              refine xi_virtual (mj := 90) (as := [.int (-4)]) (st1 := []) (lv0 := [(0, .ref 0), (1, .int (-4))]) kc_116_45 rfl rfl rfl rfl rfl A28 (Nat.le_of_ble_eq_true rfl) (hJ _ _ _ _ (by decide)) (xm_le ml_90 rfl) rfl ?_
              refine xi_iload_n (pc' := 1) (x := (-4)) kc_90_0 rfl rfl ?_
              refine xi_ineg (pc' := 2) (v := 4) kc_90_1 rfl rfl ?_
              refine xi_istore_n (pc' := 3) (lv' := [(2, .int 4), (0, .ref 0), (1, .int (-4))]) kc_90_2 rfl rfl (xm_lt ml_90 rfl) ?_
              refine xi_iload_n (pc' := 4) (x := 4) kc_90_3 rfl rfl ?_
              refine xi_iff (pc' := 7) kc_90_4 rfl rfl ?_
              refine xi_iload_n (pc' := 8) (x := 4) kc_90_7 rfl rfl ?_
              refine xi_aload_n (pc' := 9) (x := 0) kc_90_8 rfl rfl ?_
              refine xi_getfield (pc' := 12) (v := .ref 94) kc_90_9 rfl rfl rfl A28 rfl ?_
              obtain ⟨y107, A107, hy107, ry107⟩ := xk_arr K.1 xD_94
              refine xi_arraylength (pc' := 13) (n := 7) (v := 7) kc_90_12 rfl (xl_lenI (by decide) (by decide) A107 hy107) rfl ?_
              refine xi_cmf (pc' := 16) kc_90_13 rfl rfl ?_
              refine xi_aload_n (pc' := 17) (x := 0) kc_90_16 rfl rfl ?_
              refine xi_getfield (pc' := 20) (v := .ref 94) kc_90_17 rfl rfl rfl A28 rfl ?_
              refine xi_iload_n (pc' := 21) (x := 4) kc_90_20 rfl rfl ?_
              refine xi_dup2 (pc' := 22) kc_90_21 rfl ⟨rfl, rfl⟩ ?_
              obtain ⟨v108, ev108, bv108, dv108⟩ := xj_get hy107 ry107 (i := 4) (by decide) (by decide)
              refine xi_iaload (pc' := 23) (v := v108) kc_90_22 rfl A107 (by decide) rfl (xi_in (by decide) (by rw [hy107]; decide)) ev108 ?_
              refine xi_iconst (pc' := 24) (v := 1) kc_90_23 rfl rfl ?_
              obtain ⟨v109, ev109⟩ : ∃ q : Int32, (v108 : Int32) + 1 = q := ⟨_, rfl⟩
              have rv109 := xc_rng v109
              refine xi_iadd (pc' := 25) (v := v109) kc_90_24 rfl ev109 ?_
              obtain ⟨y110, s110, hy110, ry110⟩ := xj_set (v := v109) hy107 ry107 4 (by first | omega | decide) (by first | omega | decide)
              refine xi_iastore (pc' := 26) (x' := y110) kc_90_25 rfl A107 rfl (xi_in (by decide) (by rw [hy107]; decide)) s110 (fun hh110 eh110 => ?_)
              have K111 := xk_pa K (xk_wa rfl) xD_94 hy110 ry110 eh110
              refine xi_iload_n (pc' := 27) (x := (-4)) kc_90_26 rfl rfl ?_
              refine xi_ireturn kc_90_27 mr_90 rfl ?_
              show xw J ov 99 116 (48, [(0, .ref 0), (1, .int a19), (2, .int a21), (3, .int a23), (4, .int a25)], [.int (-4)], hh110) _
              refine xi_ireturn kc_116_48 mr_116 rfl ?_
              show xw J ov 100 195 (679, [(4, .int x4), (3, .ref 167), (2, .ref 115), (1, .ref 0), (0, .ref 1000000)], [.int (-4)], hh110) _
              refine xi_aload_n (pc' := 680) (x := 115) kc_195_679 rfl rfl ?_
              refine xi_aload_n (pc' := 681) (x := 1000000) kc_195_680 rfl rfl ?_
              refine xi_iload (pc' := 683) (x := x4) kc_195_681 rfl rfl ?_
              refine xi_iconst (pc' := 684) (v := 1) kc_195_683 rfl rfl ?_
              refine xi_iadd (pc' := 685) (v := v18) kc_195_684 rfl ev18 ?_
              refine xi_ialoadO (pc' := 686) (v := a19) kc_195_685 rfl (by decide) hov0 (xi_in (by omega) (by omega)) ea19 ?_
              refine xi_aload_n (pc' := 687) (x := 1000000) kc_195_686 rfl rfl ?_
              refine xi_iload (pc' := 689) (x := x4) kc_195_687 rfl rfl ?_
              refine xi_iconst (pc' := 690) (v := 2) kc_195_689 rfl rfl ?_
              refine xi_iadd (pc' := 691) (v := v20) kc_195_690 rfl ev20 ?_
              refine xi_ialoadO (pc' := 692) (v := a21) kc_195_691 rfl (by decide) hov0 (xi_in (by omega) (by omega)) ea21 ?_
              refine xi_aload_n (pc' := 693) (x := 1000000) kc_195_692 rfl rfl ?_
              refine xi_iload (pc' := 695) (x := x4) kc_195_693 rfl rfl ?_
              refine xi_iconst (pc' := 696) (v := 3) kc_195_695 rfl rfl ?_
              refine xi_iadd (pc' := 697) (v := v22) kc_195_696 rfl ev22 ?_
              refine xi_ialoadO (pc' := 698) (v := a23) kc_195_697 rfl (by decide) hov0 (xi_in (by omega) (by omega)) ea23 ?_
              refine xi_aload_n (pc' := 699) (x := 1000000) kc_195_698 rfl rfl ?_
              refine xi_iload (pc' := 701) (x := x4) kc_195_699 rfl rfl ?_
              refine xi_iconst (pc' := 702) (v := 4) kc_195_701 rfl rfl ?_
              refine xi_iadd (pc' := 703) (v := v24) kc_195_702 rfl ev24 ?_
              refine xi_ialoadO (pc' := 704) (v := a25) kc_195_703 rfl (by decide) hov0 (xi_in (by omega) (by omega)) ea25 ?_
              have A112 := ((eh110.2.1 115 (by decide)).trans A17)
              refine xi_virtual (mj := 32) (as := [.int a19, .int a21, .int a23, .int a25]) (st1 := [.int (-4)]) (lv0 := [(0, .ref 115), (1, .int a19), (2, .int a21), (3, .int a23), (4, .int a25)]) kc_195_704 rfl rfl rfl rfl rfl A112 (Nat.le_of_ble_eq_true rfl) (hJ _ _ _ _ (by decide)) (xm_le ml_32 rfl) rfl ?_
              refine xi_aload_n (pc' := 1) (x := 115) kc_32_0 rfl rfl ?_
              refine xi_iconst (pc' := 2) (v := 0) kc_32_1 rfl rfl ?_
              refine xi_putfield (pc' := 5) (fs' := [.int 0, .int u5, .ref 116, .ref 117, .ref 118, .ref 119, .ref 120, .ref 121, .ref 122, .ref 123, .ref 124, .ref 125, .ref 126, .ref 127, .ref 128, .ref 129, .int u6, .ref 130, .int u7, .ref 131, .ref 132, .ref 133, .ref 134, .int u1, .ref 135, .ref 136, .ref 137, .ref 138, .ref 139, .ref 140, .ref 141, .ref 142, .int u9, .int u10, .int u11, .ref 143, .ref 144, .ref 145, .ref 146, .ref 147, .ref 148, .int u12, .ref 149, .ref 150, .ref 151, .int u13, .ref 152, .ref 153, .ref 154, .ref 155, .ref 156, .ref 157, .ref 158, .ref 159, .int u14, .ref 160, .int u15, .ref 161, .ref 162, .ref 163, .ref 164, .int u16, .ref 165, .ref 166]) kc_32_2 rfl rfl rfl A112 rfl rfl rfl (Nat.le_of_ble_eq_true rfl) rfl (fun hh114 eh113 => ?_)
              have K115 := xk_pf (k := 0) (v := 0) K111 (xk_wf rfl) xD_115 A112 rfl (by first | omega | decide) (by first | omega | decide) eh113 rfl
              refine xi_iload_n (pc' := 6) (x := a19) kc_32_5 rfl rfl ?_
              refine xi_iconst (pc' := 7) (v := 0) kc_32_6 rfl rfl ?_
              refine xi_iconst (pc' := 8) (v := 3) kc_32_7 rfl rfl ?_
              refine xi_static (mj := 11) (as := [.int a19, .int 0, .int 3]) (st1 := []) (lv0 := [(0, .int a19), (1, .int 0), (2, .int 3)]) kc_32_8 rfl rfl (Nat.le_of_ble_eq_true rfl) rfl rfl (Nat.le_of_ble_eq_true rfl) (hJ _ _ _ _ (by decide)) (xm_le ml_11 rfl) rfl ?_
              refine xi_iload_n (pc' := 1) (x := a19) kc_11_0 rfl rfl ?_
              refine xi_iload_n (pc' := 2) (x := 0) kc_11_1 rfl rfl ?_
              refine xi_cmf (pc' := 5) kc_11_2 rfl (xc_lt_f (X := a19.toInt) (Y := 0) rfl (by decide) (by omega)) ?_
              refine xi_iload_n (pc' := 6) (x := a19) kc_11_5 rfl rfl ?_
              refine xi_iload_n (pc' := 7) (x := 3) kc_11_6 rfl rfl ?_
              refine xi_cmf (pc' := 10) kc_11_7 rfl (xc_gt_f (X := a19.toInt) (Y := 3) rfl (by decide) (by omega)) ?_
              refine xi_iconst (pc' := 11) (v := 1) kc_11_10 rfl rfl ?_
              refine xi_goto (pc' := 15) kc_11_11 rfl ?_
              refine xi_ireturn kc_11_15 mr_11 rfl ?_
              show xw J ov 99 32 (11, [(0, .ref 115), (1, .int a19), (2, .int a21), (3, .int a23), (4, .int a25)], [.int 1], hh114) _
              refine xi_ift (pc' := 21) kc_32_11 rfl rfl ?_
              refine xi_iload_n (pc' := 22) (x := a19) kc_32_21 rfl rfl ?_
              refine xi_iconst (pc' := 23) (v := 3) kc_32_22 rfl rfl ?_
              refine xi_cmf (pc' := 26) kc_32_23 rfl (xc_ne_f (X := a19.toInt) (Y := 3) rfl (by decide) (by omega)) ?_
              refine xi_iload_n (pc' := 27) (x := a21) kc_32_26 rfl rfl ?_
              refine xi_static (mj := 10) (as := [.int a21]) (st1 := []) (lv0 := [(0, .int a21)]) kc_32_27 rfl rfl (Nat.le_of_ble_eq_true rfl) rfl rfl (Nat.le_of_ble_eq_true rfl) (hJ _ _ _ _ (by decide)) (xm_le ml_10 rfl) rfl ?_
              refine xi_iload_n (pc' := 1) (x := a21) kc_10_0 rfl rfl ?_
              refine xi_iconst (pc' := 2) (v := 0) kc_10_1 rfl rfl ?_
              refine xi_iconst (pc' := 3) (v := 5) kc_10_2 rfl rfl ?_
              refine xi_static (mj := 11) (as := [.int a21, .int 0, .int 5]) (st1 := []) (lv0 := [(0, .int a21), (1, .int 0), (2, .int 5)]) kc_10_3 rfl rfl (Nat.le_of_ble_eq_true rfl) rfl rfl (Nat.le_of_ble_eq_true rfl) (hJ _ _ _ _ (by decide)) (xm_le ml_11 rfl) rfl ?_
              refine xi_iload_n (pc' := 1) (x := a21) kc_11_0 rfl rfl ?_
              refine xi_iload_n (pc' := 2) (x := 0) kc_11_1 rfl rfl ?_
              refine xi_cmf (pc' := 5) kc_11_2 rfl (xc_lt_f (X := a21.toInt) (Y := 0) rfl (by decide) (by omega)) ?_
              refine xi_iload_n (pc' := 6) (x := a21) kc_11_5 rfl rfl ?_
              refine xi_iload_n (pc' := 7) (x := 5) kc_11_6 rfl rfl ?_
              refine xi_cmf (pc' := 10) kc_11_7 rfl (xc_gt_f (X := a21.toInt) (Y := 5) rfl (by decide) (by omega)) ?_
              refine xi_iconst (pc' := 11) (v := 1) kc_11_10 rfl rfl ?_
              refine xi_goto (pc' := 15) kc_11_11 rfl ?_
              refine xi_ireturn kc_11_15 mr_11 rfl ?_
              show xw J ov 98 10 (6, [(0, .int a21)], [.int 1], hh114) _
              refine xi_ireturn kc_10_6 mr_10 rfl ?_
              show xw J ov 99 32 (30, [(0, .ref 115), (1, .int a19), (2, .int a21), (3, .int a23), (4, .int a25)], [.int 1], hh114) _
              refine xi_ift (pc' := 63) kc_32_30 rfl rfl ?_
              refine xi_iload_n (pc' := 64) (x := a23) kc_32_63 rfl rfl ?_
              refine xi_iconst (pc' := 65) (v := 1) kc_32_64 rfl rfl ?_
              refine xi_cmt (pc' := 73) kc_32_65 rfl (xc_lt_t (X := a23.toInt) (Y := 1) rfl (by decide) (by omega)) ?_
              refine xi_aload_n (pc' := 74) (x := 115) kc_32_73 rfl rfl ?_
              refine xi_bipush (pc' := 76) (v := (-4)) kc_32_74 rfl rfl ?_
              refine xi_virtual (mj := 12) (as := [.int (-4)]) (st1 := []) (lv0 := [(0, .ref 115), (1, .int (-4))]) kc_32_76 rfl rfl rfl rfl rfl eh113.1 (Nat.le_of_ble_eq_true rfl) (hJ _ _ _ _ (by decide)) (xm_le ml_12 rfl) rfl ?_
              refine xi_aload_n (pc' := 1) (x := 115) kc_12_0 rfl rfl ?_
              refine xi_getfield (pc' := 4) (v := .ref 140) kc_12_1 rfl rfl rfl eh113.1 rfl ?_
              refine xi_iload_n (pc' := 5) (x := (-4)) kc_12_4 rfl rfl ?_
              refine xi_ineg (pc' := 6) (v := 4) kc_12_5 rfl rfl ?_
              refine xi_dup2 (pc' := 7) kc_12_6 rfl ⟨rfl, rfl⟩ ?_
              obtain ⟨y116, A116, hy116, ry116⟩ := xk_arr K.1 xD_140
              obtain ⟨v117, ev117, bv117, dv117⟩ := xj_get hy116 ry116 (i := 4) (by decide) (by decide)
              have A118 := ((eh113.2.1 140 (by decide)).trans ((eh110.2.1 140 (by decide)).trans A116))
              refine xi_iaload (pc' := 8) (v := v117) kc_12_7 rfl A118 (by decide) rfl (xi_in (by decide) (by rw [hy116]; decide)) ev117 ?_
              refine xi_iconst (pc' := 9) (v := 1) kc_12_8 rfl rfl ?_
              obtain ⟨v119, ev119⟩ : ∃ q : Int32, (v117 : Int32) + 1 = q := ⟨_, rfl⟩
              have rv119 := xc_rng v119
              refine xi_iadd (pc' := 10) (v := v119) kc_12_9 rfl ev119 ?_
              obtain ⟨y120, s120, hy120, ry120⟩ := xj_set (v := v119) hy116 ry116 4 (by first | omega | decide) (by first | omega | decide)
              refine xi_iastore (pc' := 11) (x' := y120) kc_12_10 rfl A118 rfl (xi_in (by decide) (by rw [hy116]; decide)) s120 (fun hh120 eh120 => ?_)
              have K121 := xk_pa K115 (xk_wa rfl) xD_140 hy120 ry120 eh120
              refine xi_iload_n (pc' := 12) (x := (-4)) kc_12_11 rfl rfl ?_
              refine xi_ireturn kc_12_12 mr_12 rfl ?_
              show xw J ov 99 32 (79, [(0, .ref 115), (1, .int a19), (2, .int a21), (3, .int a23), (4, .int a25)], [.int (-4)], hh120) _
              refine xi_ireturn kc_32_79 mr_32 rfl ?_
              show xw J ov 100 195 (707, [(4, .int x4), (3, .ref 167), (2, .ref 115), (1, .ref 0), (0, .ref 1000000)], [.int (-4), .int (-4)], hh120) _
              refine xi_cmt (pc' := 1501) kc_195_707 rfl rfl ?_
              obtain ⟨v122, ev122⟩ : ∃ q : Int32, x4 + 6 = q := ⟨_, rfl⟩
              have zv122 : v122.toInt = (x4.toInt + 6) := by rw [← ev122]; exact (xz_add (X := x4.toInt) (Y := 6) rfl (by decide) (by omega) (by omega)).trans (by omega)
              refine xi_iinc (pc' := 1504) (x := x4) (v := v122) (lv' := [(4, .int v122), (3, .ref 167), (2, .ref 115), (1, .ref 0), (0, .ref 1000000)]) kc_195_1501 rfl rfl ev122 rfl (xm_lt ml_195 rfl) ?_
              refine xi_goto (pc' := 23) kc_195_1504 rfl ?_
              have A123 := ((eh120.2.1 1 (by decide)).trans ((eh113.2.1 1 (by decide)).trans ((eh110.2.1 1 (by decide)).trans A3)))
              have A124 := ((eh120.2.1 115 (by decide)).trans eh113.1)
              exact kk v122 hh120 (by omega) K121 ⟨(xGR_kept I.1 (fun c hc => ((eh120.2.1 c (Ne.symm (xk_nc hc rfl))).trans ((eh113.2.1 c (Ne.symm (xk_nc hc rfl))).trans (eh110.2.1 c (Ne.symm (xk_nc hc rfl)))))) ((eh120.2.1 125 (by decide)).trans ((eh113.2.1 125 (by decide)).trans (eh110.2.1 125 (by decide))))), (xGR_kept I.2.1 (fun c hc => ((eh120.2.1 c (Ne.symm (xk_nc hc rfl))).trans ((eh113.2.1 c (Ne.symm (xk_nc hc rfl))).trans (eh110.2.1 c (Ne.symm (xk_nc hc rfl)))))) ((eh120.2.1 127 (by decide)).trans ((eh113.2.1 127 (by decide)).trans (eh110.2.1 127 (by decide))))), ((xl_of A123 rfl).trans (xl_of A124 rfl).symm)⟩
            · refine xi_cmf (pc' := 37) kc_116_34 rfl (xc_lt_f (X := a23.toInt) (Y := 1) rfl (by decide) (by omega)) ?_
              refine xi_iload (pc' := 39) (x := a25) kc_116_37 rfl rfl ?_
              by_cases c125 : 0 ≤ a25.toInt
              · refine xi_ift (pc' := 49) kc_116_39 rfl (xc_ge_t (X := a25.toInt) (Y := 0) rfl (by decide) (by omega)) ?_
                refine xi_iload_n (pc' := 50) (x := a23) kc_116_49 rfl rfl ?_
                refine xi_bipush (pc' := 52) (v := 99) kc_116_50 rfl rfl ?_
                by_cases c126 : 99 < a23.toInt
                · refine xi_cmt (pc' := 75) kc_116_52 rfl (xc_gt_t (X := a23.toInt) (Y := 99) rfl (by decide) (by omega)) ?_
                  refine xi_aload_n (pc' := 76) (x := 0) kc_116_75 rfl rfl ?_
                  refine xi_bipush (pc' := 78) (v := (-6)) kc_116_76 rfl rfl ?_
                  refine xi_virtual (mj := 90) (as := [.int (-6)]) (st1 := []) (lv0 := [(0, .ref 0), (1, .int (-6))]) kc_116_78 rfl rfl rfl rfl rfl A28 (Nat.le_of_ble_eq_true rfl) (hJ _ _ _ _ (by decide)) (xm_le ml_90 rfl) rfl ?_
                  refine xi_iload_n (pc' := 1) (x := (-6)) kc_90_0 rfl rfl ?_
                  refine xi_ineg (pc' := 2) (v := 6) kc_90_1 rfl rfl ?_
                  refine xi_istore_n (pc' := 3) (lv' := [(2, .int 6), (0, .ref 0), (1, .int (-6))]) kc_90_2 rfl rfl (xm_lt ml_90 rfl) ?_
                  refine xi_iload_n (pc' := 4) (x := 6) kc_90_3 rfl rfl ?_
                  refine xi_iff (pc' := 7) kc_90_4 rfl rfl ?_
                  refine xi_iload_n (pc' := 8) (x := 6) kc_90_7 rfl rfl ?_
                  refine xi_aload_n (pc' := 9) (x := 0) kc_90_8 rfl rfl ?_
                  refine xi_getfield (pc' := 12) (v := .ref 94) kc_90_9 rfl rfl rfl A28 rfl ?_
                  obtain ⟨y127, A127, hy127, ry127⟩ := xk_arr K.1 xD_94
                  refine xi_arraylength (pc' := 13) (n := 7) (v := 7) kc_90_12 rfl (xl_lenI (by decide) (by decide) A127 hy127) rfl ?_
                  refine xi_cmf (pc' := 16) kc_90_13 rfl rfl ?_
                  refine xi_aload_n (pc' := 17) (x := 0) kc_90_16 rfl rfl ?_
                  refine xi_getfield (pc' := 20) (v := .ref 94) kc_90_17 rfl rfl rfl A28 rfl ?_
                  refine xi_iload_n (pc' := 21) (x := 6) kc_90_20 rfl rfl ?_
                  refine xi_dup2 (pc' := 22) kc_90_21 rfl ⟨rfl, rfl⟩ ?_
                  obtain ⟨v128, ev128, bv128, dv128⟩ := xj_get hy127 ry127 (i := 6) (by decide) (by decide)
                  refine xi_iaload (pc' := 23) (v := v128) kc_90_22 rfl A127 (by decide) rfl (xi_in (by decide) (by rw [hy127]; decide)) ev128 ?_
                  refine xi_iconst (pc' := 24) (v := 1) kc_90_23 rfl rfl ?_
                  obtain ⟨v129, ev129⟩ : ∃ q : Int32, (v128 : Int32) + 1 = q := ⟨_, rfl⟩
                  have rv129 := xc_rng v129
                  refine xi_iadd (pc' := 25) (v := v129) kc_90_24 rfl ev129 ?_
                  obtain ⟨y130, s130, hy130, ry130⟩ := xj_set (v := v129) hy127 ry127 6 (by first | omega | decide) (by first | omega | decide)
                  refine xi_iastore (pc' := 26) (x' := y130) kc_90_25 rfl A127 rfl (xi_in (by decide) (by rw [hy127]; decide)) s130 (fun hh130 eh130 => ?_)
                  have K131 := xk_pa K (xk_wa rfl) xD_94 hy130 ry130 eh130
                  refine xi_iload_n (pc' := 27) (x := (-6)) kc_90_26 rfl rfl ?_
                  refine xi_ireturn kc_90_27 mr_90 rfl ?_
                  show xw J ov 99 116 (81, [(0, .ref 0), (1, .int a19), (2, .int a21), (3, .int a23), (4, .int a25)], [.int (-6)], hh130) _
                  refine xi_ireturn kc_116_81 mr_116 rfl ?_
                  show xw J ov 100 195 (679, [(4, .int x4), (3, .ref 167), (2, .ref 115), (1, .ref 0), (0, .ref 1000000)], [.int (-6)], hh130) _
                  refine xi_aload_n (pc' := 680) (x := 115) kc_195_679 rfl rfl ?_
                  refine xi_aload_n (pc' := 681) (x := 1000000) kc_195_680 rfl rfl ?_
                  refine xi_iload (pc' := 683) (x := x4) kc_195_681 rfl rfl ?_
                  refine xi_iconst (pc' := 684) (v := 1) kc_195_683 rfl rfl ?_
                  refine xi_iadd (pc' := 685) (v := v18) kc_195_684 rfl ev18 ?_
                  refine xi_ialoadO (pc' := 686) (v := a19) kc_195_685 rfl (by decide) hov0 (xi_in (by omega) (by omega)) ea19 ?_
                  refine xi_aload_n (pc' := 687) (x := 1000000) kc_195_686 rfl rfl ?_
                  refine xi_iload (pc' := 689) (x := x4) kc_195_687 rfl rfl ?_
                  refine xi_iconst (pc' := 690) (v := 2) kc_195_689 rfl rfl ?_
                  refine xi_iadd (pc' := 691) (v := v20) kc_195_690 rfl ev20 ?_
                  refine xi_ialoadO (pc' := 692) (v := a21) kc_195_691 rfl (by decide) hov0 (xi_in (by omega) (by omega)) ea21 ?_
                  refine xi_aload_n (pc' := 693) (x := 1000000) kc_195_692 rfl rfl ?_
                  refine xi_iload (pc' := 695) (x := x4) kc_195_693 rfl rfl ?_
                  refine xi_iconst (pc' := 696) (v := 3) kc_195_695 rfl rfl ?_
                  refine xi_iadd (pc' := 697) (v := v22) kc_195_696 rfl ev22 ?_
                  refine xi_ialoadO (pc' := 698) (v := a23) kc_195_697 rfl (by decide) hov0 (xi_in (by omega) (by omega)) ea23 ?_
                  refine xi_aload_n (pc' := 699) (x := 1000000) kc_195_698 rfl rfl ?_
                  refine xi_iload (pc' := 701) (x := x4) kc_195_699 rfl rfl ?_
                  refine xi_iconst (pc' := 702) (v := 4) kc_195_701 rfl rfl ?_
                  refine xi_iadd (pc' := 703) (v := v24) kc_195_702 rfl ev24 ?_
                  refine xi_ialoadO (pc' := 704) (v := a25) kc_195_703 rfl (by decide) hov0 (xi_in (by omega) (by omega)) ea25 ?_
                  have A132 := ((eh130.2.1 115 (by decide)).trans A17)
                  refine xi_virtual (mj := 32) (as := [.int a19, .int a21, .int a23, .int a25]) (st1 := [.int (-6)]) (lv0 := [(0, .ref 115), (1, .int a19), (2, .int a21), (3, .int a23), (4, .int a25)]) kc_195_704 rfl rfl rfl rfl rfl A132 (Nat.le_of_ble_eq_true rfl) (hJ _ _ _ _ (by decide)) (xm_le ml_32 rfl) rfl ?_
                  refine xi_aload_n (pc' := 1) (x := 115) kc_32_0 rfl rfl ?_
                  refine xi_iconst (pc' := 2) (v := 0) kc_32_1 rfl rfl ?_
                  refine xi_putfield (pc' := 5) (fs' := [.int 0, .int u5, .ref 116, .ref 117, .ref 118, .ref 119, .ref 120, .ref 121, .ref 122, .ref 123, .ref 124, .ref 125, .ref 126, .ref 127, .ref 128, .ref 129, .int u6, .ref 130, .int u7, .ref 131, .ref 132, .ref 133, .ref 134, .int u1, .ref 135, .ref 136, .ref 137, .ref 138, .ref 139, .ref 140, .ref 141, .ref 142, .int u9, .int u10, .int u11, .ref 143, .ref 144, .ref 145, .ref 146, .ref 147, .ref 148, .int u12, .ref 149, .ref 150, .ref 151, .int u13, .ref 152, .ref 153, .ref 154, .ref 155, .ref 156, .ref 157, .ref 158, .ref 159, .int u14, .ref 160, .int u15, .ref 161, .ref 162, .ref 163, .ref 164, .int u16, .ref 165, .ref 166]) kc_32_2 rfl rfl rfl A132 rfl rfl rfl (Nat.le_of_ble_eq_true rfl) rfl (fun hh134 eh133 => ?_)
                  have K135 := xk_pf (k := 0) (v := 0) K131 (xk_wf rfl) xD_115 A132 rfl (by first | omega | decide) (by first | omega | decide) eh133 rfl
                  refine xi_iload_n (pc' := 6) (x := a19) kc_32_5 rfl rfl ?_
                  refine xi_iconst (pc' := 7) (v := 0) kc_32_6 rfl rfl ?_
                  refine xi_iconst (pc' := 8) (v := 3) kc_32_7 rfl rfl ?_
                  refine xi_static (mj := 11) (as := [.int a19, .int 0, .int 3]) (st1 := []) (lv0 := [(0, .int a19), (1, .int 0), (2, .int 3)]) kc_32_8 rfl rfl (Nat.le_of_ble_eq_true rfl) rfl rfl (Nat.le_of_ble_eq_true rfl) (hJ _ _ _ _ (by decide)) (xm_le ml_11 rfl) rfl ?_
                  refine xi_iload_n (pc' := 1) (x := a19) kc_11_0 rfl rfl ?_
                  refine xi_iload_n (pc' := 2) (x := 0) kc_11_1 rfl rfl ?_
                  refine xi_cmf (pc' := 5) kc_11_2 rfl (xc_lt_f (X := a19.toInt) (Y := 0) rfl (by decide) (by omega)) ?_
                  refine xi_iload_n (pc' := 6) (x := a19) kc_11_5 rfl rfl ?_
                  refine xi_iload_n (pc' := 7) (x := 3) kc_11_6 rfl rfl ?_
                  refine xi_cmf (pc' := 10) kc_11_7 rfl (xc_gt_f (X := a19.toInt) (Y := 3) rfl (by decide) (by omega)) ?_
                  refine xi_iconst (pc' := 11) (v := 1) kc_11_10 rfl rfl ?_
                  refine xi_goto (pc' := 15) kc_11_11 rfl ?_
                  refine xi_ireturn kc_11_15 mr_11 rfl ?_
                  show xw J ov 99 32 (11, [(0, .ref 115), (1, .int a19), (2, .int a21), (3, .int a23), (4, .int a25)], [.int 1], hh134) _
                  refine xi_ift (pc' := 21) kc_32_11 rfl rfl ?_
                  refine xi_iload_n (pc' := 22) (x := a19) kc_32_21 rfl rfl ?_
                  refine xi_iconst (pc' := 23) (v := 3) kc_32_22 rfl rfl ?_
                  refine xi_cmf (pc' := 26) kc_32_23 rfl (xc_ne_f (X := a19.toInt) (Y := 3) rfl (by decide) (by omega)) ?_
                  refine xi_iload_n (pc' := 27) (x := a21) kc_32_26 rfl rfl ?_
                  refine xi_static (mj := 10) (as := [.int a21]) (st1 := []) (lv0 := [(0, .int a21)]) kc_32_27 rfl rfl (Nat.le_of_ble_eq_true rfl) rfl rfl (Nat.le_of_ble_eq_true rfl) (hJ _ _ _ _ (by decide)) (xm_le ml_10 rfl) rfl ?_
                  refine xi_iload_n (pc' := 1) (x := a21) kc_10_0 rfl rfl ?_
                  refine xi_iconst (pc' := 2) (v := 0) kc_10_1 rfl rfl ?_
                  refine xi_iconst (pc' := 3) (v := 5) kc_10_2 rfl rfl ?_
                  refine xi_static (mj := 11) (as := [.int a21, .int 0, .int 5]) (st1 := []) (lv0 := [(0, .int a21), (1, .int 0), (2, .int 5)]) kc_10_3 rfl rfl (Nat.le_of_ble_eq_true rfl) rfl rfl (Nat.le_of_ble_eq_true rfl) (hJ _ _ _ _ (by decide)) (xm_le ml_11 rfl) rfl ?_
                  refine xi_iload_n (pc' := 1) (x := a21) kc_11_0 rfl rfl ?_
                  refine xi_iload_n (pc' := 2) (x := 0) kc_11_1 rfl rfl ?_
                  refine xi_cmf (pc' := 5) kc_11_2 rfl (xc_lt_f (X := a21.toInt) (Y := 0) rfl (by decide) (by omega)) ?_
                  refine xi_iload_n (pc' := 6) (x := a21) kc_11_5 rfl rfl ?_
                  refine xi_iload_n (pc' := 7) (x := 5) kc_11_6 rfl rfl ?_
                  refine xi_cmf (pc' := 10) kc_11_7 rfl (xc_gt_f (X := a21.toInt) (Y := 5) rfl (by decide) (by omega)) ?_
                  refine xi_iconst (pc' := 11) (v := 1) kc_11_10 rfl rfl ?_
                  refine xi_goto (pc' := 15) kc_11_11 rfl ?_
                  refine xi_ireturn kc_11_15 mr_11 rfl ?_
                  show xw J ov 98 10 (6, [(0, .int a21)], [.int 1], hh134) _
                  refine xi_ireturn kc_10_6 mr_10 rfl ?_
                  show xw J ov 99 32 (30, [(0, .ref 115), (1, .int a19), (2, .int a21), (3, .int a23), (4, .int a25)], [.int 1], hh134) _
                  refine xi_ift (pc' := 63) kc_32_30 rfl rfl ?_
                  refine xi_iload_n (pc' := 64) (x := a23) kc_32_63 rfl rfl ?_
                  refine xi_iconst (pc' := 65) (v := 1) kc_32_64 rfl rfl ?_
                  refine xi_cmf (pc' := 68) kc_32_65 rfl (xc_lt_f (X := a23.toInt) (Y := 1) rfl (by decide) (by omega)) ?_
                  refine xi_iload (pc' := 70) (x := a25) kc_32_68 rfl rfl ?_
                  refine xi_ift (pc' := 80) kc_32_70 rfl (xc_ge_t (X := a25.toInt) (Y := 0) rfl (by decide) (by omega)) ?_
                  refine xi_iload_n (pc' := 81) (x := a23) kc_32_80 rfl rfl ?_
                  refine xi_bipush (pc' := 83) (v := 99) kc_32_81 rfl rfl ?_
                  refine xi_cmt (pc' := 103) kc_32_83 rfl (xc_gt_t (X := a23.toInt) (Y := 99) rfl (by decide) (by omega)) ?_
                  refine xi_aload_n (pc' := 104) (x := 115) kc_32_103 rfl rfl ?_
                  refine xi_bipush (pc' := 106) (v := (-6)) kc_32_104 rfl rfl ?_
                  refine xi_virtual (mj := 12) (as := [.int (-6)]) (st1 := []) (lv0 := [(0, .ref 115), (1, .int (-6))]) kc_32_106 rfl rfl rfl rfl rfl eh133.1 (Nat.le_of_ble_eq_true rfl) (hJ _ _ _ _ (by decide)) (xm_le ml_12 rfl) rfl ?_
                  refine xi_aload_n (pc' := 1) (x := 115) kc_12_0 rfl rfl ?_
                  refine xi_getfield (pc' := 4) (v := .ref 140) kc_12_1 rfl rfl rfl eh133.1 rfl ?_
                  refine xi_iload_n (pc' := 5) (x := (-6)) kc_12_4 rfl rfl ?_
                  refine xi_ineg (pc' := 6) (v := 6) kc_12_5 rfl rfl ?_
                  refine xi_dup2 (pc' := 7) kc_12_6 rfl ⟨rfl, rfl⟩ ?_
                  obtain ⟨y136, A136, hy136, ry136⟩ := xk_arr K.1 xD_140
                  obtain ⟨v137, ev137, bv137, dv137⟩ := xj_get hy136 ry136 (i := 6) (by decide) (by decide)
                  have A138 := ((eh133.2.1 140 (by decide)).trans ((eh130.2.1 140 (by decide)).trans A136))
                  refine xi_iaload (pc' := 8) (v := v137) kc_12_7 rfl A138 (by decide) rfl (xi_in (by decide) (by rw [hy136]; decide)) ev137 ?_
                  refine xi_iconst (pc' := 9) (v := 1) kc_12_8 rfl rfl ?_
                  obtain ⟨v139, ev139⟩ : ∃ q : Int32, (v137 : Int32) + 1 = q := ⟨_, rfl⟩
                  have rv139 := xc_rng v139
                  refine xi_iadd (pc' := 10) (v := v139) kc_12_9 rfl ev139 ?_
                  obtain ⟨y140, s140, hy140, ry140⟩ := xj_set (v := v139) hy136 ry136 6 (by first | omega | decide) (by first | omega | decide)
                  refine xi_iastore (pc' := 11) (x' := y140) kc_12_10 rfl A138 rfl (xi_in (by decide) (by rw [hy136]; decide)) s140 (fun hh140 eh140 => ?_)
                  have K141 := xk_pa K135 (xk_wa rfl) xD_140 hy140 ry140 eh140
                  refine xi_iload_n (pc' := 12) (x := (-6)) kc_12_11 rfl rfl ?_
                  refine xi_ireturn kc_12_12 mr_12 rfl ?_
                  show xw J ov 99 32 (109, [(0, .ref 115), (1, .int a19), (2, .int a21), (3, .int a23), (4, .int a25)], [.int (-6)], hh140) _
                  refine xi_ireturn kc_32_109 mr_32 rfl ?_
                  show xw J ov 100 195 (707, [(4, .int x4), (3, .ref 167), (2, .ref 115), (1, .ref 0), (0, .ref 1000000)], [.int (-6), .int (-6)], hh140) _
                  refine xi_cmt (pc' := 1501) kc_195_707 rfl rfl ?_
                  obtain ⟨v142, ev142⟩ : ∃ q : Int32, x4 + 6 = q := ⟨_, rfl⟩
                  have zv142 : v142.toInt = (x4.toInt + 6) := by rw [← ev142]; exact (xz_add (X := x4.toInt) (Y := 6) rfl (by decide) (by omega) (by omega)).trans (by omega)
                  refine xi_iinc (pc' := 1504) (x := x4) (v := v142) (lv' := [(4, .int v142), (3, .ref 167), (2, .ref 115), (1, .ref 0), (0, .ref 1000000)]) kc_195_1501 rfl rfl ev142 rfl (xm_lt ml_195 rfl) ?_
                  refine xi_goto (pc' := 23) kc_195_1504 rfl ?_
                  have A143 := ((eh140.2.1 1 (by decide)).trans ((eh133.2.1 1 (by decide)).trans ((eh130.2.1 1 (by decide)).trans A3)))
                  have A144 := ((eh140.2.1 115 (by decide)).trans eh133.1)
                  exact kk v142 hh140 (by omega) K141 ⟨(xGR_kept I.1 (fun c hc => ((eh140.2.1 c (Ne.symm (xk_nc hc rfl))).trans ((eh133.2.1 c (Ne.symm (xk_nc hc rfl))).trans (eh130.2.1 c (Ne.symm (xk_nc hc rfl)))))) ((eh140.2.1 125 (by decide)).trans ((eh133.2.1 125 (by decide)).trans (eh130.2.1 125 (by decide))))), (xGR_kept I.2.1 (fun c hc => ((eh140.2.1 c (Ne.symm (xk_nc hc rfl))).trans ((eh133.2.1 c (Ne.symm (xk_nc hc rfl))).trans (eh130.2.1 c (Ne.symm (xk_nc hc rfl)))))) ((eh140.2.1 127 (by decide)).trans ((eh133.2.1 127 (by decide)).trans (eh130.2.1 127 (by decide))))), ((xl_of A143 rfl).trans (xl_of A144 rfl).symm)⟩
                · refine xi_cmf (pc' := 55) kc_116_52 rfl (xc_gt_f (X := a23.toInt) (Y := 99) rfl (by decide) (by omega)) ?_
                  refine xi_iload (pc' := 57) (x := a25) kc_116_55 rfl rfl ?_
                  refine xi_sipush (pc' := 60) (v := 600) kc_116_57 rfl rfl ?_
                  by_cases c145 : 600 < a25.toInt
                  · refine xi_cmt (pc' := 75) kc_116_60 rfl (xc_gt_t (X := a25.toInt) (Y := 600) rfl (by decide) (by omega)) ?_
                    refine xi_aload_n (pc' := 76) (x := 0) kc_116_75 rfl rfl ?_
                    refine xi_bipush (pc' := 78) (v := (-6)) kc_116_76 rfl rfl ?_
                    refine xi_virtual (mj := 90) (as := [.int (-6)]) (st1 := []) (lv0 := [(0, .ref 0), (1, .int (-6))]) kc_116_78 rfl rfl rfl rfl rfl A28 (Nat.le_of_ble_eq_true rfl) (hJ _ _ _ _ (by decide)) (xm_le ml_90 rfl) rfl ?_
                    refine xi_iload_n (pc' := 1) (x := (-6)) kc_90_0 rfl rfl ?_
                    refine xi_ineg (pc' := 2) (v := 6) kc_90_1 rfl rfl ?_
                    refine xi_istore_n (pc' := 3) (lv' := [(2, .int 6), (0, .ref 0), (1, .int (-6))]) kc_90_2 rfl rfl (xm_lt ml_90 rfl) ?_
                    refine xi_iload_n (pc' := 4) (x := 6) kc_90_3 rfl rfl ?_
                    refine xi_iff (pc' := 7) kc_90_4 rfl rfl ?_
                    refine xi_iload_n (pc' := 8) (x := 6) kc_90_7 rfl rfl ?_
                    refine xi_aload_n (pc' := 9) (x := 0) kc_90_8 rfl rfl ?_
                    refine xi_getfield (pc' := 12) (v := .ref 94) kc_90_9 rfl rfl rfl A28 rfl ?_
                    obtain ⟨y146, A146, hy146, ry146⟩ := xk_arr K.1 xD_94
                    refine xi_arraylength (pc' := 13) (n := 7) (v := 7) kc_90_12 rfl (xl_lenI (by decide) (by decide) A146 hy146) rfl ?_
                    refine xi_cmf (pc' := 16) kc_90_13 rfl rfl ?_
                    refine xi_aload_n (pc' := 17) (x := 0) kc_90_16 rfl rfl ?_
                    refine xi_getfield (pc' := 20) (v := .ref 94) kc_90_17 rfl rfl rfl A28 rfl ?_
                    refine xi_iload_n (pc' := 21) (x := 6) kc_90_20 rfl rfl ?_
                    refine xi_dup2 (pc' := 22) kc_90_21 rfl ⟨rfl, rfl⟩ ?_
                    obtain ⟨v147, ev147, bv147, dv147⟩ := xj_get hy146 ry146 (i := 6) (by decide) (by decide)
                    refine xi_iaload (pc' := 23) (v := v147) kc_90_22 rfl A146 (by decide) rfl (xi_in (by decide) (by rw [hy146]; decide)) ev147 ?_
                    refine xi_iconst (pc' := 24) (v := 1) kc_90_23 rfl rfl ?_
                    obtain ⟨v148, ev148⟩ : ∃ q : Int32, (v147 : Int32) + 1 = q := ⟨_, rfl⟩
                    have rv148 := xc_rng v148
                    refine xi_iadd (pc' := 25) (v := v148) kc_90_24 rfl ev148 ?_
                    obtain ⟨y149, s149, hy149, ry149⟩ := xj_set (v := v148) hy146 ry146 6 (by first | omega | decide) (by first | omega | decide)
                    refine xi_iastore (pc' := 26) (x' := y149) kc_90_25 rfl A146 rfl (xi_in (by decide) (by rw [hy146]; decide)) s149 (fun hh149 eh149 => ?_)
                    have K150 := xk_pa K (xk_wa rfl) xD_94 hy149 ry149 eh149
                    refine xi_iload_n (pc' := 27) (x := (-6)) kc_90_26 rfl rfl ?_
                    refine xi_ireturn kc_90_27 mr_90 rfl ?_
                    show xw J ov 99 116 (81, [(0, .ref 0), (1, .int a19), (2, .int a21), (3, .int a23), (4, .int a25)], [.int (-6)], hh149) _
                    refine xi_ireturn kc_116_81 mr_116 rfl ?_
                    show xw J ov 100 195 (679, [(4, .int x4), (3, .ref 167), (2, .ref 115), (1, .ref 0), (0, .ref 1000000)], [.int (-6)], hh149) _
                    refine xi_aload_n (pc' := 680) (x := 115) kc_195_679 rfl rfl ?_
                    refine xi_aload_n (pc' := 681) (x := 1000000) kc_195_680 rfl rfl ?_
                    refine xi_iload (pc' := 683) (x := x4) kc_195_681 rfl rfl ?_
                    refine xi_iconst (pc' := 684) (v := 1) kc_195_683 rfl rfl ?_
                    refine xi_iadd (pc' := 685) (v := v18) kc_195_684 rfl ev18 ?_
                    refine xi_ialoadO (pc' := 686) (v := a19) kc_195_685 rfl (by decide) hov0 (xi_in (by omega) (by omega)) ea19 ?_
                    refine xi_aload_n (pc' := 687) (x := 1000000) kc_195_686 rfl rfl ?_
                    refine xi_iload (pc' := 689) (x := x4) kc_195_687 rfl rfl ?_
                    refine xi_iconst (pc' := 690) (v := 2) kc_195_689 rfl rfl ?_
                    refine xi_iadd (pc' := 691) (v := v20) kc_195_690 rfl ev20 ?_
                    refine xi_ialoadO (pc' := 692) (v := a21) kc_195_691 rfl (by decide) hov0 (xi_in (by omega) (by omega)) ea21 ?_
                    refine xi_aload_n (pc' := 693) (x := 1000000) kc_195_692 rfl rfl ?_
                    refine xi_iload (pc' := 695) (x := x4) kc_195_693 rfl rfl ?_
                    refine xi_iconst (pc' := 696) (v := 3) kc_195_695 rfl rfl ?_
                    refine xi_iadd (pc' := 697) (v := v22) kc_195_696 rfl ev22 ?_
                    refine xi_ialoadO (pc' := 698) (v := a23) kc_195_697 rfl (by decide) hov0 (xi_in (by omega) (by omega)) ea23 ?_
                    refine xi_aload_n (pc' := 699) (x := 1000000) kc_195_698 rfl rfl ?_
                    refine xi_iload (pc' := 701) (x := x4) kc_195_699 rfl rfl ?_
                    refine xi_iconst (pc' := 702) (v := 4) kc_195_701 rfl rfl ?_
                    refine xi_iadd (pc' := 703) (v := v24) kc_195_702 rfl ev24 ?_
                    refine xi_ialoadO (pc' := 704) (v := a25) kc_195_703 rfl (by decide) hov0 (xi_in (by omega) (by omega)) ea25 ?_
                    have A151 := ((eh149.2.1 115 (by decide)).trans A17)
                    refine xi_virtual (mj := 32) (as := [.int a19, .int a21, .int a23, .int a25]) (st1 := [.int (-6)]) (lv0 := [(0, .ref 115), (1, .int a19), (2, .int a21), (3, .int a23), (4, .int a25)]) kc_195_704 rfl rfl rfl rfl rfl A151 (Nat.le_of_ble_eq_true rfl) (hJ _ _ _ _ (by decide)) (xm_le ml_32 rfl) rfl ?_
                    refine xi_aload_n (pc' := 1) (x := 115) kc_32_0 rfl rfl ?_
                    refine xi_iconst (pc' := 2) (v := 0) kc_32_1 rfl rfl ?_
                    refine xi_putfield (pc' := 5) (fs' := [.int 0, .int u5, .ref 116, .ref 117, .ref 118, .ref 119, .ref 120, .ref 121, .ref 122, .ref 123, .ref 124, .ref 125, .ref 126, .ref 127, .ref 128, .ref 129, .int u6, .ref 130, .int u7, .ref 131, .ref 132, .ref 133, .ref 134, .int u1, .ref 135, .ref 136, .ref 137, .ref 138, .ref 139, .ref 140, .ref 141, .ref 142, .int u9, .int u10, .int u11, .ref 143, .ref 144, .ref 145, .ref 146, .ref 147, .ref 148, .int u12, .ref 149, .ref 150, .ref 151, .int u13, .ref 152, .ref 153, .ref 154, .ref 155, .ref 156, .ref 157, .ref 158, .ref 159, .int u14, .ref 160, .int u15, .ref 161, .ref 162, .ref 163, .ref 164, .int u16, .ref 165, .ref 166]) kc_32_2 rfl rfl rfl A151 rfl rfl rfl (Nat.le_of_ble_eq_true rfl) rfl (fun hh153 eh152 => ?_)
                    have K154 := xk_pf (k := 0) (v := 0) K150 (xk_wf rfl) xD_115 A151 rfl (by first | omega | decide) (by first | omega | decide) eh152 rfl
                    refine xi_iload_n (pc' := 6) (x := a19) kc_32_5 rfl rfl ?_
                    refine xi_iconst (pc' := 7) (v := 0) kc_32_6 rfl rfl ?_
                    refine xi_iconst (pc' := 8) (v := 3) kc_32_7 rfl rfl ?_
                    refine xi_static (mj := 11) (as := [.int a19, .int 0, .int 3]) (st1 := []) (lv0 := [(0, .int a19), (1, .int 0), (2, .int 3)]) kc_32_8 rfl rfl (Nat.le_of_ble_eq_true rfl) rfl rfl (Nat.le_of_ble_eq_true rfl) (hJ _ _ _ _ (by decide)) (xm_le ml_11 rfl) rfl ?_
                    refine xi_iload_n (pc' := 1) (x := a19) kc_11_0 rfl rfl ?_
                    refine xi_iload_n (pc' := 2) (x := 0) kc_11_1 rfl rfl ?_
                    refine xi_cmf (pc' := 5) kc_11_2 rfl (xc_lt_f (X := a19.toInt) (Y := 0) rfl (by decide) (by omega)) ?_
                    refine xi_iload_n (pc' := 6) (x := a19) kc_11_5 rfl rfl ?_
                    refine xi_iload_n (pc' := 7) (x := 3) kc_11_6 rfl rfl ?_
                    refine xi_cmf (pc' := 10) kc_11_7 rfl (xc_gt_f (X := a19.toInt) (Y := 3) rfl (by decide) (by omega)) ?_
                    refine xi_iconst (pc' := 11) (v := 1) kc_11_10 rfl rfl ?_
                    refine xi_goto (pc' := 15) kc_11_11 rfl ?_
                    refine xi_ireturn kc_11_15 mr_11 rfl ?_
                    show xw J ov 99 32 (11, [(0, .ref 115), (1, .int a19), (2, .int a21), (3, .int a23), (4, .int a25)], [.int 1], hh153) _
                    refine xi_ift (pc' := 21) kc_32_11 rfl rfl ?_
                    refine xi_iload_n (pc' := 22) (x := a19) kc_32_21 rfl rfl ?_
                    refine xi_iconst (pc' := 23) (v := 3) kc_32_22 rfl rfl ?_
                    refine xi_cmf (pc' := 26) kc_32_23 rfl (xc_ne_f (X := a19.toInt) (Y := 3) rfl (by decide) (by omega)) ?_
                    refine xi_iload_n (pc' := 27) (x := a21) kc_32_26 rfl rfl ?_
                    refine xi_static (mj := 10) (as := [.int a21]) (st1 := []) (lv0 := [(0, .int a21)]) kc_32_27 rfl rfl (Nat.le_of_ble_eq_true rfl) rfl rfl (Nat.le_of_ble_eq_true rfl) (hJ _ _ _ _ (by decide)) (xm_le ml_10 rfl) rfl ?_
                    refine xi_iload_n (pc' := 1) (x := a21) kc_10_0 rfl rfl ?_
                    refine xi_iconst (pc' := 2) (v := 0) kc_10_1 rfl rfl ?_
                    refine xi_iconst (pc' := 3) (v := 5) kc_10_2 rfl rfl ?_
                    refine xi_static (mj := 11) (as := [.int a21, .int 0, .int 5]) (st1 := []) (lv0 := [(0, .int a21), (1, .int 0), (2, .int 5)]) kc_10_3 rfl rfl (Nat.le_of_ble_eq_true rfl) rfl rfl (Nat.le_of_ble_eq_true rfl) (hJ _ _ _ _ (by decide)) (xm_le ml_11 rfl) rfl ?_
                    refine xi_iload_n (pc' := 1) (x := a21) kc_11_0 rfl rfl ?_
                    refine xi_iload_n (pc' := 2) (x := 0) kc_11_1 rfl rfl ?_
                    refine xi_cmf (pc' := 5) kc_11_2 rfl (xc_lt_f (X := a21.toInt) (Y := 0) rfl (by decide) (by omega)) ?_
                    refine xi_iload_n (pc' := 6) (x := a21) kc_11_5 rfl rfl ?_
                    refine xi_iload_n (pc' := 7) (x := 5) kc_11_6 rfl rfl ?_
                    refine xi_cmf (pc' := 10) kc_11_7 rfl (xc_gt_f (X := a21.toInt) (Y := 5) rfl (by decide) (by omega)) ?_
                    refine xi_iconst (pc' := 11) (v := 1) kc_11_10 rfl rfl ?_
                    refine xi_goto (pc' := 15) kc_11_11 rfl ?_
                    refine xi_ireturn kc_11_15 mr_11 rfl ?_
                    show xw J ov 98 10 (6, [(0, .int a21)], [.int 1], hh153) _
                    refine xi_ireturn kc_10_6 mr_10 rfl ?_
                    show xw J ov 99 32 (30, [(0, .ref 115), (1, .int a19), (2, .int a21), (3, .int a23), (4, .int a25)], [.int 1], hh153) _
                    refine xi_ift (pc' := 63) kc_32_30 rfl rfl ?_
                    refine xi_iload_n (pc' := 64) (x := a23) kc_32_63 rfl rfl ?_
                    refine xi_iconst (pc' := 65) (v := 1) kc_32_64 rfl rfl ?_
                    refine xi_cmf (pc' := 68) kc_32_65 rfl (xc_lt_f (X := a23.toInt) (Y := 1) rfl (by decide) (by omega)) ?_
                    refine xi_iload (pc' := 70) (x := a25) kc_32_68 rfl rfl ?_
                    refine xi_ift (pc' := 80) kc_32_70 rfl (xc_ge_t (X := a25.toInt) (Y := 0) rfl (by decide) (by omega)) ?_
                    refine xi_iload_n (pc' := 81) (x := a23) kc_32_80 rfl rfl ?_
                    refine xi_bipush (pc' := 83) (v := 99) kc_32_81 rfl rfl ?_
                    refine xi_cmf (pc' := 86) kc_32_83 rfl (xc_gt_f (X := a23.toInt) (Y := 99) rfl (by decide) (by omega)) ?_
                    refine xi_iload (pc' := 88) (x := a25) kc_32_86 rfl rfl ?_
                    refine xi_sipush (pc' := 91) (v := 600) kc_32_88 rfl rfl ?_
                    refine xi_cmt (pc' := 103) kc_32_91 rfl (xc_gt_t (X := a25.toInt) (Y := 600) rfl (by decide) (by omega)) ?_
                    refine xi_aload_n (pc' := 104) (x := 115) kc_32_103 rfl rfl ?_
                    refine xi_bipush (pc' := 106) (v := (-6)) kc_32_104 rfl rfl ?_
                    refine xi_virtual (mj := 12) (as := [.int (-6)]) (st1 := []) (lv0 := [(0, .ref 115), (1, .int (-6))]) kc_32_106 rfl rfl rfl rfl rfl eh152.1 (Nat.le_of_ble_eq_true rfl) (hJ _ _ _ _ (by decide)) (xm_le ml_12 rfl) rfl ?_
                    refine xi_aload_n (pc' := 1) (x := 115) kc_12_0 rfl rfl ?_
                    refine xi_getfield (pc' := 4) (v := .ref 140) kc_12_1 rfl rfl rfl eh152.1 rfl ?_
                    refine xi_iload_n (pc' := 5) (x := (-6)) kc_12_4 rfl rfl ?_
                    refine xi_ineg (pc' := 6) (v := 6) kc_12_5 rfl rfl ?_
                    refine xi_dup2 (pc' := 7) kc_12_6 rfl ⟨rfl, rfl⟩ ?_
                    obtain ⟨y155, A155, hy155, ry155⟩ := xk_arr K.1 xD_140
                    obtain ⟨v156, ev156, bv156, dv156⟩ := xj_get hy155 ry155 (i := 6) (by decide) (by decide)
                    have A157 := ((eh152.2.1 140 (by decide)).trans ((eh149.2.1 140 (by decide)).trans A155))
                    refine xi_iaload (pc' := 8) (v := v156) kc_12_7 rfl A157 (by decide) rfl (xi_in (by decide) (by rw [hy155]; decide)) ev156 ?_
                    refine xi_iconst (pc' := 9) (v := 1) kc_12_8 rfl rfl ?_
                    obtain ⟨v158, ev158⟩ : ∃ q : Int32, (v156 : Int32) + 1 = q := ⟨_, rfl⟩
                    have rv158 := xc_rng v158
                    refine xi_iadd (pc' := 10) (v := v158) kc_12_9 rfl ev158 ?_
                    obtain ⟨y159, s159, hy159, ry159⟩ := xj_set (v := v158) hy155 ry155 6 (by first | omega | decide) (by first | omega | decide)
                    refine xi_iastore (pc' := 11) (x' := y159) kc_12_10 rfl A157 rfl (xi_in (by decide) (by rw [hy155]; decide)) s159 (fun hh159 eh159 => ?_)
                    have K160 := xk_pa K154 (xk_wa rfl) xD_140 hy159 ry159 eh159
                    refine xi_iload_n (pc' := 12) (x := (-6)) kc_12_11 rfl rfl ?_
                    refine xi_ireturn kc_12_12 mr_12 rfl ?_
                    show xw J ov 99 32 (109, [(0, .ref 115), (1, .int a19), (2, .int a21), (3, .int a23), (4, .int a25)], [.int (-6)], hh159) _
                    refine xi_ireturn kc_32_109 mr_32 rfl ?_
                    show xw J ov 100 195 (707, [(4, .int x4), (3, .ref 167), (2, .ref 115), (1, .ref 0), (0, .ref 1000000)], [.int (-6), .int (-6)], hh159) _
                    refine xi_cmt (pc' := 1501) kc_195_707 rfl rfl ?_
                    obtain ⟨v161, ev161⟩ : ∃ q : Int32, x4 + 6 = q := ⟨_, rfl⟩
                    have zv161 : v161.toInt = (x4.toInt + 6) := by rw [← ev161]; exact (xz_add (X := x4.toInt) (Y := 6) rfl (by decide) (by omega) (by omega)).trans (by omega)
                    refine xi_iinc (pc' := 1504) (x := x4) (v := v161) (lv' := [(4, .int v161), (3, .ref 167), (2, .ref 115), (1, .ref 0), (0, .ref 1000000)]) kc_195_1501 rfl rfl ev161 rfl (xm_lt ml_195 rfl) ?_
                    refine xi_goto (pc' := 23) kc_195_1504 rfl ?_
                    have A162 := ((eh159.2.1 1 (by decide)).trans ((eh152.2.1 1 (by decide)).trans ((eh149.2.1 1 (by decide)).trans A3)))
                    have A163 := ((eh159.2.1 115 (by decide)).trans eh152.1)
                    exact kk v161 hh159 (by omega) K160 ⟨(xGR_kept I.1 (fun c hc => ((eh159.2.1 c (Ne.symm (xk_nc hc rfl))).trans ((eh152.2.1 c (Ne.symm (xk_nc hc rfl))).trans (eh149.2.1 c (Ne.symm (xk_nc hc rfl)))))) ((eh159.2.1 125 (by decide)).trans ((eh152.2.1 125 (by decide)).trans (eh149.2.1 125 (by decide))))), (xGR_kept I.2.1 (fun c hc => ((eh159.2.1 c (Ne.symm (xk_nc hc rfl))).trans ((eh152.2.1 c (Ne.symm (xk_nc hc rfl))).trans (eh149.2.1 c (Ne.symm (xk_nc hc rfl)))))) ((eh159.2.1 127 (by decide)).trans ((eh152.2.1 127 (by decide)).trans (eh149.2.1 127 (by decide))))), ((xl_of A162 rfl).trans (xl_of A163 rfl).symm)⟩
                  · refine xi_cmf (pc' := 63) kc_116_60 rfl (xc_gt_f (X := a25.toInt) (Y := 600) rfl (by decide) (by omega)) ?_
                    refine xi_aload_n (pc' := 64) (x := 0) kc_116_63 rfl rfl ?_
                    refine xi_getfield (pc' := 67) (v := .ref 1) kc_116_64 rfl rfl rfl A28 rfl ?_
                    refine xi_getfield (pc' := 70) (v := .int u1) kc_116_67 rfl rfl rfl A3 rfl ?_
                    refine xi_bipush (pc' := 72) (v := 10) kc_116_70 rfl rfl ?_
                    by_cases c164 : u1.toInt < 10
                    · refine xi_cmt (pc' := 82) kc_116_72 rfl (xc_lt_t (X := u1.toInt) (Y := 10) rfl (by decide) (by omega)) ?_
                      refine xi_aload_n (pc' := 83) (x := 0) kc_116_82 rfl rfl ?_
                      refine xi_getfield (pc' := 86) (v := .ref 1) kc_116_83 rfl rfl rfl A28 rfl ?_
                      refine xi_iload_n (pc' := 87) (x := a19) kc_116_86 rfl rfl ?_
                      refine xi_iload_n (pc' := 88) (x := a21) kc_116_87 rfl rfl ?_
                      refine xi_iload_n (pc' := 89) (x := a23) kc_116_88 rfl rfl ?_
                      refine xi_iload (pc' := 91) (x := a25) kc_116_89 rfl rfl ?_
                      refine xi_virtual (mj := 119) (as := [.int a19, .int a21, .int a23, .int a25]) (st1 := []) (lv0 := [(0, .ref 1), (1, .int a19), (2, .int a21), (3, .int a23), (4, .int a25)]) kc_116_91 rfl rfl rfl rfl rfl A3 (Nat.le_of_ble_eq_true rfl) (hJ _ _ _ _ (by decide)) (xm_le ml_119 rfl) rfl ?_
                      refine xi_aload_n (pc' := 1) (x := 1) kc_119_0 rfl rfl ?_
                      refine xi_getfield (pc' := 4) (v := .int u1) kc_119_1 rfl rfl rfl A3 rfl ?_
                      refine xi_bipush (pc' := 6) (v := 10) kc_119_4 rfl rfl ?_
                      refine xi_cmt (pc' := 12) kc_119_6 rfl (xc_lt_t (X := u1.toInt) (Y := 10) rfl (by decide) (by omega)) ?_
                      refine xi_aload_n (pc' := 13) (x := 1) kc_119_12 rfl rfl ?_
                      refine xi_getfield (pc' := 16) (v := .ref 4) kc_119_13 rfl rfl rfl A3 rfl ?_
                      refine xi_aload_n (pc' := 17) (x := 1) kc_119_16 rfl rfl ?_
                      refine xi_getfield (pc' := 20) (v := .int u1) kc_119_17 rfl rfl rfl A3 rfl ?_
                      have A165 := xk_ex K.1 xD_4
                      obtain ⟨pt166, ept166, mpt166⟩ := xR_4 (i := u1) (by omega) (by omega)
                      refine xj_aaload (pc' := 21) (b := pt166) kc_119_20 rfl A165 rfl (xi_in (n := 10) (by omega) (by omega)) ept166 ?_
                      refine xi_astore (pc' := 23) (lv' := [(5, .ref pt166), (0, .ref 1), (1, .int a19), (2, .int a21), (3, .int a23), (4, .int a25)]) kc_119_21 rfl rfl (xm_lt ml_119 rfl) ?_
                      refine xi_aload (pc' := 25) (x := pt166) kc_119_23 rfl rfl ?_
                      refine xi_iload_n (pc' := 26) (x := a19) kc_119_25 rfl rfl ?_
                      obtain ⟨u167, u168, u169, u170, bu167, bu168, bu169, bu170, A171⟩ := xg_cause K.1 mpt166
                      refine xi_putfield (pc' := 29) (fs' := [.int a19, .int u168, .int u169, .int u170]) kc_119_26 rfl rfl rfl A171 rfl rfl rfl (Nat.le_of_ble_eq_true rfl) rfl (fun hh173 eh172 => ?_)
                      obtain ⟨ds174, Dds174, dds174_0, dds174_1, dds174_2, dds174_3⟩ := xGo_cause mpt166
                      have K175 := xk_pf (k := 0) (v := a19) K (xk_gf mpt166 rfl) Dds174 A171 dds174_0 (by first | omega | decide) (by first | omega | decide) eh172 rfl
                      refine xi_aload (pc' := 31) (x := pt166) kc_119_29 rfl rfl ?_
                      refine xi_iload_n (pc' := 32) (x := a21) kc_119_31 rfl rfl ?_
                      refine xi_putfield (pc' := 35) (fs' := [.int a19, .int a21, .int u169, .int u170]) kc_119_32 rfl rfl rfl eh172.1 rfl rfl rfl (Nat.le_of_ble_eq_true rfl) rfl (fun hh177 eh176 => ?_)
                      obtain ⟨ds178, Dds178, dds178_0, dds178_1, dds178_2, dds178_3⟩ := xGo_cause mpt166
                      have K179 := xk_pf (k := 1) (v := a21) K175 (xk_gf mpt166 rfl) Dds178 eh172.1 dds178_1 (by first | omega | decide) (by first | omega | decide) eh176 rfl
                      refine xi_aload (pc' := 37) (x := pt166) kc_119_35 rfl rfl ?_
                      refine xi_iload_n (pc' := 38) (x := a23) kc_119_37 rfl rfl ?_
                      refine xi_putfield (pc' := 41) (fs' := [.int a19, .int a21, .int a23, .int u170]) kc_119_38 rfl rfl rfl eh176.1 rfl rfl rfl (Nat.le_of_ble_eq_true rfl) rfl (fun hh181 eh180 => ?_)
                      obtain ⟨ds182, Dds182, dds182_0, dds182_1, dds182_2, dds182_3⟩ := xGo_cause mpt166
                      have K183 := xk_pf (k := 2) (v := a23) K179 (xk_gf mpt166 rfl) Dds182 eh176.1 dds182_2 (by first | omega | decide) (by first | omega | decide) eh180 rfl
                      refine xi_aload (pc' := 43) (x := pt166) kc_119_41 rfl rfl ?_
                      refine xi_iload (pc' := 45) (x := a25) kc_119_43 rfl rfl ?_
                      refine xi_putfield (pc' := 48) (fs' := [.int a19, .int a21, .int a23, .int a25]) kc_119_45 rfl rfl rfl eh180.1 rfl rfl rfl (Nat.le_of_ble_eq_true rfl) rfl (fun hh185 eh184 => ?_)
                      obtain ⟨ds186, Dds186, dds186_0, dds186_1, dds186_2, dds186_3⟩ := xGo_cause mpt166
                      have K187 := xk_pf (k := 3) (v := a25) K183 (xk_gf mpt166 rfl) Dds186 eh180.1 dds186_3 (by first | omega | decide) (by first | omega | decide) eh184 rfl
                      refine xi_aload_n (pc' := 49) (x := 1) kc_119_48 rfl rfl ?_
                      refine xi_dup (pc' := 50) kc_119_49 rfl rfl ?_
                      have A188 := ((eh184.2.1 1 (xk_nc mpt166 rfl)).trans ((eh180.2.1 1 (xk_nc mpt166 rfl)).trans ((eh176.2.1 1 (xk_nc mpt166 rfl)).trans ((eh172.2.1 1 (xk_nc mpt166 rfl)).trans A3))))
                      refine xi_getfield (pc' := 53) (v := .int u1) kc_119_50 rfl rfl rfl A188 rfl ?_
                      refine xi_iconst (pc' := 54) (v := 1) kc_119_53 rfl rfl ?_
                      obtain ⟨v189, ev189⟩ : ∃ q : Int32, u1 + 1 = q := ⟨_, rfl⟩
                      have zv189 : v189.toInt = (u1.toInt + 1) := by rw [← ev189]; exact (xz_add (X := u1.toInt) (Y := 1) rfl (by decide) (by omega) (by omega)).trans (by omega)
                      refine xi_iadd (pc' := 55) (v := v189) kc_119_54 rfl ev189 ?_
                      refine xi_putfield (pc' := 58) (fs' := [.ref 2, .ref 3, .ref 4, .ref 5, .ref 8, .int v189, .int u2]) kc_119_55 rfl rfl rfl A188 rfl rfl rfl (Nat.le_of_ble_eq_true rfl) rfl (fun hh191 eh190 => ?_)
                      have K192 := xk_pf (k := 5) (v := v189) K187 (xk_wf rfl) xD_1 A188 rfl (by first | omega | decide) (by first | omega | decide) eh190 rfl
                      refine xi_aload_n (pc' := 59) (x := 1) kc_119_58 rfl rfl ?_
                      refine xi_getfield (pc' := 62) (v := .int v189) kc_119_59 rfl rfl rfl eh190.1 rfl ?_
                      refine xi_iconst (pc' := 63) (v := 1) kc_119_62 rfl rfl ?_
                      obtain ⟨v193, ev193⟩ : ∃ q : Int32, v189 - 1 = q := ⟨_, rfl⟩
                      have zv193 : v193.toInt = u1.toInt := by rw [← ev193]; exact (xz_sub (X := (u1.toInt + 1)) (Y := 1) zv189 (by decide) (by omega) (by omega)).trans (by omega)
                      refine xi_isub (pc' := 64) (v := v193) kc_119_63 rfl ev193 ?_
                      refine xi_ireturn kc_119_64 mr_119 rfl ?_
                      show xw J ov 99 116 (94, [(0, .ref 0), (1, .int a19), (2, .int a21), (3, .int a23), (4, .int a25)], [.int v193], hh191) _
                      refine xi_ireturn kc_116_94 mr_116 rfl ?_
                      show xw J ov 100 195 (679, [(4, .int x4), (3, .ref 167), (2, .ref 115), (1, .ref 0), (0, .ref 1000000)], [.int v193], hh191) _
                      refine xi_aload_n (pc' := 680) (x := 115) kc_195_679 rfl rfl ?_
                      refine xi_aload_n (pc' := 681) (x := 1000000) kc_195_680 rfl rfl ?_
                      refine xi_iload (pc' := 683) (x := x4) kc_195_681 rfl rfl ?_
                      refine xi_iconst (pc' := 684) (v := 1) kc_195_683 rfl rfl ?_
                      refine xi_iadd (pc' := 685) (v := v18) kc_195_684 rfl ev18 ?_
                      refine xi_ialoadO (pc' := 686) (v := a19) kc_195_685 rfl (by decide) hov0 (xi_in (by omega) (by omega)) ea19 ?_
                      refine xi_aload_n (pc' := 687) (x := 1000000) kc_195_686 rfl rfl ?_
                      refine xi_iload (pc' := 689) (x := x4) kc_195_687 rfl rfl ?_
                      refine xi_iconst (pc' := 690) (v := 2) kc_195_689 rfl rfl ?_
                      refine xi_iadd (pc' := 691) (v := v20) kc_195_690 rfl ev20 ?_
                      refine xi_ialoadO (pc' := 692) (v := a21) kc_195_691 rfl (by decide) hov0 (xi_in (by omega) (by omega)) ea21 ?_
                      refine xi_aload_n (pc' := 693) (x := 1000000) kc_195_692 rfl rfl ?_
                      refine xi_iload (pc' := 695) (x := x4) kc_195_693 rfl rfl ?_
                      refine xi_iconst (pc' := 696) (v := 3) kc_195_695 rfl rfl ?_
                      refine xi_iadd (pc' := 697) (v := v22) kc_195_696 rfl ev22 ?_
                      refine xi_ialoadO (pc' := 698) (v := a23) kc_195_697 rfl (by decide) hov0 (xi_in (by omega) (by omega)) ea23 ?_
                      refine xi_aload_n (pc' := 699) (x := 1000000) kc_195_698 rfl rfl ?_
                      refine xi_iload (pc' := 701) (x := x4) kc_195_699 rfl rfl ?_
                      refine xi_iconst (pc' := 702) (v := 4) kc_195_701 rfl rfl ?_
                      refine xi_iadd (pc' := 703) (v := v24) kc_195_702 rfl ev24 ?_
                      refine xi_ialoadO (pc' := 704) (v := a25) kc_195_703 rfl (by decide) hov0 (xi_in (by omega) (by omega)) ea25 ?_
                      have A194 := ((eh190.2.1 115 (by decide)).trans ((eh184.2.1 115 (xk_nc mpt166 rfl)).trans ((eh180.2.1 115 (xk_nc mpt166 rfl)).trans ((eh176.2.1 115 (xk_nc mpt166 rfl)).trans ((eh172.2.1 115 (xk_nc mpt166 rfl)).trans A17)))))
                      refine xi_virtual (mj := 32) (as := [.int a19, .int a21, .int a23, .int a25]) (st1 := [.int v193]) (lv0 := [(0, .ref 115), (1, .int a19), (2, .int a21), (3, .int a23), (4, .int a25)]) kc_195_704 rfl rfl rfl rfl rfl A194 (Nat.le_of_ble_eq_true rfl) (hJ _ _ _ _ (by decide)) (xm_le ml_32 rfl) rfl ?_
                      refine xi_aload_n (pc' := 1) (x := 115) kc_32_0 rfl rfl ?_
                      refine xi_iconst (pc' := 2) (v := 0) kc_32_1 rfl rfl ?_
                      refine xi_putfield (pc' := 5) (fs' := [.int 0, .int u5, .ref 116, .ref 117, .ref 118, .ref 119, .ref 120, .ref 121, .ref 122, .ref 123, .ref 124, .ref 125, .ref 126, .ref 127, .ref 128, .ref 129, .int u6, .ref 130, .int u7, .ref 131, .ref 132, .ref 133, .ref 134, .int u1, .ref 135, .ref 136, .ref 137, .ref 138, .ref 139, .ref 140, .ref 141, .ref 142, .int u9, .int u10, .int u11, .ref 143, .ref 144, .ref 145, .ref 146, .ref 147, .ref 148, .int u12, .ref 149, .ref 150, .ref 151, .int u13, .ref 152, .ref 153, .ref 154, .ref 155, .ref 156, .ref 157, .ref 158, .ref 159, .int u14, .ref 160, .int u15, .ref 161, .ref 162, .ref 163, .ref 164, .int u16, .ref 165, .ref 166]) kc_32_2 rfl rfl rfl A194 rfl rfl rfl (Nat.le_of_ble_eq_true rfl) rfl (fun hh196 eh195 => ?_)
                      have K197 := xk_pf (k := 0) (v := 0) K192 (xk_wf rfl) xD_115 A194 rfl (by first | omega | decide) (by first | omega | decide) eh195 rfl
                      refine xi_iload_n (pc' := 6) (x := a19) kc_32_5 rfl rfl ?_
                      refine xi_iconst (pc' := 7) (v := 0) kc_32_6 rfl rfl ?_
                      refine xi_iconst (pc' := 8) (v := 3) kc_32_7 rfl rfl ?_
                      refine xi_static (mj := 11) (as := [.int a19, .int 0, .int 3]) (st1 := []) (lv0 := [(0, .int a19), (1, .int 0), (2, .int 3)]) kc_32_8 rfl rfl (Nat.le_of_ble_eq_true rfl) rfl rfl (Nat.le_of_ble_eq_true rfl) (hJ _ _ _ _ (by decide)) (xm_le ml_11 rfl) rfl ?_
                      refine xi_iload_n (pc' := 1) (x := a19) kc_11_0 rfl rfl ?_
                      refine xi_iload_n (pc' := 2) (x := 0) kc_11_1 rfl rfl ?_
                      refine xi_cmf (pc' := 5) kc_11_2 rfl (xc_lt_f (X := a19.toInt) (Y := 0) rfl (by decide) (by omega)) ?_
                      refine xi_iload_n (pc' := 6) (x := a19) kc_11_5 rfl rfl ?_
                      refine xi_iload_n (pc' := 7) (x := 3) kc_11_6 rfl rfl ?_
                      refine xi_cmf (pc' := 10) kc_11_7 rfl (xc_gt_f (X := a19.toInt) (Y := 3) rfl (by decide) (by omega)) ?_
                      refine xi_iconst (pc' := 11) (v := 1) kc_11_10 rfl rfl ?_
                      refine xi_goto (pc' := 15) kc_11_11 rfl ?_
                      refine xi_ireturn kc_11_15 mr_11 rfl ?_
                      show xw J ov 99 32 (11, [(0, .ref 115), (1, .int a19), (2, .int a21), (3, .int a23), (4, .int a25)], [.int 1], hh196) _
                      refine xi_ift (pc' := 21) kc_32_11 rfl rfl ?_
                      refine xi_iload_n (pc' := 22) (x := a19) kc_32_21 rfl rfl ?_
                      refine xi_iconst (pc' := 23) (v := 3) kc_32_22 rfl rfl ?_
                      refine xi_cmf (pc' := 26) kc_32_23 rfl (xc_ne_f (X := a19.toInt) (Y := 3) rfl (by decide) (by omega)) ?_
                      refine xi_iload_n (pc' := 27) (x := a21) kc_32_26 rfl rfl ?_
                      refine xi_static (mj := 10) (as := [.int a21]) (st1 := []) (lv0 := [(0, .int a21)]) kc_32_27 rfl rfl (Nat.le_of_ble_eq_true rfl) rfl rfl (Nat.le_of_ble_eq_true rfl) (hJ _ _ _ _ (by decide)) (xm_le ml_10 rfl) rfl ?_
                      refine xi_iload_n (pc' := 1) (x := a21) kc_10_0 rfl rfl ?_
                      refine xi_iconst (pc' := 2) (v := 0) kc_10_1 rfl rfl ?_
                      refine xi_iconst (pc' := 3) (v := 5) kc_10_2 rfl rfl ?_
                      refine xi_static (mj := 11) (as := [.int a21, .int 0, .int 5]) (st1 := []) (lv0 := [(0, .int a21), (1, .int 0), (2, .int 5)]) kc_10_3 rfl rfl (Nat.le_of_ble_eq_true rfl) rfl rfl (Nat.le_of_ble_eq_true rfl) (hJ _ _ _ _ (by decide)) (xm_le ml_11 rfl) rfl ?_
                      refine xi_iload_n (pc' := 1) (x := a21) kc_11_0 rfl rfl ?_
                      refine xi_iload_n (pc' := 2) (x := 0) kc_11_1 rfl rfl ?_
                      refine xi_cmf (pc' := 5) kc_11_2 rfl (xc_lt_f (X := a21.toInt) (Y := 0) rfl (by decide) (by omega)) ?_
                      refine xi_iload_n (pc' := 6) (x := a21) kc_11_5 rfl rfl ?_
                      refine xi_iload_n (pc' := 7) (x := 5) kc_11_6 rfl rfl ?_
                      refine xi_cmf (pc' := 10) kc_11_7 rfl (xc_gt_f (X := a21.toInt) (Y := 5) rfl (by decide) (by omega)) ?_
                      refine xi_iconst (pc' := 11) (v := 1) kc_11_10 rfl rfl ?_
                      refine xi_goto (pc' := 15) kc_11_11 rfl ?_
                      refine xi_ireturn kc_11_15 mr_11 rfl ?_
                      show xw J ov 98 10 (6, [(0, .int a21)], [.int 1], hh196) _
                      refine xi_ireturn kc_10_6 mr_10 rfl ?_
                      show xw J ov 99 32 (30, [(0, .ref 115), (1, .int a19), (2, .int a21), (3, .int a23), (4, .int a25)], [.int 1], hh196) _
                      refine xi_ift (pc' := 63) kc_32_30 rfl rfl ?_
                      refine xi_iload_n (pc' := 64) (x := a23) kc_32_63 rfl rfl ?_
                      refine xi_iconst (pc' := 65) (v := 1) kc_32_64 rfl rfl ?_
                      refine xi_cmf (pc' := 68) kc_32_65 rfl (xc_lt_f (X := a23.toInt) (Y := 1) rfl (by decide) (by omega)) ?_
                      refine xi_iload (pc' := 70) (x := a25) kc_32_68 rfl rfl ?_
                      refine xi_ift (pc' := 80) kc_32_70 rfl (xc_ge_t (X := a25.toInt) (Y := 0) rfl (by decide) (by omega)) ?_
                      refine xi_iload_n (pc' := 81) (x := a23) kc_32_80 rfl rfl ?_
                      refine xi_bipush (pc' := 83) (v := 99) kc_32_81 rfl rfl ?_
                      refine xi_cmf (pc' := 86) kc_32_83 rfl (xc_gt_f (X := a23.toInt) (Y := 99) rfl (by decide) (by omega)) ?_
                      refine xi_iload (pc' := 88) (x := a25) kc_32_86 rfl rfl ?_
                      refine xi_sipush (pc' := 91) (v := 600) kc_32_88 rfl rfl ?_
                      refine xi_cmf (pc' := 94) kc_32_91 rfl (xc_gt_f (X := a25.toInt) (Y := 600) rfl (by decide) (by omega)) ?_
                      refine xi_aload_n (pc' := 95) (x := 115) kc_32_94 rfl rfl ?_
                      refine xi_getfield (pc' := 98) (v := .int u1) kc_32_95 rfl rfl rfl eh195.1 rfl ?_
                      refine xi_bipush (pc' := 100) (v := 10) kc_32_98 rfl rfl ?_
                      refine xi_cmt (pc' := 110) kc_32_100 rfl (xc_ne_t (X := u1.toInt) (Y := 10) rfl (by decide) (by omega)) ?_
                      refine xi_aload_n (pc' := 111) (x := 115) kc_32_110 rfl rfl ?_
                      refine xi_getfield (pc' := 114) (v := .ref 135) kc_32_111 rfl rfl rfl eh195.1 rfl ?_
                      refine xi_aload_n (pc' := 115) (x := 115) kc_32_114 rfl rfl ?_
                      refine xi_getfield (pc' := 118) (v := .int u1) kc_32_115 rfl rfl rfl eh195.1 rfl ?_
                      refine xi_iload_n (pc' := 119) (x := a19) kc_32_118 rfl rfl ?_
                      obtain ⟨y198, A198, hy198, ry198⟩ := xk_arr K.1 xD_135
                      have A199 := ((eh195.2.1 135 (by decide)).trans ((eh190.2.1 135 (by decide)).trans ((eh184.2.1 135 (xk_nc mpt166 rfl)).trans ((eh180.2.1 135 (xk_nc mpt166 rfl)).trans ((eh176.2.1 135 (xk_nc mpt166 rfl)).trans ((eh172.2.1 135 (xk_nc mpt166 rfl)).trans A198))))))
                      obtain ⟨y200, s200, hy200, ry200⟩ := xj_set (v := a19) hy198 ry198 u1 (by first | omega | decide) (by first | omega | decide)
                      refine xi_iastore (pc' := 120) (x' := y200) kc_32_119 rfl A199 rfl (xi_in (by omega) (by rw [hy198]; omega)) s200 (fun hh200 eh200 => ?_)
                      have K201 := xk_pa K197 (xk_wa rfl) xD_135 hy200 ry200 eh200
                      refine xi_aload_n (pc' := 121) (x := 115) kc_32_120 rfl rfl ?_
                      have A202 := ((eh200.2.1 115 (by decide)).trans eh195.1)
                      refine xi_getfield (pc' := 124) (v := .ref 136) kc_32_121 rfl rfl rfl A202 rfl ?_
                      refine xi_aload_n (pc' := 125) (x := 115) kc_32_124 rfl rfl ?_
                      refine xi_getfield (pc' := 128) (v := .int u1) kc_32_125 rfl rfl rfl A202 rfl ?_
                      refine xi_iload_n (pc' := 129) (x := a21) kc_32_128 rfl rfl ?_
                      obtain ⟨y203, A203, hy203, ry203⟩ := xk_arr K.1 xD_136
                      have A204 := ((eh200.2.1 136 (by decide)).trans ((eh195.2.1 136 (by decide)).trans ((eh190.2.1 136 (by decide)).trans ((eh184.2.1 136 (xk_nc mpt166 rfl)).trans ((eh180.2.1 136 (xk_nc mpt166 rfl)).trans ((eh176.2.1 136 (xk_nc mpt166 rfl)).trans ((eh172.2.1 136 (xk_nc mpt166 rfl)).trans A203)))))))
                      obtain ⟨y205, s205, hy205, ry205⟩ := xj_set (v := a21) hy203 ry203 u1 (by first | omega | decide) (by first | omega | decide)
                      refine xi_iastore (pc' := 130) (x' := y205) kc_32_129 rfl A204 rfl (xi_in (by omega) (by rw [hy203]; omega)) s205 (fun hh205 eh205 => ?_)
                      have K206 := xk_pa K201 (xk_wa rfl) xD_136 hy205 ry205 eh205
                      refine xi_aload_n (pc' := 131) (x := 115) kc_32_130 rfl rfl ?_
                      have A207 := ((eh205.2.1 115 (by decide)).trans A202)
                      refine xi_getfield (pc' := 134) (v := .ref 137) kc_32_131 rfl rfl rfl A207 rfl ?_
                      refine xi_aload_n (pc' := 135) (x := 115) kc_32_134 rfl rfl ?_
                      refine xi_getfield (pc' := 138) (v := .int u1) kc_32_135 rfl rfl rfl A207 rfl ?_
                      refine xi_iload_n (pc' := 139) (x := a23) kc_32_138 rfl rfl ?_
                      obtain ⟨y208, A208, hy208, ry208⟩ := xk_arr K.1 xD_137
                      have A209 := ((eh205.2.1 137 (by decide)).trans ((eh200.2.1 137 (by decide)).trans ((eh195.2.1 137 (by decide)).trans ((eh190.2.1 137 (by decide)).trans ((eh184.2.1 137 (xk_nc mpt166 rfl)).trans ((eh180.2.1 137 (xk_nc mpt166 rfl)).trans ((eh176.2.1 137 (xk_nc mpt166 rfl)).trans ((eh172.2.1 137 (xk_nc mpt166 rfl)).trans A208))))))))
                      obtain ⟨y210, s210, hy210, ry210⟩ := xj_set (v := a23) hy208 ry208 u1 (by first | omega | decide) (by first | omega | decide)
                      refine xi_iastore (pc' := 140) (x' := y210) kc_32_139 rfl A209 rfl (xi_in (by omega) (by rw [hy208]; omega)) s210 (fun hh210 eh210 => ?_)
                      have K211 := xk_pa K206 (xk_wa rfl) xD_137 hy210 ry210 eh210
                      refine xi_aload_n (pc' := 141) (x := 115) kc_32_140 rfl rfl ?_
                      have A212 := ((eh210.2.1 115 (by decide)).trans A207)
                      refine xi_getfield (pc' := 144) (v := .ref 138) kc_32_141 rfl rfl rfl A212 rfl ?_
                      refine xi_aload_n (pc' := 145) (x := 115) kc_32_144 rfl rfl ?_
                      refine xi_getfield (pc' := 148) (v := .int u1) kc_32_145 rfl rfl rfl A212 rfl ?_
                      refine xi_iload (pc' := 150) (x := a25) kc_32_148 rfl rfl ?_
                      obtain ⟨y213, A213, hy213, ry213⟩ := xk_arr K.1 xD_138
                      have A214 := ((eh210.2.1 138 (by decide)).trans ((eh205.2.1 138 (by decide)).trans ((eh200.2.1 138 (by decide)).trans ((eh195.2.1 138 (by decide)).trans ((eh190.2.1 138 (by decide)).trans ((eh184.2.1 138 (xk_nc mpt166 rfl)).trans ((eh180.2.1 138 (xk_nc mpt166 rfl)).trans ((eh176.2.1 138 (xk_nc mpt166 rfl)).trans ((eh172.2.1 138 (xk_nc mpt166 rfl)).trans A213)))))))))
                      obtain ⟨y215, s215, hy215, ry215⟩ := xj_set (v := a25) hy213 ry213 u1 (by first | omega | decide) (by first | omega | decide)
                      refine xi_iastore (pc' := 151) (x' := y215) kc_32_150 rfl A214 rfl (xi_in (by omega) (by rw [hy213]; omega)) s215 (fun hh215 eh215 => ?_)
                      have K216 := xk_pa K211 (xk_wa rfl) xD_138 hy215 ry215 eh215
                      refine xi_aload_n (pc' := 152) (x := 115) kc_32_151 rfl rfl ?_
                      have A217 := ((eh215.2.1 115 (by decide)).trans A212)
                      refine xi_getfield (pc' := 155) (v := .ref 139) kc_32_152 rfl rfl rfl A217 rfl ?_
                      refine xi_aload_n (pc' := 156) (x := 115) kc_32_155 rfl rfl ?_
                      refine xi_getfield (pc' := 159) (v := .int u1) kc_32_156 rfl rfl rfl A217 rfl ?_
                      refine xi_iconst (pc' := 160) (v := 0) kc_32_159 rfl rfl ?_
                      obtain ⟨y218, A218, hy218, ry218⟩ := xk_arr K.1 xD_139
                      have A219 := ((eh215.2.1 139 (by decide)).trans ((eh210.2.1 139 (by decide)).trans ((eh205.2.1 139 (by decide)).trans ((eh200.2.1 139 (by decide)).trans ((eh195.2.1 139 (by decide)).trans ((eh190.2.1 139 (by decide)).trans ((eh184.2.1 139 (xk_nc mpt166 rfl)).trans ((eh180.2.1 139 (xk_nc mpt166 rfl)).trans ((eh176.2.1 139 (xk_nc mpt166 rfl)).trans ((eh172.2.1 139 (xk_nc mpt166 rfl)).trans A218))))))))))
                      obtain ⟨y220, s220, hy220, ry220⟩ := xj_set (v := 0) hy218 ry218 u1 (by first | omega | decide) (by first | omega | decide)
                      refine xi_bastore (pc' := 161) (x' := y220) kc_32_160 rfl A219 rfl (xi_in (by omega) (by rw [hy218]; omega)) s220 (fun hh220 eh220 => ?_)
                      have K221 := xk_pa K216 (xk_wa rfl) xD_139 hy220 ry220 eh220
                      refine xi_aload_n (pc' := 162) (x := 115) kc_32_161 rfl rfl ?_
                      refine xi_dup (pc' := 163) kc_32_162 rfl rfl ?_
                      have A222 := ((eh220.2.1 115 (by decide)).trans A217)
                      refine xi_getfield (pc' := 166) (v := .int u1) kc_32_163 rfl rfl rfl A222 rfl ?_
                      refine xi_iconst (pc' := 167) (v := 1) kc_32_166 rfl rfl ?_
                      refine xi_iadd (pc' := 168) (v := v189) kc_32_167 rfl ev189 ?_
                      refine xi_putfield (pc' := 171) (fs' := [.int 0, .int u5, .ref 116, .ref 117, .ref 118, .ref 119, .ref 120, .ref 121, .ref 122, .ref 123, .ref 124, .ref 125, .ref 126, .ref 127, .ref 128, .ref 129, .int u6, .ref 130, .int u7, .ref 131, .ref 132, .ref 133, .ref 134, .int v189, .ref 135, .ref 136, .ref 137, .ref 138, .ref 139, .ref 140, .ref 141, .ref 142, .int u9, .int u10, .int u11, .ref 143, .ref 144, .ref 145, .ref 146, .ref 147, .ref 148, .int u12, .ref 149, .ref 150, .ref 151, .int u13, .ref 152, .ref 153, .ref 154, .ref 155, .ref 156, .ref 157, .ref 158, .ref 159, .int u14, .ref 160, .int u15, .ref 161, .ref 162, .ref 163, .ref 164, .int u16, .ref 165, .ref 166]) kc_32_168 rfl rfl rfl A222 rfl rfl rfl (Nat.le_of_ble_eq_true rfl) rfl (fun hh224 eh223 => ?_)
                      have K225 := xk_pf (k := 23) (v := v189) K221 (xk_wf rfl) xD_115 A222 rfl (by first | omega | decide) (by first | omega | decide) eh223 rfl
                      refine xi_aload_n (pc' := 172) (x := 115) kc_32_171 rfl rfl ?_
                      refine xi_iconst (pc' := 173) (v := 0) kc_32_172 rfl rfl ?_
                      refine xi_putfield (pc' := 176) (fs' := [.int 0, .int u5, .ref 116, .ref 117, .ref 118, .ref 119, .ref 120, .ref 121, .ref 122, .ref 123, .ref 124, .ref 125, .ref 126, .ref 127, .ref 128, .ref 129, .int u6, .ref 130, .int u7, .ref 131, .ref 132, .ref 133, .ref 134, .int v189, .ref 135, .ref 136, .ref 137, .ref 138, .ref 139, .ref 140, .ref 141, .ref 142, .int u9, .int u10, .int u11, .ref 143, .ref 144, .ref 145, .ref 146, .ref 147, .ref 148, .int 0, .ref 149, .ref 150, .ref 151, .int u13, .ref 152, .ref 153, .ref 154, .ref 155, .ref 156, .ref 157, .ref 158, .ref 159, .int u14, .ref 160, .int u15, .ref 161, .ref 162, .ref 163, .ref 164, .int u16, .ref 165, .ref 166]) kc_32_173 rfl rfl rfl eh223.1 rfl rfl rfl (Nat.le_of_ble_eq_true rfl) rfl (fun hh227 eh226 => ?_)
                      have K228 := xk_pf (k := 41) (v := 0) K225 (xk_wf rfl) xD_115 eh223.1 rfl (by first | omega | decide) (by first | omega | decide) eh226 rfl
                      refine xi_aload_n (pc' := 177) (x := 115) kc_32_176 rfl rfl ?_
                      refine xi_getfield (pc' := 180) (v := .int v189) kc_32_177 rfl rfl rfl eh226.1 rfl ?_
                      refine xi_iconst (pc' := 181) (v := 1) kc_32_180 rfl rfl ?_
                      refine xi_isub (pc' := 182) (v := v193) kc_32_181 rfl ev193 ?_
                      refine xi_ireturn kc_32_182 mr_32 rfl ?_
                      show xw J ov 100 195 (707, [(4, .int x4), (3, .ref 167), (2, .ref 115), (1, .ref 0), (0, .ref 1000000)], [.int v193, .int v193], hh227) _
                      refine xi_cmt (pc' := 1501) kc_195_707 rfl (xc_eq_t (X := u1.toInt) (Y := u1.toInt) zv193 zv193 (by omega)) ?_
                      obtain ⟨v229, ev229⟩ : ∃ q : Int32, x4 + 6 = q := ⟨_, rfl⟩
                      have zv229 : v229.toInt = (x4.toInt + 6) := by rw [← ev229]; exact (xz_add (X := x4.toInt) (Y := 6) rfl (by decide) (by omega) (by omega)).trans (by omega)
                      refine xi_iinc (pc' := 1504) (x := x4) (v := v229) (lv' := [(4, .int v229), (3, .ref 167), (2, .ref 115), (1, .ref 0), (0, .ref 1000000)]) kc_195_1501 rfl rfl ev229 rfl (xm_lt ml_195 rfl) ?_
                      refine xi_goto (pc' := 23) kc_195_1504 rfl ?_
                      have A230 := ((eh226.2.1 1 (by decide)).trans ((eh223.2.1 1 (by decide)).trans ((eh220.2.1 1 (by decide)).trans ((eh215.2.1 1 (by decide)).trans ((eh210.2.1 1 (by decide)).trans ((eh205.2.1 1 (by decide)).trans ((eh200.2.1 1 (by decide)).trans ((eh195.2.1 1 (by decide)).trans eh190.1))))))))
                      exact kk v229 hh227 (by omega) K228 ⟨(xGR_kept I.1 (fun c hc => ((eh226.2.1 c (Ne.symm (xk_nc hc rfl))).trans ((eh223.2.1 c (Ne.symm (xk_nc hc rfl))).trans ((eh220.2.1 c (Ne.symm (xk_nc hc rfl))).trans ((eh215.2.1 c (Ne.symm (xk_nc hc rfl))).trans ((eh210.2.1 c (Ne.symm (xk_nc hc rfl))).trans ((eh205.2.1 c (Ne.symm (xk_nc hc rfl))).trans ((eh200.2.1 c (Ne.symm (xk_nc hc rfl))).trans ((eh195.2.1 c (Ne.symm (xk_nc hc rfl))).trans ((eh190.2.1 c (Ne.symm (xk_nc hc rfl))).trans ((eh184.2.1 c (xk_nn hc mpt166 rfl)).trans ((eh180.2.1 c (xk_nn hc mpt166 rfl)).trans ((eh176.2.1 c (xk_nn hc mpt166 rfl)).trans (eh172.2.1 c (xk_nn hc mpt166 rfl))))))))))))))) ((eh226.2.1 125 (by decide)).trans ((eh223.2.1 125 (by decide)).trans ((eh220.2.1 125 (by decide)).trans ((eh215.2.1 125 (by decide)).trans ((eh210.2.1 125 (by decide)).trans ((eh205.2.1 125 (by decide)).trans ((eh200.2.1 125 (by decide)).trans ((eh195.2.1 125 (by decide)).trans ((eh190.2.1 125 (by decide)).trans ((eh184.2.1 125 (xk_nc mpt166 rfl)).trans ((eh180.2.1 125 (xk_nc mpt166 rfl)).trans ((eh176.2.1 125 (xk_nc mpt166 rfl)).trans (eh172.2.1 125 (xk_nc mpt166 rfl))))))))))))))), (xGR_kept I.2.1 (fun c hc => ((eh226.2.1 c (Ne.symm (xk_nc hc rfl))).trans ((eh223.2.1 c (Ne.symm (xk_nc hc rfl))).trans ((eh220.2.1 c (Ne.symm (xk_nc hc rfl))).trans ((eh215.2.1 c (Ne.symm (xk_nc hc rfl))).trans ((eh210.2.1 c (Ne.symm (xk_nc hc rfl))).trans ((eh205.2.1 c (Ne.symm (xk_nc hc rfl))).trans ((eh200.2.1 c (Ne.symm (xk_nc hc rfl))).trans ((eh195.2.1 c (Ne.symm (xk_nc hc rfl))).trans ((eh190.2.1 c (Ne.symm (xk_nc hc rfl))).trans ((eh184.2.1 c (xk_nn hc mpt166 rfl)).trans ((eh180.2.1 c (xk_nn hc mpt166 rfl)).trans ((eh176.2.1 c (xk_nn hc mpt166 rfl)).trans (eh172.2.1 c (xk_nn hc mpt166 rfl))))))))))))))) ((eh226.2.1 127 (by decide)).trans ((eh223.2.1 127 (by decide)).trans ((eh220.2.1 127 (by decide)).trans ((eh215.2.1 127 (by decide)).trans ((eh210.2.1 127 (by decide)).trans ((eh205.2.1 127 (by decide)).trans ((eh200.2.1 127 (by decide)).trans ((eh195.2.1 127 (by decide)).trans ((eh190.2.1 127 (by decide)).trans ((eh184.2.1 127 (xk_nc mpt166 rfl)).trans ((eh180.2.1 127 (xk_nc mpt166 rfl)).trans ((eh176.2.1 127 (xk_nc mpt166 rfl)).trans (eh172.2.1 127 (xk_nc mpt166 rfl))))))))))))))), ((xl_of A230 rfl).trans (xl_of eh226.1 rfl).symm)⟩
                    · refine xi_cmf (pc' := 75) kc_116_72 rfl (xc_lt_f (X := u1.toInt) (Y := 10) rfl (by decide) (by omega)) ?_
                      refine xi_aload_n (pc' := 76) (x := 0) kc_116_75 rfl rfl ?_
                      refine xi_bipush (pc' := 78) (v := (-6)) kc_116_76 rfl rfl ?_
                      refine xi_virtual (mj := 90) (as := [.int (-6)]) (st1 := []) (lv0 := [(0, .ref 0), (1, .int (-6))]) kc_116_78 rfl rfl rfl rfl rfl A28 (Nat.le_of_ble_eq_true rfl) (hJ _ _ _ _ (by decide)) (xm_le ml_90 rfl) rfl ?_
                      refine xi_iload_n (pc' := 1) (x := (-6)) kc_90_0 rfl rfl ?_
                      refine xi_ineg (pc' := 2) (v := 6) kc_90_1 rfl rfl ?_
                      refine xi_istore_n (pc' := 3) (lv' := [(2, .int 6), (0, .ref 0), (1, .int (-6))]) kc_90_2 rfl rfl (xm_lt ml_90 rfl) ?_
                      refine xi_iload_n (pc' := 4) (x := 6) kc_90_3 rfl rfl ?_
                      refine xi_iff (pc' := 7) kc_90_4 rfl rfl ?_
                      refine xi_iload_n (pc' := 8) (x := 6) kc_90_7 rfl rfl ?_
                      refine xi_aload_n (pc' := 9) (x := 0) kc_90_8 rfl rfl ?_
                      refine xi_getfield (pc' := 12) (v := .ref 94) kc_90_9 rfl rfl rfl A28 rfl ?_
                      obtain ⟨y231, A231, hy231, ry231⟩ := xk_arr K.1 xD_94
                      refine xi_arraylength (pc' := 13) (n := 7) (v := 7) kc_90_12 rfl (xl_lenI (by decide) (by decide) A231 hy231) rfl ?_
                      refine xi_cmf (pc' := 16) kc_90_13 rfl rfl ?_
                      refine xi_aload_n (pc' := 17) (x := 0) kc_90_16 rfl rfl ?_
                      refine xi_getfield (pc' := 20) (v := .ref 94) kc_90_17 rfl rfl rfl A28 rfl ?_
                      refine xi_iload_n (pc' := 21) (x := 6) kc_90_20 rfl rfl ?_
                      refine xi_dup2 (pc' := 22) kc_90_21 rfl ⟨rfl, rfl⟩ ?_
                      obtain ⟨v232, ev232, bv232, dv232⟩ := xj_get hy231 ry231 (i := 6) (by decide) (by decide)
                      refine xi_iaload (pc' := 23) (v := v232) kc_90_22 rfl A231 (by decide) rfl (xi_in (by decide) (by rw [hy231]; decide)) ev232 ?_
                      refine xi_iconst (pc' := 24) (v := 1) kc_90_23 rfl rfl ?_
                      obtain ⟨v233, ev233⟩ : ∃ q : Int32, (v232 : Int32) + 1 = q := ⟨_, rfl⟩
                      have rv233 := xc_rng v233
                      refine xi_iadd (pc' := 25) (v := v233) kc_90_24 rfl ev233 ?_
                      obtain ⟨y234, s234, hy234, ry234⟩ := xj_set (v := v233) hy231 ry231 6 (by first | omega | decide) (by first | omega | decide)
                      refine xi_iastore (pc' := 26) (x' := y234) kc_90_25 rfl A231 rfl (xi_in (by decide) (by rw [hy231]; decide)) s234 (fun hh234 eh234 => ?_)
                      have K235 := xk_pa K (xk_wa rfl) xD_94 hy234 ry234 eh234
                      refine xi_iload_n (pc' := 27) (x := (-6)) kc_90_26 rfl rfl ?_
                      refine xi_ireturn kc_90_27 mr_90 rfl ?_
                      show xw J ov 99 116 (81, [(0, .ref 0), (1, .int a19), (2, .int a21), (3, .int a23), (4, .int a25)], [.int (-6)], hh234) _
                      refine xi_ireturn kc_116_81 mr_116 rfl ?_
                      show xw J ov 100 195 (679, [(4, .int x4), (3, .ref 167), (2, .ref 115), (1, .ref 0), (0, .ref 1000000)], [.int (-6)], hh234) _
                      refine xi_aload_n (pc' := 680) (x := 115) kc_195_679 rfl rfl ?_
                      refine xi_aload_n (pc' := 681) (x := 1000000) kc_195_680 rfl rfl ?_
                      refine xi_iload (pc' := 683) (x := x4) kc_195_681 rfl rfl ?_
                      refine xi_iconst (pc' := 684) (v := 1) kc_195_683 rfl rfl ?_
                      refine xi_iadd (pc' := 685) (v := v18) kc_195_684 rfl ev18 ?_
                      refine xi_ialoadO (pc' := 686) (v := a19) kc_195_685 rfl (by decide) hov0 (xi_in (by omega) (by omega)) ea19 ?_
                      refine xi_aload_n (pc' := 687) (x := 1000000) kc_195_686 rfl rfl ?_
                      refine xi_iload (pc' := 689) (x := x4) kc_195_687 rfl rfl ?_
                      refine xi_iconst (pc' := 690) (v := 2) kc_195_689 rfl rfl ?_
                      refine xi_iadd (pc' := 691) (v := v20) kc_195_690 rfl ev20 ?_
                      refine xi_ialoadO (pc' := 692) (v := a21) kc_195_691 rfl (by decide) hov0 (xi_in (by omega) (by omega)) ea21 ?_
                      refine xi_aload_n (pc' := 693) (x := 1000000) kc_195_692 rfl rfl ?_
                      refine xi_iload (pc' := 695) (x := x4) kc_195_693 rfl rfl ?_
                      refine xi_iconst (pc' := 696) (v := 3) kc_195_695 rfl rfl ?_
                      refine xi_iadd (pc' := 697) (v := v22) kc_195_696 rfl ev22 ?_
                      refine xi_ialoadO (pc' := 698) (v := a23) kc_195_697 rfl (by decide) hov0 (xi_in (by omega) (by omega)) ea23 ?_
                      refine xi_aload_n (pc' := 699) (x := 1000000) kc_195_698 rfl rfl ?_
                      refine xi_iload (pc' := 701) (x := x4) kc_195_699 rfl rfl ?_
                      refine xi_iconst (pc' := 702) (v := 4) kc_195_701 rfl rfl ?_
                      refine xi_iadd (pc' := 703) (v := v24) kc_195_702 rfl ev24 ?_
                      refine xi_ialoadO (pc' := 704) (v := a25) kc_195_703 rfl (by decide) hov0 (xi_in (by omega) (by omega)) ea25 ?_
                      have A236 := ((eh234.2.1 115 (by decide)).trans A17)
                      refine xi_virtual (mj := 32) (as := [.int a19, .int a21, .int a23, .int a25]) (st1 := [.int (-6)]) (lv0 := [(0, .ref 115), (1, .int a19), (2, .int a21), (3, .int a23), (4, .int a25)]) kc_195_704 rfl rfl rfl rfl rfl A236 (Nat.le_of_ble_eq_true rfl) (hJ _ _ _ _ (by decide)) (xm_le ml_32 rfl) rfl ?_
                      refine xi_aload_n (pc' := 1) (x := 115) kc_32_0 rfl rfl ?_
                      refine xi_iconst (pc' := 2) (v := 0) kc_32_1 rfl rfl ?_
                      refine xi_putfield (pc' := 5) (fs' := [.int 0, .int u5, .ref 116, .ref 117, .ref 118, .ref 119, .ref 120, .ref 121, .ref 122, .ref 123, .ref 124, .ref 125, .ref 126, .ref 127, .ref 128, .ref 129, .int u6, .ref 130, .int u7, .ref 131, .ref 132, .ref 133, .ref 134, .int u1, .ref 135, .ref 136, .ref 137, .ref 138, .ref 139, .ref 140, .ref 141, .ref 142, .int u9, .int u10, .int u11, .ref 143, .ref 144, .ref 145, .ref 146, .ref 147, .ref 148, .int u12, .ref 149, .ref 150, .ref 151, .int u13, .ref 152, .ref 153, .ref 154, .ref 155, .ref 156, .ref 157, .ref 158, .ref 159, .int u14, .ref 160, .int u15, .ref 161, .ref 162, .ref 163, .ref 164, .int u16, .ref 165, .ref 166]) kc_32_2 rfl rfl rfl A236 rfl rfl rfl (Nat.le_of_ble_eq_true rfl) rfl (fun hh238 eh237 => ?_)
                      have K239 := xk_pf (k := 0) (v := 0) K235 (xk_wf rfl) xD_115 A236 rfl (by first | omega | decide) (by first | omega | decide) eh237 rfl
                      refine xi_iload_n (pc' := 6) (x := a19) kc_32_5 rfl rfl ?_
                      refine xi_iconst (pc' := 7) (v := 0) kc_32_6 rfl rfl ?_
                      refine xi_iconst (pc' := 8) (v := 3) kc_32_7 rfl rfl ?_
                      refine xi_static (mj := 11) (as := [.int a19, .int 0, .int 3]) (st1 := []) (lv0 := [(0, .int a19), (1, .int 0), (2, .int 3)]) kc_32_8 rfl rfl (Nat.le_of_ble_eq_true rfl) rfl rfl (Nat.le_of_ble_eq_true rfl) (hJ _ _ _ _ (by decide)) (xm_le ml_11 rfl) rfl ?_
                      refine xi_iload_n (pc' := 1) (x := a19) kc_11_0 rfl rfl ?_
                      refine xi_iload_n (pc' := 2) (x := 0) kc_11_1 rfl rfl ?_
                      refine xi_cmf (pc' := 5) kc_11_2 rfl (xc_lt_f (X := a19.toInt) (Y := 0) rfl (by decide) (by omega)) ?_
                      refine xi_iload_n (pc' := 6) (x := a19) kc_11_5 rfl rfl ?_
                      refine xi_iload_n (pc' := 7) (x := 3) kc_11_6 rfl rfl ?_
                      refine xi_cmf (pc' := 10) kc_11_7 rfl (xc_gt_f (X := a19.toInt) (Y := 3) rfl (by decide) (by omega)) ?_
                      refine xi_iconst (pc' := 11) (v := 1) kc_11_10 rfl rfl ?_
                      refine xi_goto (pc' := 15) kc_11_11 rfl ?_
                      refine xi_ireturn kc_11_15 mr_11 rfl ?_
                      show xw J ov 99 32 (11, [(0, .ref 115), (1, .int a19), (2, .int a21), (3, .int a23), (4, .int a25)], [.int 1], hh238) _
                      refine xi_ift (pc' := 21) kc_32_11 rfl rfl ?_
                      refine xi_iload_n (pc' := 22) (x := a19) kc_32_21 rfl rfl ?_
                      refine xi_iconst (pc' := 23) (v := 3) kc_32_22 rfl rfl ?_
                      refine xi_cmf (pc' := 26) kc_32_23 rfl (xc_ne_f (X := a19.toInt) (Y := 3) rfl (by decide) (by omega)) ?_
                      refine xi_iload_n (pc' := 27) (x := a21) kc_32_26 rfl rfl ?_
                      refine xi_static (mj := 10) (as := [.int a21]) (st1 := []) (lv0 := [(0, .int a21)]) kc_32_27 rfl rfl (Nat.le_of_ble_eq_true rfl) rfl rfl (Nat.le_of_ble_eq_true rfl) (hJ _ _ _ _ (by decide)) (xm_le ml_10 rfl) rfl ?_
                      refine xi_iload_n (pc' := 1) (x := a21) kc_10_0 rfl rfl ?_
                      refine xi_iconst (pc' := 2) (v := 0) kc_10_1 rfl rfl ?_
                      refine xi_iconst (pc' := 3) (v := 5) kc_10_2 rfl rfl ?_
                      refine xi_static (mj := 11) (as := [.int a21, .int 0, .int 5]) (st1 := []) (lv0 := [(0, .int a21), (1, .int 0), (2, .int 5)]) kc_10_3 rfl rfl (Nat.le_of_ble_eq_true rfl) rfl rfl (Nat.le_of_ble_eq_true rfl) (hJ _ _ _ _ (by decide)) (xm_le ml_11 rfl) rfl ?_
                      refine xi_iload_n (pc' := 1) (x := a21) kc_11_0 rfl rfl ?_
                      refine xi_iload_n (pc' := 2) (x := 0) kc_11_1 rfl rfl ?_
                      refine xi_cmf (pc' := 5) kc_11_2 rfl (xc_lt_f (X := a21.toInt) (Y := 0) rfl (by decide) (by omega)) ?_
                      refine xi_iload_n (pc' := 6) (x := a21) kc_11_5 rfl rfl ?_
                      refine xi_iload_n (pc' := 7) (x := 5) kc_11_6 rfl rfl ?_
                      refine xi_cmf (pc' := 10) kc_11_7 rfl (xc_gt_f (X := a21.toInt) (Y := 5) rfl (by decide) (by omega)) ?_
                      refine xi_iconst (pc' := 11) (v := 1) kc_11_10 rfl rfl ?_
                      refine xi_goto (pc' := 15) kc_11_11 rfl ?_
                      refine xi_ireturn kc_11_15 mr_11 rfl ?_
                      show xw J ov 98 10 (6, [(0, .int a21)], [.int 1], hh238) _
                      refine xi_ireturn kc_10_6 mr_10 rfl ?_
                      show xw J ov 99 32 (30, [(0, .ref 115), (1, .int a19), (2, .int a21), (3, .int a23), (4, .int a25)], [.int 1], hh238) _
                      refine xi_ift (pc' := 63) kc_32_30 rfl rfl ?_
                      refine xi_iload_n (pc' := 64) (x := a23) kc_32_63 rfl rfl ?_
                      refine xi_iconst (pc' := 65) (v := 1) kc_32_64 rfl rfl ?_
                      refine xi_cmf (pc' := 68) kc_32_65 rfl (xc_lt_f (X := a23.toInt) (Y := 1) rfl (by decide) (by omega)) ?_
                      refine xi_iload (pc' := 70) (x := a25) kc_32_68 rfl rfl ?_
                      refine xi_ift (pc' := 80) kc_32_70 rfl (xc_ge_t (X := a25.toInt) (Y := 0) rfl (by decide) (by omega)) ?_
                      refine xi_iload_n (pc' := 81) (x := a23) kc_32_80 rfl rfl ?_
                      refine xi_bipush (pc' := 83) (v := 99) kc_32_81 rfl rfl ?_
                      refine xi_cmf (pc' := 86) kc_32_83 rfl (xc_gt_f (X := a23.toInt) (Y := 99) rfl (by decide) (by omega)) ?_
                      refine xi_iload (pc' := 88) (x := a25) kc_32_86 rfl rfl ?_
                      refine xi_sipush (pc' := 91) (v := 600) kc_32_88 rfl rfl ?_
                      refine xi_cmf (pc' := 94) kc_32_91 rfl (xc_gt_f (X := a25.toInt) (Y := 600) rfl (by decide) (by omega)) ?_
                      refine xi_aload_n (pc' := 95) (x := 115) kc_32_94 rfl rfl ?_
                      refine xi_getfield (pc' := 98) (v := .int u1) kc_32_95 rfl rfl rfl eh237.1 rfl ?_
                      refine xi_bipush (pc' := 100) (v := 10) kc_32_98 rfl rfl ?_
                      refine xi_cmf (pc' := 103) kc_32_100 rfl (xc_ne_f (X := u1.toInt) (Y := 10) rfl (by decide) (by omega)) ?_
                      refine xi_aload_n (pc' := 104) (x := 115) kc_32_103 rfl rfl ?_
                      refine xi_bipush (pc' := 106) (v := (-6)) kc_32_104 rfl rfl ?_
                      refine xi_virtual (mj := 12) (as := [.int (-6)]) (st1 := []) (lv0 := [(0, .ref 115), (1, .int (-6))]) kc_32_106 rfl rfl rfl rfl rfl eh237.1 (Nat.le_of_ble_eq_true rfl) (hJ _ _ _ _ (by decide)) (xm_le ml_12 rfl) rfl ?_
                      refine xi_aload_n (pc' := 1) (x := 115) kc_12_0 rfl rfl ?_
                      refine xi_getfield (pc' := 4) (v := .ref 140) kc_12_1 rfl rfl rfl eh237.1 rfl ?_
                      refine xi_iload_n (pc' := 5) (x := (-6)) kc_12_4 rfl rfl ?_
                      refine xi_ineg (pc' := 6) (v := 6) kc_12_5 rfl rfl ?_
                      refine xi_dup2 (pc' := 7) kc_12_6 rfl ⟨rfl, rfl⟩ ?_
                      obtain ⟨y240, A240, hy240, ry240⟩ := xk_arr K.1 xD_140
                      obtain ⟨v241, ev241, bv241, dv241⟩ := xj_get hy240 ry240 (i := 6) (by decide) (by decide)
                      have A242 := ((eh237.2.1 140 (by decide)).trans ((eh234.2.1 140 (by decide)).trans A240))
                      refine xi_iaload (pc' := 8) (v := v241) kc_12_7 rfl A242 (by decide) rfl (xi_in (by decide) (by rw [hy240]; decide)) ev241 ?_
                      refine xi_iconst (pc' := 9) (v := 1) kc_12_8 rfl rfl ?_
                      obtain ⟨v243, ev243⟩ : ∃ q : Int32, (v241 : Int32) + 1 = q := ⟨_, rfl⟩
                      have rv243 := xc_rng v243
                      refine xi_iadd (pc' := 10) (v := v243) kc_12_9 rfl ev243 ?_
                      obtain ⟨y244, s244, hy244, ry244⟩ := xj_set (v := v243) hy240 ry240 6 (by first | omega | decide) (by first | omega | decide)
                      refine xi_iastore (pc' := 11) (x' := y244) kc_12_10 rfl A242 rfl (xi_in (by decide) (by rw [hy240]; decide)) s244 (fun hh244 eh244 => ?_)
                      have K245 := xk_pa K239 (xk_wa rfl) xD_140 hy244 ry244 eh244
                      refine xi_iload_n (pc' := 12) (x := (-6)) kc_12_11 rfl rfl ?_
                      refine xi_ireturn kc_12_12 mr_12 rfl ?_
                      show xw J ov 99 32 (109, [(0, .ref 115), (1, .int a19), (2, .int a21), (3, .int a23), (4, .int a25)], [.int (-6)], hh244) _
                      refine xi_ireturn kc_32_109 mr_32 rfl ?_
                      show xw J ov 100 195 (707, [(4, .int x4), (3, .ref 167), (2, .ref 115), (1, .ref 0), (0, .ref 1000000)], [.int (-6), .int (-6)], hh244) _
                      refine xi_cmt (pc' := 1501) kc_195_707 rfl rfl ?_
                      obtain ⟨v246, ev246⟩ : ∃ q : Int32, x4 + 6 = q := ⟨_, rfl⟩
                      have zv246 : v246.toInt = (x4.toInt + 6) := by rw [← ev246]; exact (xz_add (X := x4.toInt) (Y := 6) rfl (by decide) (by omega) (by omega)).trans (by omega)
                      refine xi_iinc (pc' := 1504) (x := x4) (v := v246) (lv' := [(4, .int v246), (3, .ref 167), (2, .ref 115), (1, .ref 0), (0, .ref 1000000)]) kc_195_1501 rfl rfl ev246 rfl (xm_lt ml_195 rfl) ?_
                      refine xi_goto (pc' := 23) kc_195_1504 rfl ?_
                      have A247 := ((eh244.2.1 1 (by decide)).trans ((eh237.2.1 1 (by decide)).trans ((eh234.2.1 1 (by decide)).trans A3)))
                      have A248 := ((eh244.2.1 115 (by decide)).trans eh237.1)
                      exact kk v246 hh244 (by omega) K245 ⟨(xGR_kept I.1 (fun c hc => ((eh244.2.1 c (Ne.symm (xk_nc hc rfl))).trans ((eh237.2.1 c (Ne.symm (xk_nc hc rfl))).trans (eh234.2.1 c (Ne.symm (xk_nc hc rfl)))))) ((eh244.2.1 125 (by decide)).trans ((eh237.2.1 125 (by decide)).trans (eh234.2.1 125 (by decide))))), (xGR_kept I.2.1 (fun c hc => ((eh244.2.1 c (Ne.symm (xk_nc hc rfl))).trans ((eh237.2.1 c (Ne.symm (xk_nc hc rfl))).trans (eh234.2.1 c (Ne.symm (xk_nc hc rfl)))))) ((eh244.2.1 127 (by decide)).trans ((eh237.2.1 127 (by decide)).trans (eh234.2.1 127 (by decide))))), ((xl_of A247 rfl).trans (xl_of A248 rfl).symm)⟩
              · refine xi_iff (pc' := 42) kc_116_39 rfl (xc_ge_f (X := a25.toInt) (Y := 0) rfl (by decide) (by omega)) ?_
                refine xi_aload_n (pc' := 43) (x := 0) kc_116_42 rfl rfl ?_
                refine xi_bipush (pc' := 45) (v := (-4)) kc_116_43 rfl rfl ?_
                refine xi_virtual (mj := 90) (as := [.int (-4)]) (st1 := []) (lv0 := [(0, .ref 0), (1, .int (-4))]) kc_116_45 rfl rfl rfl rfl rfl A28 (Nat.le_of_ble_eq_true rfl) (hJ _ _ _ _ (by decide)) (xm_le ml_90 rfl) rfl ?_
                refine xi_iload_n (pc' := 1) (x := (-4)) kc_90_0 rfl rfl ?_
                refine xi_ineg (pc' := 2) (v := 4) kc_90_1 rfl rfl ?_
                refine xi_istore_n (pc' := 3) (lv' := [(2, .int 4), (0, .ref 0), (1, .int (-4))]) kc_90_2 rfl rfl (xm_lt ml_90 rfl) ?_
                refine xi_iload_n (pc' := 4) (x := 4) kc_90_3 rfl rfl ?_
                refine xi_iff (pc' := 7) kc_90_4 rfl rfl ?_
                refine xi_iload_n (pc' := 8) (x := 4) kc_90_7 rfl rfl ?_
                refine xi_aload_n (pc' := 9) (x := 0) kc_90_8 rfl rfl ?_
                refine xi_getfield (pc' := 12) (v := .ref 94) kc_90_9 rfl rfl rfl A28 rfl ?_
                obtain ⟨y249, A249, hy249, ry249⟩ := xk_arr K.1 xD_94
                refine xi_arraylength (pc' := 13) (n := 7) (v := 7) kc_90_12 rfl (xl_lenI (by decide) (by decide) A249 hy249) rfl ?_
                refine xi_cmf (pc' := 16) kc_90_13 rfl rfl ?_
                refine xi_aload_n (pc' := 17) (x := 0) kc_90_16 rfl rfl ?_
                refine xi_getfield (pc' := 20) (v := .ref 94) kc_90_17 rfl rfl rfl A28 rfl ?_
                refine xi_iload_n (pc' := 21) (x := 4) kc_90_20 rfl rfl ?_
                refine xi_dup2 (pc' := 22) kc_90_21 rfl ⟨rfl, rfl⟩ ?_
                obtain ⟨v250, ev250, bv250, dv250⟩ := xj_get hy249 ry249 (i := 4) (by decide) (by decide)
                refine xi_iaload (pc' := 23) (v := v250) kc_90_22 rfl A249 (by decide) rfl (xi_in (by decide) (by rw [hy249]; decide)) ev250 ?_
                refine xi_iconst (pc' := 24) (v := 1) kc_90_23 rfl rfl ?_
                obtain ⟨v251, ev251⟩ : ∃ q : Int32, (v250 : Int32) + 1 = q := ⟨_, rfl⟩
                have rv251 := xc_rng v251
                refine xi_iadd (pc' := 25) (v := v251) kc_90_24 rfl ev251 ?_
                obtain ⟨y252, s252, hy252, ry252⟩ := xj_set (v := v251) hy249 ry249 4 (by first | omega | decide) (by first | omega | decide)
                refine xi_iastore (pc' := 26) (x' := y252) kc_90_25 rfl A249 rfl (xi_in (by decide) (by rw [hy249]; decide)) s252 (fun hh252 eh252 => ?_)
                have K253 := xk_pa K (xk_wa rfl) xD_94 hy252 ry252 eh252
                refine xi_iload_n (pc' := 27) (x := (-4)) kc_90_26 rfl rfl ?_
                refine xi_ireturn kc_90_27 mr_90 rfl ?_
                show xw J ov 99 116 (48, [(0, .ref 0), (1, .int a19), (2, .int a21), (3, .int a23), (4, .int a25)], [.int (-4)], hh252) _
                refine xi_ireturn kc_116_48 mr_116 rfl ?_
                show xw J ov 100 195 (679, [(4, .int x4), (3, .ref 167), (2, .ref 115), (1, .ref 0), (0, .ref 1000000)], [.int (-4)], hh252) _
                refine xi_aload_n (pc' := 680) (x := 115) kc_195_679 rfl rfl ?_
                refine xi_aload_n (pc' := 681) (x := 1000000) kc_195_680 rfl rfl ?_
                refine xi_iload (pc' := 683) (x := x4) kc_195_681 rfl rfl ?_
                refine xi_iconst (pc' := 684) (v := 1) kc_195_683 rfl rfl ?_
                refine xi_iadd (pc' := 685) (v := v18) kc_195_684 rfl ev18 ?_
                refine xi_ialoadO (pc' := 686) (v := a19) kc_195_685 rfl (by decide) hov0 (xi_in (by omega) (by omega)) ea19 ?_
                refine xi_aload_n (pc' := 687) (x := 1000000) kc_195_686 rfl rfl ?_
                refine xi_iload (pc' := 689) (x := x4) kc_195_687 rfl rfl ?_
                refine xi_iconst (pc' := 690) (v := 2) kc_195_689 rfl rfl ?_
                refine xi_iadd (pc' := 691) (v := v20) kc_195_690 rfl ev20 ?_
                refine xi_ialoadO (pc' := 692) (v := a21) kc_195_691 rfl (by decide) hov0 (xi_in (by omega) (by omega)) ea21 ?_
                refine xi_aload_n (pc' := 693) (x := 1000000) kc_195_692 rfl rfl ?_
                refine xi_iload (pc' := 695) (x := x4) kc_195_693 rfl rfl ?_
                refine xi_iconst (pc' := 696) (v := 3) kc_195_695 rfl rfl ?_
                refine xi_iadd (pc' := 697) (v := v22) kc_195_696 rfl ev22 ?_
                refine xi_ialoadO (pc' := 698) (v := a23) kc_195_697 rfl (by decide) hov0 (xi_in (by omega) (by omega)) ea23 ?_
                refine xi_aload_n (pc' := 699) (x := 1000000) kc_195_698 rfl rfl ?_
                refine xi_iload (pc' := 701) (x := x4) kc_195_699 rfl rfl ?_
                refine xi_iconst (pc' := 702) (v := 4) kc_195_701 rfl rfl ?_
                refine xi_iadd (pc' := 703) (v := v24) kc_195_702 rfl ev24 ?_
                refine xi_ialoadO (pc' := 704) (v := a25) kc_195_703 rfl (by decide) hov0 (xi_in (by omega) (by omega)) ea25 ?_
                have A254 := ((eh252.2.1 115 (by decide)).trans A17)
                refine xi_virtual (mj := 32) (as := [.int a19, .int a21, .int a23, .int a25]) (st1 := [.int (-4)]) (lv0 := [(0, .ref 115), (1, .int a19), (2, .int a21), (3, .int a23), (4, .int a25)]) kc_195_704 rfl rfl rfl rfl rfl A254 (Nat.le_of_ble_eq_true rfl) (hJ _ _ _ _ (by decide)) (xm_le ml_32 rfl) rfl ?_
                refine xi_aload_n (pc' := 1) (x := 115) kc_32_0 rfl rfl ?_
                refine xi_iconst (pc' := 2) (v := 0) kc_32_1 rfl rfl ?_
                refine xi_putfield (pc' := 5) (fs' := [.int 0, .int u5, .ref 116, .ref 117, .ref 118, .ref 119, .ref 120, .ref 121, .ref 122, .ref 123, .ref 124, .ref 125, .ref 126, .ref 127, .ref 128, .ref 129, .int u6, .ref 130, .int u7, .ref 131, .ref 132, .ref 133, .ref 134, .int u1, .ref 135, .ref 136, .ref 137, .ref 138, .ref 139, .ref 140, .ref 141, .ref 142, .int u9, .int u10, .int u11, .ref 143, .ref 144, .ref 145, .ref 146, .ref 147, .ref 148, .int u12, .ref 149, .ref 150, .ref 151, .int u13, .ref 152, .ref 153, .ref 154, .ref 155, .ref 156, .ref 157, .ref 158, .ref 159, .int u14, .ref 160, .int u15, .ref 161, .ref 162, .ref 163, .ref 164, .int u16, .ref 165, .ref 166]) kc_32_2 rfl rfl rfl A254 rfl rfl rfl (Nat.le_of_ble_eq_true rfl) rfl (fun hh256 eh255 => ?_)
                have K257 := xk_pf (k := 0) (v := 0) K253 (xk_wf rfl) xD_115 A254 rfl (by first | omega | decide) (by first | omega | decide) eh255 rfl
                refine xi_iload_n (pc' := 6) (x := a19) kc_32_5 rfl rfl ?_
                refine xi_iconst (pc' := 7) (v := 0) kc_32_6 rfl rfl ?_
                refine xi_iconst (pc' := 8) (v := 3) kc_32_7 rfl rfl ?_
                refine xi_static (mj := 11) (as := [.int a19, .int 0, .int 3]) (st1 := []) (lv0 := [(0, .int a19), (1, .int 0), (2, .int 3)]) kc_32_8 rfl rfl (Nat.le_of_ble_eq_true rfl) rfl rfl (Nat.le_of_ble_eq_true rfl) (hJ _ _ _ _ (by decide)) (xm_le ml_11 rfl) rfl ?_
                refine xi_iload_n (pc' := 1) (x := a19) kc_11_0 rfl rfl ?_
                refine xi_iload_n (pc' := 2) (x := 0) kc_11_1 rfl rfl ?_
                refine xi_cmf (pc' := 5) kc_11_2 rfl (xc_lt_f (X := a19.toInt) (Y := 0) rfl (by decide) (by omega)) ?_
                refine xi_iload_n (pc' := 6) (x := a19) kc_11_5 rfl rfl ?_
                refine xi_iload_n (pc' := 7) (x := 3) kc_11_6 rfl rfl ?_
                refine xi_cmf (pc' := 10) kc_11_7 rfl (xc_gt_f (X := a19.toInt) (Y := 3) rfl (by decide) (by omega)) ?_
                refine xi_iconst (pc' := 11) (v := 1) kc_11_10 rfl rfl ?_
                refine xi_goto (pc' := 15) kc_11_11 rfl ?_
                refine xi_ireturn kc_11_15 mr_11 rfl ?_
                show xw J ov 99 32 (11, [(0, .ref 115), (1, .int a19), (2, .int a21), (3, .int a23), (4, .int a25)], [.int 1], hh256) _
                refine xi_ift (pc' := 21) kc_32_11 rfl rfl ?_
                refine xi_iload_n (pc' := 22) (x := a19) kc_32_21 rfl rfl ?_
                refine xi_iconst (pc' := 23) (v := 3) kc_32_22 rfl rfl ?_
                refine xi_cmf (pc' := 26) kc_32_23 rfl (xc_ne_f (X := a19.toInt) (Y := 3) rfl (by decide) (by omega)) ?_
                refine xi_iload_n (pc' := 27) (x := a21) kc_32_26 rfl rfl ?_
                refine xi_static (mj := 10) (as := [.int a21]) (st1 := []) (lv0 := [(0, .int a21)]) kc_32_27 rfl rfl (Nat.le_of_ble_eq_true rfl) rfl rfl (Nat.le_of_ble_eq_true rfl) (hJ _ _ _ _ (by decide)) (xm_le ml_10 rfl) rfl ?_
                refine xi_iload_n (pc' := 1) (x := a21) kc_10_0 rfl rfl ?_
                refine xi_iconst (pc' := 2) (v := 0) kc_10_1 rfl rfl ?_
                refine xi_iconst (pc' := 3) (v := 5) kc_10_2 rfl rfl ?_
                refine xi_static (mj := 11) (as := [.int a21, .int 0, .int 5]) (st1 := []) (lv0 := [(0, .int a21), (1, .int 0), (2, .int 5)]) kc_10_3 rfl rfl (Nat.le_of_ble_eq_true rfl) rfl rfl (Nat.le_of_ble_eq_true rfl) (hJ _ _ _ _ (by decide)) (xm_le ml_11 rfl) rfl ?_
                refine xi_iload_n (pc' := 1) (x := a21) kc_11_0 rfl rfl ?_
                refine xi_iload_n (pc' := 2) (x := 0) kc_11_1 rfl rfl ?_
                refine xi_cmf (pc' := 5) kc_11_2 rfl (xc_lt_f (X := a21.toInt) (Y := 0) rfl (by decide) (by omega)) ?_
                refine xi_iload_n (pc' := 6) (x := a21) kc_11_5 rfl rfl ?_
                refine xi_iload_n (pc' := 7) (x := 5) kc_11_6 rfl rfl ?_
                refine xi_cmf (pc' := 10) kc_11_7 rfl (xc_gt_f (X := a21.toInt) (Y := 5) rfl (by decide) (by omega)) ?_
                refine xi_iconst (pc' := 11) (v := 1) kc_11_10 rfl rfl ?_
                refine xi_goto (pc' := 15) kc_11_11 rfl ?_
                refine xi_ireturn kc_11_15 mr_11 rfl ?_
                show xw J ov 98 10 (6, [(0, .int a21)], [.int 1], hh256) _
                refine xi_ireturn kc_10_6 mr_10 rfl ?_
                show xw J ov 99 32 (30, [(0, .ref 115), (1, .int a19), (2, .int a21), (3, .int a23), (4, .int a25)], [.int 1], hh256) _
                refine xi_ift (pc' := 63) kc_32_30 rfl rfl ?_
                refine xi_iload_n (pc' := 64) (x := a23) kc_32_63 rfl rfl ?_
                refine xi_iconst (pc' := 65) (v := 1) kc_32_64 rfl rfl ?_
                refine xi_cmf (pc' := 68) kc_32_65 rfl (xc_lt_f (X := a23.toInt) (Y := 1) rfl (by decide) (by omega)) ?_
                refine xi_iload (pc' := 70) (x := a25) kc_32_68 rfl rfl ?_
                refine xi_iff (pc' := 73) kc_32_70 rfl (xc_ge_f (X := a25.toInt) (Y := 0) rfl (by decide) (by omega)) ?_
                refine xi_aload_n (pc' := 74) (x := 115) kc_32_73 rfl rfl ?_
                refine xi_bipush (pc' := 76) (v := (-4)) kc_32_74 rfl rfl ?_
                refine xi_virtual (mj := 12) (as := [.int (-4)]) (st1 := []) (lv0 := [(0, .ref 115), (1, .int (-4))]) kc_32_76 rfl rfl rfl rfl rfl eh255.1 (Nat.le_of_ble_eq_true rfl) (hJ _ _ _ _ (by decide)) (xm_le ml_12 rfl) rfl ?_
                refine xi_aload_n (pc' := 1) (x := 115) kc_12_0 rfl rfl ?_
                refine xi_getfield (pc' := 4) (v := .ref 140) kc_12_1 rfl rfl rfl eh255.1 rfl ?_
                refine xi_iload_n (pc' := 5) (x := (-4)) kc_12_4 rfl rfl ?_
                refine xi_ineg (pc' := 6) (v := 4) kc_12_5 rfl rfl ?_
                refine xi_dup2 (pc' := 7) kc_12_6 rfl ⟨rfl, rfl⟩ ?_
                obtain ⟨y258, A258, hy258, ry258⟩ := xk_arr K.1 xD_140
                obtain ⟨v259, ev259, bv259, dv259⟩ := xj_get hy258 ry258 (i := 4) (by decide) (by decide)
                have A260 := ((eh255.2.1 140 (by decide)).trans ((eh252.2.1 140 (by decide)).trans A258))
                refine xi_iaload (pc' := 8) (v := v259) kc_12_7 rfl A260 (by decide) rfl (xi_in (by decide) (by rw [hy258]; decide)) ev259 ?_
                refine xi_iconst (pc' := 9) (v := 1) kc_12_8 rfl rfl ?_
                obtain ⟨v261, ev261⟩ : ∃ q : Int32, (v259 : Int32) + 1 = q := ⟨_, rfl⟩
                have rv261 := xc_rng v261
                refine xi_iadd (pc' := 10) (v := v261) kc_12_9 rfl ev261 ?_
                obtain ⟨y262, s262, hy262, ry262⟩ := xj_set (v := v261) hy258 ry258 4 (by first | omega | decide) (by first | omega | decide)
                refine xi_iastore (pc' := 11) (x' := y262) kc_12_10 rfl A260 rfl (xi_in (by decide) (by rw [hy258]; decide)) s262 (fun hh262 eh262 => ?_)
                have K263 := xk_pa K257 (xk_wa rfl) xD_140 hy262 ry262 eh262
                refine xi_iload_n (pc' := 12) (x := (-4)) kc_12_11 rfl rfl ?_
                refine xi_ireturn kc_12_12 mr_12 rfl ?_
                show xw J ov 99 32 (79, [(0, .ref 115), (1, .int a19), (2, .int a21), (3, .int a23), (4, .int a25)], [.int (-4)], hh262) _
                refine xi_ireturn kc_32_79 mr_32 rfl ?_
                show xw J ov 100 195 (707, [(4, .int x4), (3, .ref 167), (2, .ref 115), (1, .ref 0), (0, .ref 1000000)], [.int (-4), .int (-4)], hh262) _
                refine xi_cmt (pc' := 1501) kc_195_707 rfl rfl ?_
                obtain ⟨v264, ev264⟩ : ∃ q : Int32, x4 + 6 = q := ⟨_, rfl⟩
                have zv264 : v264.toInt = (x4.toInt + 6) := by rw [← ev264]; exact (xz_add (X := x4.toInt) (Y := 6) rfl (by decide) (by omega) (by omega)).trans (by omega)
                refine xi_iinc (pc' := 1504) (x := x4) (v := v264) (lv' := [(4, .int v264), (3, .ref 167), (2, .ref 115), (1, .ref 0), (0, .ref 1000000)]) kc_195_1501 rfl rfl ev264 rfl (xm_lt ml_195 rfl) ?_
                refine xi_goto (pc' := 23) kc_195_1504 rfl ?_
                have A265 := ((eh262.2.1 1 (by decide)).trans ((eh255.2.1 1 (by decide)).trans ((eh252.2.1 1 (by decide)).trans A3)))
                have A266 := ((eh262.2.1 115 (by decide)).trans eh255.1)
                exact kk v264 hh262 (by omega) K263 ⟨(xGR_kept I.1 (fun c hc => ((eh262.2.1 c (Ne.symm (xk_nc hc rfl))).trans ((eh255.2.1 c (Ne.symm (xk_nc hc rfl))).trans (eh252.2.1 c (Ne.symm (xk_nc hc rfl)))))) ((eh262.2.1 125 (by decide)).trans ((eh255.2.1 125 (by decide)).trans (eh252.2.1 125 (by decide))))), (xGR_kept I.2.1 (fun c hc => ((eh262.2.1 c (Ne.symm (xk_nc hc rfl))).trans ((eh255.2.1 c (Ne.symm (xk_nc hc rfl))).trans (eh252.2.1 c (Ne.symm (xk_nc hc rfl)))))) ((eh262.2.1 127 (by decide)).trans ((eh255.2.1 127 (by decide)).trans (eh252.2.1 127 (by decide))))), ((xl_of A265 rfl).trans (xl_of A266 rfl).symm)⟩
      · refine xi_cmt (pc' := 10) kc_118_2 rfl (xc_ne_t (X := a19.toInt) (Y := 3) rfl (by decide) (by omega)) ?_
        refine xi_aload_n (pc' := 11) (x := 1) kc_118_10 rfl rfl ?_
        refine xi_iload_n (pc' := 12) (x := a21) kc_118_11 rfl rfl ?_
        refine xi_virtual (mj := 108) (as := [.int a21]) (st1 := []) (lv0 := [(0, .ref 1), (1, .int a21)]) kc_118_12 rfl rfl rfl rfl rfl A3 (Nat.le_of_ble_eq_true rfl) (hJ _ _ _ _ (by decide)) (xm_le ml_108 rfl) rfl ?_
        refine xi_iload_n (pc' := 1) (x := a21) kc_108_0 rfl rfl ?_
        refine xi_static (mj := 104) (as := [.int a21]) (st1 := []) (lv0 := [(0, .int a21)]) kc_108_1 rfl rfl (Nat.le_of_ble_eq_true rfl) rfl rfl (Nat.le_of_ble_eq_true rfl) (hJ _ _ _ _ (by decide)) (xm_le ml_104 rfl) rfl ?_
        refine xi_iload_n (pc' := 1) (x := a21) kc_104_0 rfl rfl ?_
        by_cases c267 : a21.toInt < 0
        · refine xi_ift (pc' := 14) kc_104_1 rfl (xc_lt_t (X := a21.toInt) (Y := 0) rfl (by decide) (by omega)) ?_
          refine xi_iconst (pc' := 15) (v := 0) kc_104_14 rfl rfl ?_
          refine xi_ireturn kc_104_15 mr_104 rfl ?_
          show xw J ov 97 108 (4, [(0, .ref 1), (1, .int a21)], [.int 0], h) _
          refine xi_ift (pc' := 23) kc_108_4 rfl rfl ?_
          refine xi_iconst (pc' := 24) (v := 0) kc_108_23 rfl rfl ?_
          refine xi_ireturn kc_108_24 mr_108 rfl ?_
          show xw J ov 98 118 (15, [(0, .ref 1), (1, .int a19), (2, .int a21)], [.int 0], h) _
          refine xi_ift (pc' := 38) kc_118_15 rfl rfl ?_
          refine xi_iconst (pc' := 39) (v := 0) kc_118_38 rfl rfl ?_
          refine xi_ireturn kc_118_39 mr_118 rfl ?_
          show xw J ov 99 116 (23, [(0, .ref 0), (1, .int a19), (2, .int a21), (3, .int a23), (4, .int a25)], [.int 0], h) _
          refine xi_iff (pc' := 26) kc_116_23 rfl rfl ?_
          refine xi_aload_n (pc' := 27) (x := 0) kc_116_26 rfl rfl ?_
          refine xi_iconst (pc' := 28) (v := (-1)) kc_116_27 rfl rfl ?_
          refine xi_virtual (mj := 90) (as := [.int (-1)]) (st1 := []) (lv0 := [(0, .ref 0), (1, .int (-1))]) kc_116_28 rfl rfl rfl rfl rfl A28 (Nat.le_of_ble_eq_true rfl) (hJ _ _ _ _ (by decide)) (xm_le ml_90 rfl) rfl ?_
          refine xi_iload_n (pc' := 1) (x := (-1)) kc_90_0 rfl rfl ?_
          refine xi_ineg (pc' := 2) (v := 1) kc_90_1 rfl rfl ?_
          refine xi_istore_n (pc' := 3) (lv' := [(2, .int 1), (0, .ref 0), (1, .int (-1))]) kc_90_2 rfl rfl (xm_lt ml_90 rfl) ?_
          refine xi_iload_n (pc' := 4) (x := 1) kc_90_3 rfl rfl ?_
          refine xi_iff (pc' := 7) kc_90_4 rfl rfl ?_
          refine xi_iload_n (pc' := 8) (x := 1) kc_90_7 rfl rfl ?_
          refine xi_aload_n (pc' := 9) (x := 0) kc_90_8 rfl rfl ?_
          refine xi_getfield (pc' := 12) (v := .ref 94) kc_90_9 rfl rfl rfl A28 rfl ?_
          obtain ⟨y268, A268, hy268, ry268⟩ := xk_arr K.1 xD_94
          refine xi_arraylength (pc' := 13) (n := 7) (v := 7) kc_90_12 rfl (xl_lenI (by decide) (by decide) A268 hy268) rfl ?_
          refine xi_cmf (pc' := 16) kc_90_13 rfl rfl ?_
          refine xi_aload_n (pc' := 17) (x := 0) kc_90_16 rfl rfl ?_
          refine xi_getfield (pc' := 20) (v := .ref 94) kc_90_17 rfl rfl rfl A28 rfl ?_
          refine xi_iload_n (pc' := 21) (x := 1) kc_90_20 rfl rfl ?_
          refine xi_dup2 (pc' := 22) kc_90_21 rfl ⟨rfl, rfl⟩ ?_
          obtain ⟨v269, ev269, bv269, dv269⟩ := xj_get hy268 ry268 (i := 1) (by decide) (by decide)
          refine xi_iaload (pc' := 23) (v := v269) kc_90_22 rfl A268 (by decide) rfl (xi_in (by decide) (by rw [hy268]; decide)) ev269 ?_
          refine xi_iconst (pc' := 24) (v := 1) kc_90_23 rfl rfl ?_
          obtain ⟨v270, ev270⟩ : ∃ q : Int32, (v269 : Int32) + 1 = q := ⟨_, rfl⟩
          have rv270 := xc_rng v270
          refine xi_iadd (pc' := 25) (v := v270) kc_90_24 rfl ev270 ?_
          obtain ⟨y271, s271, hy271, ry271⟩ := xj_set (v := v270) hy268 ry268 1 (by first | omega | decide) (by first | omega | decide)
          refine xi_iastore (pc' := 26) (x' := y271) kc_90_25 rfl A268 rfl (xi_in (by decide) (by rw [hy268]; decide)) s271 (fun hh271 eh271 => ?_)
          have K272 := xk_pa K (xk_wa rfl) xD_94 hy271 ry271 eh271
          refine xi_iload_n (pc' := 27) (x := (-1)) kc_90_26 rfl rfl ?_
          refine xi_ireturn kc_90_27 mr_90 rfl ?_
          show xw J ov 99 116 (31, [(0, .ref 0), (1, .int a19), (2, .int a21), (3, .int a23), (4, .int a25)], [.int (-1)], hh271) _
          refine xi_ireturn kc_116_31 mr_116 rfl ?_
          show xw J ov 100 195 (679, [(4, .int x4), (3, .ref 167), (2, .ref 115), (1, .ref 0), (0, .ref 1000000)], [.int (-1)], hh271) _
          refine xi_aload_n (pc' := 680) (x := 115) kc_195_679 rfl rfl ?_
          refine xi_aload_n (pc' := 681) (x := 1000000) kc_195_680 rfl rfl ?_
          refine xi_iload (pc' := 683) (x := x4) kc_195_681 rfl rfl ?_
          refine xi_iconst (pc' := 684) (v := 1) kc_195_683 rfl rfl ?_
          refine xi_iadd (pc' := 685) (v := v18) kc_195_684 rfl ev18 ?_
          refine xi_ialoadO (pc' := 686) (v := a19) kc_195_685 rfl (by decide) hov0 (xi_in (by omega) (by omega)) ea19 ?_
          refine xi_aload_n (pc' := 687) (x := 1000000) kc_195_686 rfl rfl ?_
          refine xi_iload (pc' := 689) (x := x4) kc_195_687 rfl rfl ?_
          refine xi_iconst (pc' := 690) (v := 2) kc_195_689 rfl rfl ?_
          refine xi_iadd (pc' := 691) (v := v20) kc_195_690 rfl ev20 ?_
          refine xi_ialoadO (pc' := 692) (v := a21) kc_195_691 rfl (by decide) hov0 (xi_in (by omega) (by omega)) ea21 ?_
          refine xi_aload_n (pc' := 693) (x := 1000000) kc_195_692 rfl rfl ?_
          refine xi_iload (pc' := 695) (x := x4) kc_195_693 rfl rfl ?_
          refine xi_iconst (pc' := 696) (v := 3) kc_195_695 rfl rfl ?_
          refine xi_iadd (pc' := 697) (v := v22) kc_195_696 rfl ev22 ?_
          refine xi_ialoadO (pc' := 698) (v := a23) kc_195_697 rfl (by decide) hov0 (xi_in (by omega) (by omega)) ea23 ?_
          refine xi_aload_n (pc' := 699) (x := 1000000) kc_195_698 rfl rfl ?_
          refine xi_iload (pc' := 701) (x := x4) kc_195_699 rfl rfl ?_
          refine xi_iconst (pc' := 702) (v := 4) kc_195_701 rfl rfl ?_
          refine xi_iadd (pc' := 703) (v := v24) kc_195_702 rfl ev24 ?_
          refine xi_ialoadO (pc' := 704) (v := a25) kc_195_703 rfl (by decide) hov0 (xi_in (by omega) (by omega)) ea25 ?_
          have A273 := ((eh271.2.1 115 (by decide)).trans A17)
          refine xi_virtual (mj := 32) (as := [.int a19, .int a21, .int a23, .int a25]) (st1 := [.int (-1)]) (lv0 := [(0, .ref 115), (1, .int a19), (2, .int a21), (3, .int a23), (4, .int a25)]) kc_195_704 rfl rfl rfl rfl rfl A273 (Nat.le_of_ble_eq_true rfl) (hJ _ _ _ _ (by decide)) (xm_le ml_32 rfl) rfl ?_
          refine xi_aload_n (pc' := 1) (x := 115) kc_32_0 rfl rfl ?_
          refine xi_iconst (pc' := 2) (v := 0) kc_32_1 rfl rfl ?_
          refine xi_putfield (pc' := 5) (fs' := [.int 0, .int u5, .ref 116, .ref 117, .ref 118, .ref 119, .ref 120, .ref 121, .ref 122, .ref 123, .ref 124, .ref 125, .ref 126, .ref 127, .ref 128, .ref 129, .int u6, .ref 130, .int u7, .ref 131, .ref 132, .ref 133, .ref 134, .int u1, .ref 135, .ref 136, .ref 137, .ref 138, .ref 139, .ref 140, .ref 141, .ref 142, .int u9, .int u10, .int u11, .ref 143, .ref 144, .ref 145, .ref 146, .ref 147, .ref 148, .int u12, .ref 149, .ref 150, .ref 151, .int u13, .ref 152, .ref 153, .ref 154, .ref 155, .ref 156, .ref 157, .ref 158, .ref 159, .int u14, .ref 160, .int u15, .ref 161, .ref 162, .ref 163, .ref 164, .int u16, .ref 165, .ref 166]) kc_32_2 rfl rfl rfl A273 rfl rfl rfl (Nat.le_of_ble_eq_true rfl) rfl (fun hh275 eh274 => ?_)
          have K276 := xk_pf (k := 0) (v := 0) K272 (xk_wf rfl) xD_115 A273 rfl (by first | omega | decide) (by first | omega | decide) eh274 rfl
          refine xi_iload_n (pc' := 6) (x := a19) kc_32_5 rfl rfl ?_
          refine xi_iconst (pc' := 7) (v := 0) kc_32_6 rfl rfl ?_
          refine xi_iconst (pc' := 8) (v := 3) kc_32_7 rfl rfl ?_
          refine xi_static (mj := 11) (as := [.int a19, .int 0, .int 3]) (st1 := []) (lv0 := [(0, .int a19), (1, .int 0), (2, .int 3)]) kc_32_8 rfl rfl (Nat.le_of_ble_eq_true rfl) rfl rfl (Nat.le_of_ble_eq_true rfl) (hJ _ _ _ _ (by decide)) (xm_le ml_11 rfl) rfl ?_
          refine xi_iload_n (pc' := 1) (x := a19) kc_11_0 rfl rfl ?_
          refine xi_iload_n (pc' := 2) (x := 0) kc_11_1 rfl rfl ?_
          refine xi_cmf (pc' := 5) kc_11_2 rfl (xc_lt_f (X := a19.toInt) (Y := 0) rfl (by decide) (by omega)) ?_
          refine xi_iload_n (pc' := 6) (x := a19) kc_11_5 rfl rfl ?_
          refine xi_iload_n (pc' := 7) (x := 3) kc_11_6 rfl rfl ?_
          refine xi_cmf (pc' := 10) kc_11_7 rfl (xc_gt_f (X := a19.toInt) (Y := 3) rfl (by decide) (by omega)) ?_
          refine xi_iconst (pc' := 11) (v := 1) kc_11_10 rfl rfl ?_
          refine xi_goto (pc' := 15) kc_11_11 rfl ?_
          refine xi_ireturn kc_11_15 mr_11 rfl ?_
          show xw J ov 99 32 (11, [(0, .ref 115), (1, .int a19), (2, .int a21), (3, .int a23), (4, .int a25)], [.int 1], hh275) _
          refine xi_ift (pc' := 21) kc_32_11 rfl rfl ?_
          refine xi_iload_n (pc' := 22) (x := a19) kc_32_21 rfl rfl ?_
          refine xi_iconst (pc' := 23) (v := 3) kc_32_22 rfl rfl ?_
          refine xi_cmt (pc' := 36) kc_32_23 rfl (xc_ne_t (X := a19.toInt) (Y := 3) rfl (by decide) (by omega)) ?_
          refine xi_aload_n (pc' := 37) (x := 115) kc_32_36 rfl rfl ?_
          refine xi_iload_n (pc' := 38) (x := a21) kc_32_37 rfl rfl ?_
          refine xi_virtual (mj := 31) (as := [.int a21]) (st1 := []) (lv0 := [(0, .ref 115), (1, .int a21)]) kc_32_38 rfl rfl rfl rfl rfl eh274.1 (Nat.le_of_ble_eq_true rfl) (hJ _ _ _ _ (by decide)) (xm_le ml_31 rfl) rfl ?_
          refine xi_iload_n (pc' := 1) (x := a21) kc_31_0 rfl rfl ?_
          refine xi_static (mj := 24) (as := [.int a21]) (st1 := []) (lv0 := [(0, .int a21)]) kc_31_1 rfl rfl (Nat.le_of_ble_eq_true rfl) rfl rfl (Nat.le_of_ble_eq_true rfl) (hJ _ _ _ _ (by decide)) (xm_le ml_24 rfl) rfl ?_
          refine xi_iload_n (pc' := 1) (x := a21) kc_24_0 rfl rfl ?_
          refine xi_iconst (pc' := 2) (v := 0) kc_24_1 rfl rfl ?_
          refine xi_bipush (pc' := 4) (v := 11) kc_24_2 rfl rfl ?_
          refine xi_static (mj := 11) (as := [.int a21, .int 0, .int 11]) (st1 := []) (lv0 := [(0, .int a21), (1, .int 0), (2, .int 11)]) kc_24_4 rfl rfl (Nat.le_of_ble_eq_true rfl) rfl rfl (Nat.le_of_ble_eq_true rfl) (hJ _ _ _ _ (by decide)) (xm_le ml_11 rfl) rfl ?_
          refine xi_iload_n (pc' := 1) (x := a21) kc_11_0 rfl rfl ?_
          refine xi_iload_n (pc' := 2) (x := 0) kc_11_1 rfl rfl ?_
          refine xi_cmt (pc' := 14) kc_11_2 rfl (xc_lt_t (X := a21.toInt) (Y := 0) rfl (by decide) (by omega)) ?_
          refine xi_iconst (pc' := 15) (v := 0) kc_11_14 rfl rfl ?_
          refine xi_ireturn kc_11_15 mr_11 rfl ?_
          show xw J ov 97 24 (7, [(0, .int a21)], [.int 0], hh275) _
          refine xi_ireturn kc_24_7 mr_24 rfl ?_
          show xw J ov 98 31 (4, [(0, .ref 115), (1, .int a21)], [.int 0], hh275) _
          refine xi_ift (pc' := 20) kc_31_4 rfl rfl ?_
          refine xi_iconst (pc' := 21) (v := 0) kc_31_20 rfl rfl ?_
          refine xi_ireturn kc_31_21 mr_31 rfl ?_
          show xw J ov 99 32 (41, [(0, .ref 115), (1, .int a19), (2, .int a21), (3, .int a23), (4, .int a25)], [.int 0], hh275) _
          refine xi_ift (pc' := 57) kc_32_41 rfl rfl ?_
          refine xi_aload_n (pc' := 58) (x := 115) kc_32_57 rfl rfl ?_
          refine xi_iconst (pc' := 59) (v := (-1)) kc_32_58 rfl rfl ?_
          refine xi_virtual (mj := 12) (as := [.int (-1)]) (st1 := []) (lv0 := [(0, .ref 115), (1, .int (-1))]) kc_32_59 rfl rfl rfl rfl rfl eh274.1 (Nat.le_of_ble_eq_true rfl) (hJ _ _ _ _ (by decide)) (xm_le ml_12 rfl) rfl ?_
          refine xi_aload_n (pc' := 1) (x := 115) kc_12_0 rfl rfl ?_
          refine xi_getfield (pc' := 4) (v := .ref 140) kc_12_1 rfl rfl rfl eh274.1 rfl ?_
          refine xi_iload_n (pc' := 5) (x := (-1)) kc_12_4 rfl rfl ?_
          refine xi_ineg (pc' := 6) (v := 1) kc_12_5 rfl rfl ?_
          refine xi_dup2 (pc' := 7) kc_12_6 rfl ⟨rfl, rfl⟩ ?_
          obtain ⟨y277, A277, hy277, ry277⟩ := xk_arr K.1 xD_140
          obtain ⟨v278, ev278, bv278, dv278⟩ := xj_get hy277 ry277 (i := 1) (by decide) (by decide)
          have A279 := ((eh274.2.1 140 (by decide)).trans ((eh271.2.1 140 (by decide)).trans A277))
          refine xi_iaload (pc' := 8) (v := v278) kc_12_7 rfl A279 (by decide) rfl (xi_in (by decide) (by rw [hy277]; decide)) ev278 ?_
          refine xi_iconst (pc' := 9) (v := 1) kc_12_8 rfl rfl ?_
          obtain ⟨v280, ev280⟩ : ∃ q : Int32, (v278 : Int32) + 1 = q := ⟨_, rfl⟩
          have rv280 := xc_rng v280
          refine xi_iadd (pc' := 10) (v := v280) kc_12_9 rfl ev280 ?_
          obtain ⟨y281, s281, hy281, ry281⟩ := xj_set (v := v280) hy277 ry277 1 (by first | omega | decide) (by first | omega | decide)
          refine xi_iastore (pc' := 11) (x' := y281) kc_12_10 rfl A279 rfl (xi_in (by decide) (by rw [hy277]; decide)) s281 (fun hh281 eh281 => ?_)
          have K282 := xk_pa K276 (xk_wa rfl) xD_140 hy281 ry281 eh281
          refine xi_iload_n (pc' := 12) (x := (-1)) kc_12_11 rfl rfl ?_
          refine xi_ireturn kc_12_12 mr_12 rfl ?_
          show xw J ov 99 32 (62, [(0, .ref 115), (1, .int a19), (2, .int a21), (3, .int a23), (4, .int a25)], [.int (-1)], hh281) _
          refine xi_ireturn kc_32_62 mr_32 rfl ?_
          show xw J ov 100 195 (707, [(4, .int x4), (3, .ref 167), (2, .ref 115), (1, .ref 0), (0, .ref 1000000)], [.int (-1), .int (-1)], hh281) _
          refine xi_cmt (pc' := 1501) kc_195_707 rfl rfl ?_
          obtain ⟨v283, ev283⟩ : ∃ q : Int32, x4 + 6 = q := ⟨_, rfl⟩
          have zv283 : v283.toInt = (x4.toInt + 6) := by rw [← ev283]; exact (xz_add (X := x4.toInt) (Y := 6) rfl (by decide) (by omega) (by omega)).trans (by omega)
          refine xi_iinc (pc' := 1504) (x := x4) (v := v283) (lv' := [(4, .int v283), (3, .ref 167), (2, .ref 115), (1, .ref 0), (0, .ref 1000000)]) kc_195_1501 rfl rfl ev283 rfl (xm_lt ml_195 rfl) ?_
          refine xi_goto (pc' := 23) kc_195_1504 rfl ?_
          have A284 := ((eh281.2.1 1 (by decide)).trans ((eh274.2.1 1 (by decide)).trans ((eh271.2.1 1 (by decide)).trans A3)))
          have A285 := ((eh281.2.1 115 (by decide)).trans eh274.1)
          exact kk v283 hh281 (by omega) K282 ⟨(xGR_kept I.1 (fun c hc => ((eh281.2.1 c (Ne.symm (xk_nc hc rfl))).trans ((eh274.2.1 c (Ne.symm (xk_nc hc rfl))).trans (eh271.2.1 c (Ne.symm (xk_nc hc rfl)))))) ((eh281.2.1 125 (by decide)).trans ((eh274.2.1 125 (by decide)).trans (eh271.2.1 125 (by decide))))), (xGR_kept I.2.1 (fun c hc => ((eh281.2.1 c (Ne.symm (xk_nc hc rfl))).trans ((eh274.2.1 c (Ne.symm (xk_nc hc rfl))).trans (eh271.2.1 c (Ne.symm (xk_nc hc rfl)))))) ((eh281.2.1 127 (by decide)).trans ((eh274.2.1 127 (by decide)).trans (eh271.2.1 127 (by decide))))), ((xl_of A284 rfl).trans (xl_of A285 rfl).symm)⟩
        · refine xi_iff (pc' := 4) kc_104_1 rfl (xc_lt_f (X := a21.toInt) (Y := 0) rfl (by decide) (by omega)) ?_
          refine xi_iload_n (pc' := 5) (x := a21) kc_104_4 rfl rfl ?_
          refine xi_bipush (pc' := 7) (v := 12) kc_104_5 rfl rfl ?_
          by_cases c286 : 12 ≤ a21.toInt
          · refine xi_cmt (pc' := 14) kc_104_7 rfl (xc_ge_t (X := a21.toInt) (Y := 12) rfl (by decide) (by omega)) ?_
            refine xi_iconst (pc' := 15) (v := 0) kc_104_14 rfl rfl ?_
            refine xi_ireturn kc_104_15 mr_104 rfl ?_
            show xw J ov 97 108 (4, [(0, .ref 1), (1, .int a21)], [.int 0], h) _
            refine xi_ift (pc' := 23) kc_108_4 rfl rfl ?_
            refine xi_iconst (pc' := 24) (v := 0) kc_108_23 rfl rfl ?_
            refine xi_ireturn kc_108_24 mr_108 rfl ?_
            show xw J ov 98 118 (15, [(0, .ref 1), (1, .int a19), (2, .int a21)], [.int 0], h) _
            refine xi_ift (pc' := 38) kc_118_15 rfl rfl ?_
            refine xi_iconst (pc' := 39) (v := 0) kc_118_38 rfl rfl ?_
            refine xi_ireturn kc_118_39 mr_118 rfl ?_
            show xw J ov 99 116 (23, [(0, .ref 0), (1, .int a19), (2, .int a21), (3, .int a23), (4, .int a25)], [.int 0], h) _
            refine xi_iff (pc' := 26) kc_116_23 rfl rfl ?_
            refine xi_aload_n (pc' := 27) (x := 0) kc_116_26 rfl rfl ?_
            refine xi_iconst (pc' := 28) (v := (-1)) kc_116_27 rfl rfl ?_
            refine xi_virtual (mj := 90) (as := [.int (-1)]) (st1 := []) (lv0 := [(0, .ref 0), (1, .int (-1))]) kc_116_28 rfl rfl rfl rfl rfl A28 (Nat.le_of_ble_eq_true rfl) (hJ _ _ _ _ (by decide)) (xm_le ml_90 rfl) rfl ?_
            refine xi_iload_n (pc' := 1) (x := (-1)) kc_90_0 rfl rfl ?_
            refine xi_ineg (pc' := 2) (v := 1) kc_90_1 rfl rfl ?_
            refine xi_istore_n (pc' := 3) (lv' := [(2, .int 1), (0, .ref 0), (1, .int (-1))]) kc_90_2 rfl rfl (xm_lt ml_90 rfl) ?_
            refine xi_iload_n (pc' := 4) (x := 1) kc_90_3 rfl rfl ?_
            refine xi_iff (pc' := 7) kc_90_4 rfl rfl ?_
            refine xi_iload_n (pc' := 8) (x := 1) kc_90_7 rfl rfl ?_
            refine xi_aload_n (pc' := 9) (x := 0) kc_90_8 rfl rfl ?_
            refine xi_getfield (pc' := 12) (v := .ref 94) kc_90_9 rfl rfl rfl A28 rfl ?_
            obtain ⟨y287, A287, hy287, ry287⟩ := xk_arr K.1 xD_94
            refine xi_arraylength (pc' := 13) (n := 7) (v := 7) kc_90_12 rfl (xl_lenI (by decide) (by decide) A287 hy287) rfl ?_
            refine xi_cmf (pc' := 16) kc_90_13 rfl rfl ?_
            refine xi_aload_n (pc' := 17) (x := 0) kc_90_16 rfl rfl ?_
            refine xi_getfield (pc' := 20) (v := .ref 94) kc_90_17 rfl rfl rfl A28 rfl ?_
            refine xi_iload_n (pc' := 21) (x := 1) kc_90_20 rfl rfl ?_
            refine xi_dup2 (pc' := 22) kc_90_21 rfl ⟨rfl, rfl⟩ ?_
            obtain ⟨v288, ev288, bv288, dv288⟩ := xj_get hy287 ry287 (i := 1) (by decide) (by decide)
            refine xi_iaload (pc' := 23) (v := v288) kc_90_22 rfl A287 (by decide) rfl (xi_in (by decide) (by rw [hy287]; decide)) ev288 ?_
            refine xi_iconst (pc' := 24) (v := 1) kc_90_23 rfl rfl ?_
            obtain ⟨v289, ev289⟩ : ∃ q : Int32, (v288 : Int32) + 1 = q := ⟨_, rfl⟩
            have rv289 := xc_rng v289
            refine xi_iadd (pc' := 25) (v := v289) kc_90_24 rfl ev289 ?_
            obtain ⟨y290, s290, hy290, ry290⟩ := xj_set (v := v289) hy287 ry287 1 (by first | omega | decide) (by first | omega | decide)
            refine xi_iastore (pc' := 26) (x' := y290) kc_90_25 rfl A287 rfl (xi_in (by decide) (by rw [hy287]; decide)) s290 (fun hh290 eh290 => ?_)
            have K291 := xk_pa K (xk_wa rfl) xD_94 hy290 ry290 eh290
            refine xi_iload_n (pc' := 27) (x := (-1)) kc_90_26 rfl rfl ?_
            refine xi_ireturn kc_90_27 mr_90 rfl ?_
            show xw J ov 99 116 (31, [(0, .ref 0), (1, .int a19), (2, .int a21), (3, .int a23), (4, .int a25)], [.int (-1)], hh290) _
            refine xi_ireturn kc_116_31 mr_116 rfl ?_
            show xw J ov 100 195 (679, [(4, .int x4), (3, .ref 167), (2, .ref 115), (1, .ref 0), (0, .ref 1000000)], [.int (-1)], hh290) _
            refine xi_aload_n (pc' := 680) (x := 115) kc_195_679 rfl rfl ?_
            refine xi_aload_n (pc' := 681) (x := 1000000) kc_195_680 rfl rfl ?_
            refine xi_iload (pc' := 683) (x := x4) kc_195_681 rfl rfl ?_
            refine xi_iconst (pc' := 684) (v := 1) kc_195_683 rfl rfl ?_
            refine xi_iadd (pc' := 685) (v := v18) kc_195_684 rfl ev18 ?_
            refine xi_ialoadO (pc' := 686) (v := a19) kc_195_685 rfl (by decide) hov0 (xi_in (by omega) (by omega)) ea19 ?_
            refine xi_aload_n (pc' := 687) (x := 1000000) kc_195_686 rfl rfl ?_
            refine xi_iload (pc' := 689) (x := x4) kc_195_687 rfl rfl ?_
            refine xi_iconst (pc' := 690) (v := 2) kc_195_689 rfl rfl ?_
            refine xi_iadd (pc' := 691) (v := v20) kc_195_690 rfl ev20 ?_
            refine xi_ialoadO (pc' := 692) (v := a21) kc_195_691 rfl (by decide) hov0 (xi_in (by omega) (by omega)) ea21 ?_
            refine xi_aload_n (pc' := 693) (x := 1000000) kc_195_692 rfl rfl ?_
            refine xi_iload (pc' := 695) (x := x4) kc_195_693 rfl rfl ?_
            refine xi_iconst (pc' := 696) (v := 3) kc_195_695 rfl rfl ?_
            refine xi_iadd (pc' := 697) (v := v22) kc_195_696 rfl ev22 ?_
            refine xi_ialoadO (pc' := 698) (v := a23) kc_195_697 rfl (by decide) hov0 (xi_in (by omega) (by omega)) ea23 ?_
            refine xi_aload_n (pc' := 699) (x := 1000000) kc_195_698 rfl rfl ?_
            refine xi_iload (pc' := 701) (x := x4) kc_195_699 rfl rfl ?_
            refine xi_iconst (pc' := 702) (v := 4) kc_195_701 rfl rfl ?_
            refine xi_iadd (pc' := 703) (v := v24) kc_195_702 rfl ev24 ?_
            refine xi_ialoadO (pc' := 704) (v := a25) kc_195_703 rfl (by decide) hov0 (xi_in (by omega) (by omega)) ea25 ?_
            have A292 := ((eh290.2.1 115 (by decide)).trans A17)
            refine xi_virtual (mj := 32) (as := [.int a19, .int a21, .int a23, .int a25]) (st1 := [.int (-1)]) (lv0 := [(0, .ref 115), (1, .int a19), (2, .int a21), (3, .int a23), (4, .int a25)]) kc_195_704 rfl rfl rfl rfl rfl A292 (Nat.le_of_ble_eq_true rfl) (hJ _ _ _ _ (by decide)) (xm_le ml_32 rfl) rfl ?_
            refine xi_aload_n (pc' := 1) (x := 115) kc_32_0 rfl rfl ?_
            refine xi_iconst (pc' := 2) (v := 0) kc_32_1 rfl rfl ?_
            refine xi_putfield (pc' := 5) (fs' := [.int 0, .int u5, .ref 116, .ref 117, .ref 118, .ref 119, .ref 120, .ref 121, .ref 122, .ref 123, .ref 124, .ref 125, .ref 126, .ref 127, .ref 128, .ref 129, .int u6, .ref 130, .int u7, .ref 131, .ref 132, .ref 133, .ref 134, .int u1, .ref 135, .ref 136, .ref 137, .ref 138, .ref 139, .ref 140, .ref 141, .ref 142, .int u9, .int u10, .int u11, .ref 143, .ref 144, .ref 145, .ref 146, .ref 147, .ref 148, .int u12, .ref 149, .ref 150, .ref 151, .int u13, .ref 152, .ref 153, .ref 154, .ref 155, .ref 156, .ref 157, .ref 158, .ref 159, .int u14, .ref 160, .int u15, .ref 161, .ref 162, .ref 163, .ref 164, .int u16, .ref 165, .ref 166]) kc_32_2 rfl rfl rfl A292 rfl rfl rfl (Nat.le_of_ble_eq_true rfl) rfl (fun hh294 eh293 => ?_)
            have K295 := xk_pf (k := 0) (v := 0) K291 (xk_wf rfl) xD_115 A292 rfl (by first | omega | decide) (by first | omega | decide) eh293 rfl
            refine xi_iload_n (pc' := 6) (x := a19) kc_32_5 rfl rfl ?_
            refine xi_iconst (pc' := 7) (v := 0) kc_32_6 rfl rfl ?_
            refine xi_iconst (pc' := 8) (v := 3) kc_32_7 rfl rfl ?_
            refine xi_static (mj := 11) (as := [.int a19, .int 0, .int 3]) (st1 := []) (lv0 := [(0, .int a19), (1, .int 0), (2, .int 3)]) kc_32_8 rfl rfl (Nat.le_of_ble_eq_true rfl) rfl rfl (Nat.le_of_ble_eq_true rfl) (hJ _ _ _ _ (by decide)) (xm_le ml_11 rfl) rfl ?_
            refine xi_iload_n (pc' := 1) (x := a19) kc_11_0 rfl rfl ?_
            refine xi_iload_n (pc' := 2) (x := 0) kc_11_1 rfl rfl ?_
            refine xi_cmf (pc' := 5) kc_11_2 rfl (xc_lt_f (X := a19.toInt) (Y := 0) rfl (by decide) (by omega)) ?_
            refine xi_iload_n (pc' := 6) (x := a19) kc_11_5 rfl rfl ?_
            refine xi_iload_n (pc' := 7) (x := 3) kc_11_6 rfl rfl ?_
            refine xi_cmf (pc' := 10) kc_11_7 rfl (xc_gt_f (X := a19.toInt) (Y := 3) rfl (by decide) (by omega)) ?_
            refine xi_iconst (pc' := 11) (v := 1) kc_11_10 rfl rfl ?_
            refine xi_goto (pc' := 15) kc_11_11 rfl ?_
            refine xi_ireturn kc_11_15 mr_11 rfl ?_
            show xw J ov 99 32 (11, [(0, .ref 115), (1, .int a19), (2, .int a21), (3, .int a23), (4, .int a25)], [.int 1], hh294) _
            refine xi_ift (pc' := 21) kc_32_11 rfl rfl ?_
            refine xi_iload_n (pc' := 22) (x := a19) kc_32_21 rfl rfl ?_
            refine xi_iconst (pc' := 23) (v := 3) kc_32_22 rfl rfl ?_
            refine xi_cmt (pc' := 36) kc_32_23 rfl (xc_ne_t (X := a19.toInt) (Y := 3) rfl (by decide) (by omega)) ?_
            refine xi_aload_n (pc' := 37) (x := 115) kc_32_36 rfl rfl ?_
            refine xi_iload_n (pc' := 38) (x := a21) kc_32_37 rfl rfl ?_
            refine xi_virtual (mj := 31) (as := [.int a21]) (st1 := []) (lv0 := [(0, .ref 115), (1, .int a21)]) kc_32_38 rfl rfl rfl rfl rfl eh293.1 (Nat.le_of_ble_eq_true rfl) (hJ _ _ _ _ (by decide)) (xm_le ml_31 rfl) rfl ?_
            refine xi_iload_n (pc' := 1) (x := a21) kc_31_0 rfl rfl ?_
            refine xi_static (mj := 24) (as := [.int a21]) (st1 := []) (lv0 := [(0, .int a21)]) kc_31_1 rfl rfl (Nat.le_of_ble_eq_true rfl) rfl rfl (Nat.le_of_ble_eq_true rfl) (hJ _ _ _ _ (by decide)) (xm_le ml_24 rfl) rfl ?_
            refine xi_iload_n (pc' := 1) (x := a21) kc_24_0 rfl rfl ?_
            refine xi_iconst (pc' := 2) (v := 0) kc_24_1 rfl rfl ?_
            refine xi_bipush (pc' := 4) (v := 11) kc_24_2 rfl rfl ?_
            refine xi_static (mj := 11) (as := [.int a21, .int 0, .int 11]) (st1 := []) (lv0 := [(0, .int a21), (1, .int 0), (2, .int 11)]) kc_24_4 rfl rfl (Nat.le_of_ble_eq_true rfl) rfl rfl (Nat.le_of_ble_eq_true rfl) (hJ _ _ _ _ (by decide)) (xm_le ml_11 rfl) rfl ?_
            refine xi_iload_n (pc' := 1) (x := a21) kc_11_0 rfl rfl ?_
            refine xi_iload_n (pc' := 2) (x := 0) kc_11_1 rfl rfl ?_
            refine xi_cmf (pc' := 5) kc_11_2 rfl (xc_lt_f (X := a21.toInt) (Y := 0) rfl (by decide) (by omega)) ?_
            refine xi_iload_n (pc' := 6) (x := a21) kc_11_5 rfl rfl ?_
            refine xi_iload_n (pc' := 7) (x := 11) kc_11_6 rfl rfl ?_
            refine xi_cmt (pc' := 14) kc_11_7 rfl (xc_gt_t (X := a21.toInt) (Y := 11) rfl (by decide) (by omega)) ?_
            refine xi_iconst (pc' := 15) (v := 0) kc_11_14 rfl rfl ?_
            refine xi_ireturn kc_11_15 mr_11 rfl ?_
            show xw J ov 97 24 (7, [(0, .int a21)], [.int 0], hh294) _
            refine xi_ireturn kc_24_7 mr_24 rfl ?_
            show xw J ov 98 31 (4, [(0, .ref 115), (1, .int a21)], [.int 0], hh294) _
            refine xi_ift (pc' := 20) kc_31_4 rfl rfl ?_
            refine xi_iconst (pc' := 21) (v := 0) kc_31_20 rfl rfl ?_
            refine xi_ireturn kc_31_21 mr_31 rfl ?_
            show xw J ov 99 32 (41, [(0, .ref 115), (1, .int a19), (2, .int a21), (3, .int a23), (4, .int a25)], [.int 0], hh294) _
            refine xi_ift (pc' := 57) kc_32_41 rfl rfl ?_
            refine xi_aload_n (pc' := 58) (x := 115) kc_32_57 rfl rfl ?_
            refine xi_iconst (pc' := 59) (v := (-1)) kc_32_58 rfl rfl ?_
            refine xi_virtual (mj := 12) (as := [.int (-1)]) (st1 := []) (lv0 := [(0, .ref 115), (1, .int (-1))]) kc_32_59 rfl rfl rfl rfl rfl eh293.1 (Nat.le_of_ble_eq_true rfl) (hJ _ _ _ _ (by decide)) (xm_le ml_12 rfl) rfl ?_
            refine xi_aload_n (pc' := 1) (x := 115) kc_12_0 rfl rfl ?_
            refine xi_getfield (pc' := 4) (v := .ref 140) kc_12_1 rfl rfl rfl eh293.1 rfl ?_
            refine xi_iload_n (pc' := 5) (x := (-1)) kc_12_4 rfl rfl ?_
            refine xi_ineg (pc' := 6) (v := 1) kc_12_5 rfl rfl ?_
            refine xi_dup2 (pc' := 7) kc_12_6 rfl ⟨rfl, rfl⟩ ?_
            obtain ⟨y296, A296, hy296, ry296⟩ := xk_arr K.1 xD_140
            obtain ⟨v297, ev297, bv297, dv297⟩ := xj_get hy296 ry296 (i := 1) (by decide) (by decide)
            have A298 := ((eh293.2.1 140 (by decide)).trans ((eh290.2.1 140 (by decide)).trans A296))
            refine xi_iaload (pc' := 8) (v := v297) kc_12_7 rfl A298 (by decide) rfl (xi_in (by decide) (by rw [hy296]; decide)) ev297 ?_
            refine xi_iconst (pc' := 9) (v := 1) kc_12_8 rfl rfl ?_
            obtain ⟨v299, ev299⟩ : ∃ q : Int32, (v297 : Int32) + 1 = q := ⟨_, rfl⟩
            have rv299 := xc_rng v299
            refine xi_iadd (pc' := 10) (v := v299) kc_12_9 rfl ev299 ?_
            obtain ⟨y300, s300, hy300, ry300⟩ := xj_set (v := v299) hy296 ry296 1 (by first | omega | decide) (by first | omega | decide)
            refine xi_iastore (pc' := 11) (x' := y300) kc_12_10 rfl A298 rfl (xi_in (by decide) (by rw [hy296]; decide)) s300 (fun hh300 eh300 => ?_)
            have K301 := xk_pa K295 (xk_wa rfl) xD_140 hy300 ry300 eh300
            refine xi_iload_n (pc' := 12) (x := (-1)) kc_12_11 rfl rfl ?_
            refine xi_ireturn kc_12_12 mr_12 rfl ?_
            show xw J ov 99 32 (62, [(0, .ref 115), (1, .int a19), (2, .int a21), (3, .int a23), (4, .int a25)], [.int (-1)], hh300) _
            refine xi_ireturn kc_32_62 mr_32 rfl ?_
            show xw J ov 100 195 (707, [(4, .int x4), (3, .ref 167), (2, .ref 115), (1, .ref 0), (0, .ref 1000000)], [.int (-1), .int (-1)], hh300) _
            refine xi_cmt (pc' := 1501) kc_195_707 rfl rfl ?_
            obtain ⟨v302, ev302⟩ : ∃ q : Int32, x4 + 6 = q := ⟨_, rfl⟩
            have zv302 : v302.toInt = (x4.toInt + 6) := by rw [← ev302]; exact (xz_add (X := x4.toInt) (Y := 6) rfl (by decide) (by omega) (by omega)).trans (by omega)
            refine xi_iinc (pc' := 1504) (x := x4) (v := v302) (lv' := [(4, .int v302), (3, .ref 167), (2, .ref 115), (1, .ref 0), (0, .ref 1000000)]) kc_195_1501 rfl rfl ev302 rfl (xm_lt ml_195 rfl) ?_
            refine xi_goto (pc' := 23) kc_195_1504 rfl ?_
            have A303 := ((eh300.2.1 1 (by decide)).trans ((eh293.2.1 1 (by decide)).trans ((eh290.2.1 1 (by decide)).trans A3)))
            have A304 := ((eh300.2.1 115 (by decide)).trans eh293.1)
            exact kk v302 hh300 (by omega) K301 ⟨(xGR_kept I.1 (fun c hc => ((eh300.2.1 c (Ne.symm (xk_nc hc rfl))).trans ((eh293.2.1 c (Ne.symm (xk_nc hc rfl))).trans (eh290.2.1 c (Ne.symm (xk_nc hc rfl)))))) ((eh300.2.1 125 (by decide)).trans ((eh293.2.1 125 (by decide)).trans (eh290.2.1 125 (by decide))))), (xGR_kept I.2.1 (fun c hc => ((eh300.2.1 c (Ne.symm (xk_nc hc rfl))).trans ((eh293.2.1 c (Ne.symm (xk_nc hc rfl))).trans (eh290.2.1 c (Ne.symm (xk_nc hc rfl)))))) ((eh300.2.1 127 (by decide)).trans ((eh293.2.1 127 (by decide)).trans (eh290.2.1 127 (by decide))))), ((xl_of A303 rfl).trans (xl_of A304 rfl).symm)⟩
          · refine xi_cmf (pc' := 10) kc_104_7 rfl (xc_ge_f (X := a21.toInt) (Y := 12) rfl (by decide) (by omega)) ?_
            refine xi_iconst (pc' := 11) (v := 1) kc_104_10 rfl rfl ?_
            refine xi_goto (pc' := 15) kc_104_11 rfl ?_
            refine xi_ireturn kc_104_15 mr_104 rfl ?_
            show xw J ov 97 108 (4, [(0, .ref 1), (1, .int a21)], [.int 1], h) _
            refine xi_iff (pc' := 7) kc_108_4 rfl rfl ?_
            refine xi_aload_n (pc' := 8) (x := 1) kc_108_7 rfl rfl ?_
            refine xi_getfield (pc' := 11) (v := .ref 3) kc_108_8 rfl rfl rfl A3 rfl ?_
            refine xi_iload_n (pc' := 12) (x := a21) kc_108_11 rfl rfl ?_
            have A305 := xk_ex K.1 xD_3
            obtain ⟨pt306, ept306, mpt306⟩ := xR_3 (i := a21) (by omega) (by omega)
            refine xj_aaload (pc' := 13) (b := pt306) kc_108_12 rfl A305 rfl (xi_in (n := 12) (by omega) (by omega)) ept306 ?_
            obtain ⟨u307, u308, u309, u310, pt311, bu307, bu308, bu309, bu310, mpt311, A312⟩ := xg_wall K.1 mpt306
            obtain ⟨y313, A313, hy313, ry313⟩ := xk_arr K.1 xD_125
            have HG314 : y313.getD (Int32.toNatClampNeg a21) 0 = u307 := xGR_ld (Lo := [some 29, some 31, some 33, some 35, some 37, some 39, some 41, some 43, some 45, some 47, some 49, some 51]) I.1 rfl ept306 (by omega) (by show _ < ((12 : Nat) : Int); omega) A312 rfl A313
            have bHG314 : (-9) ≤ u307.toInt ∧ u307.toInt ≤ 5 := by rw [← HG314]; exact ry313 _ (xj_nat (n := 12) (by omega) (by omega))
            obtain ⟨y315, A315, hy315, ry315⟩ := xk_arr K.1 xD_127
            have HG316 : y315.getD (Int32.toNatClampNeg a21) 0 = u309 := xGR_ld (Lo := [some 29, some 31, some 33, some 35, some 37, some 39, some 41, some 43, some 45, some 47, some 49, some 51]) I.2.1 rfl ept306 (by omega) (by show _ < ((12 : Nat) : Int); omega) A312 rfl A315
            have bHG316 : 0 ≤ u309.toInt ∧ u309.toInt ≤ 1 := by rw [← HG316]; exact ry315 _ (xj_nat (n := 12) (by omega) (by omega))
            refine xi_virtual (mj := 105) (as := []) (st1 := []) (lv0 := [(0, .ref pt306)]) kc_108_13 rfl rfl rfl rfl rfl A312 (Nat.le_of_ble_eq_true rfl) (hJ _ _ _ _ (by decide)) (xm_le ml_105 rfl) rfl ?_
            refine xi_aload_n (pc' := 1) (x := pt306) kc_105_0 rfl rfl ?_
            refine xi_getfield (pc' := 4) (v := .int u307) kc_105_1 rfl rfl rfl A312 rfl ?_
            refine xi_static (mj := 89) (as := [.int u307]) (st1 := []) (lv0 := [(0, .int u307)]) kc_105_4 rfl rfl (Nat.le_of_ble_eq_true rfl) rfl rfl (Nat.le_of_ble_eq_true rfl) (hJ _ _ _ _ (by decide)) (xm_le ml_89 rfl) rfl ?_
            refine xi_iload_n (pc' := 1) (x := u307) kc_89_0 rfl rfl ?_
            by_cases c317 : u307.toInt < 0
            · refine xi_ift (pc' := 14) kc_89_1 rfl (xc_lt_t (X := u307.toInt) (Y := 0) rfl (by decide) (by omega)) ?_
              refine xi_iconst (pc' := 15) (v := 0) kc_89_14 rfl rfl ?_
              refine xi_ireturn kc_89_15 mr_89 rfl ?_
              show xw J ov 96 105 (7, [(0, .ref pt306)], [.int 0], h) _
              refine xi_ireturn kc_105_7 mr_105 rfl ?_
              show xw J ov 97 108 (16, [(0, .ref 1), (1, .int a21)], [.int 0], h) _
              refine xi_ift (pc' := 23) kc_108_16 rfl rfl ?_
              refine xi_iconst (pc' := 24) (v := 0) kc_108_23 rfl rfl ?_
              refine xi_ireturn kc_108_24 mr_108 rfl ?_
              show xw J ov 98 118 (15, [(0, .ref 1), (1, .int a19), (2, .int a21)], [.int 0], h) _
              refine xi_ift (pc' := 38) kc_118_15 rfl rfl ?_
              refine xi_iconst (pc' := 39) (v := 0) kc_118_38 rfl rfl ?_
              refine xi_ireturn kc_118_39 mr_118 rfl ?_
              show xw J ov 99 116 (23, [(0, .ref 0), (1, .int a19), (2, .int a21), (3, .int a23), (4, .int a25)], [.int 0], h) _
              refine xi_iff (pc' := 26) kc_116_23 rfl rfl ?_
              refine xi_aload_n (pc' := 27) (x := 0) kc_116_26 rfl rfl ?_
              refine xi_iconst (pc' := 28) (v := (-1)) kc_116_27 rfl rfl ?_
              refine xi_virtual (mj := 90) (as := [.int (-1)]) (st1 := []) (lv0 := [(0, .ref 0), (1, .int (-1))]) kc_116_28 rfl rfl rfl rfl rfl A28 (Nat.le_of_ble_eq_true rfl) (hJ _ _ _ _ (by decide)) (xm_le ml_90 rfl) rfl ?_
              refine xi_iload_n (pc' := 1) (x := (-1)) kc_90_0 rfl rfl ?_
              refine xi_ineg (pc' := 2) (v := 1) kc_90_1 rfl rfl ?_
              refine xi_istore_n (pc' := 3) (lv' := [(2, .int 1), (0, .ref 0), (1, .int (-1))]) kc_90_2 rfl rfl (xm_lt ml_90 rfl) ?_
              refine xi_iload_n (pc' := 4) (x := 1) kc_90_3 rfl rfl ?_
              refine xi_iff (pc' := 7) kc_90_4 rfl rfl ?_
              refine xi_iload_n (pc' := 8) (x := 1) kc_90_7 rfl rfl ?_
              refine xi_aload_n (pc' := 9) (x := 0) kc_90_8 rfl rfl ?_
              refine xi_getfield (pc' := 12) (v := .ref 94) kc_90_9 rfl rfl rfl A28 rfl ?_
              obtain ⟨y318, A318, hy318, ry318⟩ := xk_arr K.1 xD_94
              refine xi_arraylength (pc' := 13) (n := 7) (v := 7) kc_90_12 rfl (xl_lenI (by decide) (by decide) A318 hy318) rfl ?_
              refine xi_cmf (pc' := 16) kc_90_13 rfl rfl ?_
              refine xi_aload_n (pc' := 17) (x := 0) kc_90_16 rfl rfl ?_
              refine xi_getfield (pc' := 20) (v := .ref 94) kc_90_17 rfl rfl rfl A28 rfl ?_
              refine xi_iload_n (pc' := 21) (x := 1) kc_90_20 rfl rfl ?_
              refine xi_dup2 (pc' := 22) kc_90_21 rfl ⟨rfl, rfl⟩ ?_
              obtain ⟨v319, ev319, bv319, dv319⟩ := xj_get hy318 ry318 (i := 1) (by decide) (by decide)
              refine xi_iaload (pc' := 23) (v := v319) kc_90_22 rfl A318 (by decide) rfl (xi_in (by decide) (by rw [hy318]; decide)) ev319 ?_
              refine xi_iconst (pc' := 24) (v := 1) kc_90_23 rfl rfl ?_
              obtain ⟨v320, ev320⟩ : ∃ q : Int32, (v319 : Int32) + 1 = q := ⟨_, rfl⟩
              have rv320 := xc_rng v320
              refine xi_iadd (pc' := 25) (v := v320) kc_90_24 rfl ev320 ?_
              obtain ⟨y321, s321, hy321, ry321⟩ := xj_set (v := v320) hy318 ry318 1 (by first | omega | decide) (by first | omega | decide)
              refine xi_iastore (pc' := 26) (x' := y321) kc_90_25 rfl A318 rfl (xi_in (by decide) (by rw [hy318]; decide)) s321 (fun hh321 eh321 => ?_)
              have K322 := xk_pa K (xk_wa rfl) xD_94 hy321 ry321 eh321
              refine xi_iload_n (pc' := 27) (x := (-1)) kc_90_26 rfl rfl ?_
              refine xi_ireturn kc_90_27 mr_90 rfl ?_
              show xw J ov 99 116 (31, [(0, .ref 0), (1, .int a19), (2, .int a21), (3, .int a23), (4, .int a25)], [.int (-1)], hh321) _
              refine xi_ireturn kc_116_31 mr_116 rfl ?_
              show xw J ov 100 195 (679, [(4, .int x4), (3, .ref 167), (2, .ref 115), (1, .ref 0), (0, .ref 1000000)], [.int (-1)], hh321) _
              refine xi_aload_n (pc' := 680) (x := 115) kc_195_679 rfl rfl ?_
              refine xi_aload_n (pc' := 681) (x := 1000000) kc_195_680 rfl rfl ?_
              refine xi_iload (pc' := 683) (x := x4) kc_195_681 rfl rfl ?_
              refine xi_iconst (pc' := 684) (v := 1) kc_195_683 rfl rfl ?_
              refine xi_iadd (pc' := 685) (v := v18) kc_195_684 rfl ev18 ?_
              refine xi_ialoadO (pc' := 686) (v := a19) kc_195_685 rfl (by decide) hov0 (xi_in (by omega) (by omega)) ea19 ?_
              refine xi_aload_n (pc' := 687) (x := 1000000) kc_195_686 rfl rfl ?_
              refine xi_iload (pc' := 689) (x := x4) kc_195_687 rfl rfl ?_
              refine xi_iconst (pc' := 690) (v := 2) kc_195_689 rfl rfl ?_
              refine xi_iadd (pc' := 691) (v := v20) kc_195_690 rfl ev20 ?_
              refine xi_ialoadO (pc' := 692) (v := a21) kc_195_691 rfl (by decide) hov0 (xi_in (by omega) (by omega)) ea21 ?_
              refine xi_aload_n (pc' := 693) (x := 1000000) kc_195_692 rfl rfl ?_
              refine xi_iload (pc' := 695) (x := x4) kc_195_693 rfl rfl ?_
              refine xi_iconst (pc' := 696) (v := 3) kc_195_695 rfl rfl ?_
              refine xi_iadd (pc' := 697) (v := v22) kc_195_696 rfl ev22 ?_
              refine xi_ialoadO (pc' := 698) (v := a23) kc_195_697 rfl (by decide) hov0 (xi_in (by omega) (by omega)) ea23 ?_
              refine xi_aload_n (pc' := 699) (x := 1000000) kc_195_698 rfl rfl ?_
              refine xi_iload (pc' := 701) (x := x4) kc_195_699 rfl rfl ?_
              refine xi_iconst (pc' := 702) (v := 4) kc_195_701 rfl rfl ?_
              refine xi_iadd (pc' := 703) (v := v24) kc_195_702 rfl ev24 ?_
              refine xi_ialoadO (pc' := 704) (v := a25) kc_195_703 rfl (by decide) hov0 (xi_in (by omega) (by omega)) ea25 ?_
              have A323 := ((eh321.2.1 115 (by decide)).trans A17)
              refine xi_virtual (mj := 32) (as := [.int a19, .int a21, .int a23, .int a25]) (st1 := [.int (-1)]) (lv0 := [(0, .ref 115), (1, .int a19), (2, .int a21), (3, .int a23), (4, .int a25)]) kc_195_704 rfl rfl rfl rfl rfl A323 (Nat.le_of_ble_eq_true rfl) (hJ _ _ _ _ (by decide)) (xm_le ml_32 rfl) rfl ?_
              refine xi_aload_n (pc' := 1) (x := 115) kc_32_0 rfl rfl ?_
              refine xi_iconst (pc' := 2) (v := 0) kc_32_1 rfl rfl ?_
              refine xi_putfield (pc' := 5) (fs' := [.int 0, .int u5, .ref 116, .ref 117, .ref 118, .ref 119, .ref 120, .ref 121, .ref 122, .ref 123, .ref 124, .ref 125, .ref 126, .ref 127, .ref 128, .ref 129, .int u6, .ref 130, .int u7, .ref 131, .ref 132, .ref 133, .ref 134, .int u1, .ref 135, .ref 136, .ref 137, .ref 138, .ref 139, .ref 140, .ref 141, .ref 142, .int u9, .int u10, .int u11, .ref 143, .ref 144, .ref 145, .ref 146, .ref 147, .ref 148, .int u12, .ref 149, .ref 150, .ref 151, .int u13, .ref 152, .ref 153, .ref 154, .ref 155, .ref 156, .ref 157, .ref 158, .ref 159, .int u14, .ref 160, .int u15, .ref 161, .ref 162, .ref 163, .ref 164, .int u16, .ref 165, .ref 166]) kc_32_2 rfl rfl rfl A323 rfl rfl rfl (Nat.le_of_ble_eq_true rfl) rfl (fun hh325 eh324 => ?_)
              have K326 := xk_pf (k := 0) (v := 0) K322 (xk_wf rfl) xD_115 A323 rfl (by first | omega | decide) (by first | omega | decide) eh324 rfl
              refine xi_iload_n (pc' := 6) (x := a19) kc_32_5 rfl rfl ?_
              refine xi_iconst (pc' := 7) (v := 0) kc_32_6 rfl rfl ?_
              refine xi_iconst (pc' := 8) (v := 3) kc_32_7 rfl rfl ?_
              refine xi_static (mj := 11) (as := [.int a19, .int 0, .int 3]) (st1 := []) (lv0 := [(0, .int a19), (1, .int 0), (2, .int 3)]) kc_32_8 rfl rfl (Nat.le_of_ble_eq_true rfl) rfl rfl (Nat.le_of_ble_eq_true rfl) (hJ _ _ _ _ (by decide)) (xm_le ml_11 rfl) rfl ?_
              refine xi_iload_n (pc' := 1) (x := a19) kc_11_0 rfl rfl ?_
              refine xi_iload_n (pc' := 2) (x := 0) kc_11_1 rfl rfl ?_
              refine xi_cmf (pc' := 5) kc_11_2 rfl (xc_lt_f (X := a19.toInt) (Y := 0) rfl (by decide) (by omega)) ?_
              refine xi_iload_n (pc' := 6) (x := a19) kc_11_5 rfl rfl ?_
              refine xi_iload_n (pc' := 7) (x := 3) kc_11_6 rfl rfl ?_
              refine xi_cmf (pc' := 10) kc_11_7 rfl (xc_gt_f (X := a19.toInt) (Y := 3) rfl (by decide) (by omega)) ?_
              refine xi_iconst (pc' := 11) (v := 1) kc_11_10 rfl rfl ?_
              refine xi_goto (pc' := 15) kc_11_11 rfl ?_
              refine xi_ireturn kc_11_15 mr_11 rfl ?_
              show xw J ov 99 32 (11, [(0, .ref 115), (1, .int a19), (2, .int a21), (3, .int a23), (4, .int a25)], [.int 1], hh325) _
              refine xi_ift (pc' := 21) kc_32_11 rfl rfl ?_
              refine xi_iload_n (pc' := 22) (x := a19) kc_32_21 rfl rfl ?_
              refine xi_iconst (pc' := 23) (v := 3) kc_32_22 rfl rfl ?_
              refine xi_cmt (pc' := 36) kc_32_23 rfl (xc_ne_t (X := a19.toInt) (Y := 3) rfl (by decide) (by omega)) ?_
              refine xi_aload_n (pc' := 37) (x := 115) kc_32_36 rfl rfl ?_
              refine xi_iload_n (pc' := 38) (x := a21) kc_32_37 rfl rfl ?_
              refine xi_virtual (mj := 31) (as := [.int a21]) (st1 := []) (lv0 := [(0, .ref 115), (1, .int a21)]) kc_32_38 rfl rfl rfl rfl rfl eh324.1 (Nat.le_of_ble_eq_true rfl) (hJ _ _ _ _ (by decide)) (xm_le ml_31 rfl) rfl ?_
              refine xi_iload_n (pc' := 1) (x := a21) kc_31_0 rfl rfl ?_
              refine xi_static (mj := 24) (as := [.int a21]) (st1 := []) (lv0 := [(0, .int a21)]) kc_31_1 rfl rfl (Nat.le_of_ble_eq_true rfl) rfl rfl (Nat.le_of_ble_eq_true rfl) (hJ _ _ _ _ (by decide)) (xm_le ml_24 rfl) rfl ?_
              refine xi_iload_n (pc' := 1) (x := a21) kc_24_0 rfl rfl ?_
              refine xi_iconst (pc' := 2) (v := 0) kc_24_1 rfl rfl ?_
              refine xi_bipush (pc' := 4) (v := 11) kc_24_2 rfl rfl ?_
              refine xi_static (mj := 11) (as := [.int a21, .int 0, .int 11]) (st1 := []) (lv0 := [(0, .int a21), (1, .int 0), (2, .int 11)]) kc_24_4 rfl rfl (Nat.le_of_ble_eq_true rfl) rfl rfl (Nat.le_of_ble_eq_true rfl) (hJ _ _ _ _ (by decide)) (xm_le ml_11 rfl) rfl ?_
              refine xi_iload_n (pc' := 1) (x := a21) kc_11_0 rfl rfl ?_
              refine xi_iload_n (pc' := 2) (x := 0) kc_11_1 rfl rfl ?_
              refine xi_cmf (pc' := 5) kc_11_2 rfl (xc_lt_f (X := a21.toInt) (Y := 0) rfl (by decide) (by omega)) ?_
              refine xi_iload_n (pc' := 6) (x := a21) kc_11_5 rfl rfl ?_
              refine xi_iload_n (pc' := 7) (x := 11) kc_11_6 rfl rfl ?_
              refine xi_cmf (pc' := 10) kc_11_7 rfl (xc_gt_f (X := a21.toInt) (Y := 11) rfl (by decide) (by omega)) ?_
              refine xi_iconst (pc' := 11) (v := 1) kc_11_10 rfl rfl ?_
              refine xi_goto (pc' := 15) kc_11_11 rfl ?_
              refine xi_ireturn kc_11_15 mr_11 rfl ?_
              show xw J ov 97 24 (7, [(0, .int a21)], [.int 1], hh325) _
              refine xi_ireturn kc_24_7 mr_24 rfl ?_
              show xw J ov 98 31 (4, [(0, .ref 115), (1, .int a21)], [.int 1], hh325) _
              refine xi_iff (pc' := 7) kc_31_4 rfl rfl ?_
              refine xi_aload_n (pc' := 8) (x := 115) kc_31_7 rfl rfl ?_
              refine xi_getfield (pc' := 11) (v := .ref 125) kc_31_8 rfl rfl rfl eh324.1 rfl ?_
              refine xi_iload_n (pc' := 12) (x := a21) kc_31_11 rfl rfl ?_
              have A327 := ((eh324.2.1 125 (by decide)).trans ((eh321.2.1 125 (by decide)).trans A313))
              refine xi_iaload (pc' := 13) (v := u307) kc_31_12 rfl A327 (by decide) rfl (xi_in (by omega) (by rw [hy313]; omega)) HG314 ?_
              refine xi_ift (pc' := 20) kc_31_13 rfl (xc_lt_t (X := u307.toInt) (Y := 0) rfl (by decide) (by omega)) ?_
              refine xi_iconst (pc' := 21) (v := 0) kc_31_20 rfl rfl ?_
              refine xi_ireturn kc_31_21 mr_31 rfl ?_
              show xw J ov 99 32 (41, [(0, .ref 115), (1, .int a19), (2, .int a21), (3, .int a23), (4, .int a25)], [.int 0], hh325) _
              refine xi_ift (pc' := 57) kc_32_41 rfl rfl ?_
              refine xi_aload_n (pc' := 58) (x := 115) kc_32_57 rfl rfl ?_
              refine xi_iconst (pc' := 59) (v := (-1)) kc_32_58 rfl rfl ?_
              refine xi_virtual (mj := 12) (as := [.int (-1)]) (st1 := []) (lv0 := [(0, .ref 115), (1, .int (-1))]) kc_32_59 rfl rfl rfl rfl rfl eh324.1 (Nat.le_of_ble_eq_true rfl) (hJ _ _ _ _ (by decide)) (xm_le ml_12 rfl) rfl ?_
              refine xi_aload_n (pc' := 1) (x := 115) kc_12_0 rfl rfl ?_
              refine xi_getfield (pc' := 4) (v := .ref 140) kc_12_1 rfl rfl rfl eh324.1 rfl ?_
              refine xi_iload_n (pc' := 5) (x := (-1)) kc_12_4 rfl rfl ?_
              refine xi_ineg (pc' := 6) (v := 1) kc_12_5 rfl rfl ?_
              refine xi_dup2 (pc' := 7) kc_12_6 rfl ⟨rfl, rfl⟩ ?_
              obtain ⟨y328, A328, hy328, ry328⟩ := xk_arr K.1 xD_140
              obtain ⟨v329, ev329, bv329, dv329⟩ := xj_get hy328 ry328 (i := 1) (by decide) (by decide)
              have A330 := ((eh324.2.1 140 (by decide)).trans ((eh321.2.1 140 (by decide)).trans A328))
              refine xi_iaload (pc' := 8) (v := v329) kc_12_7 rfl A330 (by decide) rfl (xi_in (by decide) (by rw [hy328]; decide)) ev329 ?_
              refine xi_iconst (pc' := 9) (v := 1) kc_12_8 rfl rfl ?_
              obtain ⟨v331, ev331⟩ : ∃ q : Int32, (v329 : Int32) + 1 = q := ⟨_, rfl⟩
              have rv331 := xc_rng v331
              refine xi_iadd (pc' := 10) (v := v331) kc_12_9 rfl ev331 ?_
              obtain ⟨y332, s332, hy332, ry332⟩ := xj_set (v := v331) hy328 ry328 1 (by first | omega | decide) (by first | omega | decide)
              refine xi_iastore (pc' := 11) (x' := y332) kc_12_10 rfl A330 rfl (xi_in (by decide) (by rw [hy328]; decide)) s332 (fun hh332 eh332 => ?_)
              have K333 := xk_pa K326 (xk_wa rfl) xD_140 hy332 ry332 eh332
              refine xi_iload_n (pc' := 12) (x := (-1)) kc_12_11 rfl rfl ?_
              refine xi_ireturn kc_12_12 mr_12 rfl ?_
              show xw J ov 99 32 (62, [(0, .ref 115), (1, .int a19), (2, .int a21), (3, .int a23), (4, .int a25)], [.int (-1)], hh332) _
              refine xi_ireturn kc_32_62 mr_32 rfl ?_
              show xw J ov 100 195 (707, [(4, .int x4), (3, .ref 167), (2, .ref 115), (1, .ref 0), (0, .ref 1000000)], [.int (-1), .int (-1)], hh332) _
              refine xi_cmt (pc' := 1501) kc_195_707 rfl rfl ?_
              obtain ⟨v334, ev334⟩ : ∃ q : Int32, x4 + 6 = q := ⟨_, rfl⟩
              have zv334 : v334.toInt = (x4.toInt + 6) := by rw [← ev334]; exact (xz_add (X := x4.toInt) (Y := 6) rfl (by decide) (by omega) (by omega)).trans (by omega)
              refine xi_iinc (pc' := 1504) (x := x4) (v := v334) (lv' := [(4, .int v334), (3, .ref 167), (2, .ref 115), (1, .ref 0), (0, .ref 1000000)]) kc_195_1501 rfl rfl ev334 rfl (xm_lt ml_195 rfl) ?_
              refine xi_goto (pc' := 23) kc_195_1504 rfl ?_
              have A335 := ((eh332.2.1 1 (by decide)).trans ((eh324.2.1 1 (by decide)).trans ((eh321.2.1 1 (by decide)).trans A3)))
              have A336 := ((eh332.2.1 115 (by decide)).trans eh324.1)
              exact kk v334 hh332 (by omega) K333 ⟨(xGR_kept I.1 (fun c hc => ((eh332.2.1 c (Ne.symm (xk_nc hc rfl))).trans ((eh324.2.1 c (Ne.symm (xk_nc hc rfl))).trans (eh321.2.1 c (Ne.symm (xk_nc hc rfl)))))) ((eh332.2.1 125 (by decide)).trans ((eh324.2.1 125 (by decide)).trans (eh321.2.1 125 (by decide))))), (xGR_kept I.2.1 (fun c hc => ((eh332.2.1 c (Ne.symm (xk_nc hc rfl))).trans ((eh324.2.1 c (Ne.symm (xk_nc hc rfl))).trans (eh321.2.1 c (Ne.symm (xk_nc hc rfl)))))) ((eh332.2.1 127 (by decide)).trans ((eh324.2.1 127 (by decide)).trans (eh321.2.1 127 (by decide))))), ((xl_of A335 rfl).trans (xl_of A336 rfl).symm)⟩
            · refine xi_iff (pc' := 4) kc_89_1 rfl (xc_lt_f (X := u307.toInt) (Y := 0) rfl (by decide) (by omega)) ?_
              refine xi_iload_n (pc' := 5) (x := u307) kc_89_4 rfl rfl ?_
              refine xi_bipush (pc' := 7) (v := 6) kc_89_5 rfl rfl ?_
              refine xi_cmf (pc' := 10) kc_89_7 rfl (xc_ge_f (X := u307.toInt) (Y := 6) rfl (by decide) (by omega)) ?_
              refine xi_iconst (pc' := 11) (v := 1) kc_89_10 rfl rfl ?_
              refine xi_goto (pc' := 15) kc_89_11 rfl ?_
              refine xi_ireturn kc_89_15 mr_89 rfl ?_
              show xw J ov 96 105 (7, [(0, .ref pt306)], [.int 1], h) _
              refine xi_ireturn kc_105_7 mr_105 rfl ?_
              show xw J ov 97 108 (16, [(0, .ref 1), (1, .int a21)], [.int 1], h) _
              refine xi_iff (pc' := 19) kc_108_16 rfl rfl ?_
              refine xi_iconst (pc' := 20) (v := 1) kc_108_19 rfl rfl ?_
              refine xi_goto (pc' := 24) kc_108_20 rfl ?_
              refine xi_ireturn kc_108_24 mr_108 rfl ?_
              show xw J ov 98 118 (15, [(0, .ref 1), (1, .int a19), (2, .int a21)], [.int 1], h) _
              refine xi_iff (pc' := 18) kc_118_15 rfl rfl ?_
              refine xi_iload_n (pc' := 19) (x := a19) kc_118_18 rfl rfl ?_
              by_cases c337 : a19.toInt = 0
              · refine xi_iff (pc' := 22) kc_118_19 rfl (xc_ne_f (X := a19.toInt) (Y := 0) rfl (by decide) (by omega)) ?_
                refine xi_aload_n (pc' := 23) (x := 1) kc_118_22 rfl rfl ?_
                refine xi_getfield (pc' := 26) (v := .ref 3) kc_118_23 rfl rfl rfl A3 rfl ?_
                refine xi_iload_n (pc' := 27) (x := a21) kc_118_26 rfl rfl ?_
                refine xj_aaload (pc' := 28) (b := pt306) kc_118_27 rfl A305 rfl (xi_in (n := 12) (by omega) (by omega)) ept306 ?_
                refine xi_getfield (pc' := 31) (v := .int u309) kc_118_28 rfl rfl rfl A312 rfl ?_
                by_cases c338 : u309.toInt = 0
                · refine xi_ift (pc' := 38) kc_118_31 rfl (xc_eq_t (X := u309.toInt) (Y := 0) rfl (by decide) (by omega)) ?_
                  refine xi_iconst (pc' := 39) (v := 0) kc_118_38 rfl rfl ?_
                  refine xi_ireturn kc_118_39 mr_118 rfl ?_
                  show xw J ov 99 116 (23, [(0, .ref 0), (1, .int a19), (2, .int a21), (3, .int a23), (4, .int a25)], [.int 0], h) _
                  refine xi_iff (pc' := 26) kc_116_23 rfl rfl ?_
                  refine xi_aload_n (pc' := 27) (x := 0) kc_116_26 rfl rfl ?_
                  refine xi_iconst (pc' := 28) (v := (-1)) kc_116_27 rfl rfl ?_
                  refine xi_virtual (mj := 90) (as := [.int (-1)]) (st1 := []) (lv0 := [(0, .ref 0), (1, .int (-1))]) kc_116_28 rfl rfl rfl rfl rfl A28 (Nat.le_of_ble_eq_true rfl) (hJ _ _ _ _ (by decide)) (xm_le ml_90 rfl) rfl ?_
                  refine xi_iload_n (pc' := 1) (x := (-1)) kc_90_0 rfl rfl ?_
                  refine xi_ineg (pc' := 2) (v := 1) kc_90_1 rfl rfl ?_
                  refine xi_istore_n (pc' := 3) (lv' := [(2, .int 1), (0, .ref 0), (1, .int (-1))]) kc_90_2 rfl rfl (xm_lt ml_90 rfl) ?_
                  refine xi_iload_n (pc' := 4) (x := 1) kc_90_3 rfl rfl ?_
                  refine xi_iff (pc' := 7) kc_90_4 rfl rfl ?_
                  refine xi_iload_n (pc' := 8) (x := 1) kc_90_7 rfl rfl ?_
                  refine xi_aload_n (pc' := 9) (x := 0) kc_90_8 rfl rfl ?_
                  refine xi_getfield (pc' := 12) (v := .ref 94) kc_90_9 rfl rfl rfl A28 rfl ?_
                  obtain ⟨y339, A339, hy339, ry339⟩ := xk_arr K.1 xD_94
                  refine xi_arraylength (pc' := 13) (n := 7) (v := 7) kc_90_12 rfl (xl_lenI (by decide) (by decide) A339 hy339) rfl ?_
                  refine xi_cmf (pc' := 16) kc_90_13 rfl rfl ?_
                  refine xi_aload_n (pc' := 17) (x := 0) kc_90_16 rfl rfl ?_
                  refine xi_getfield (pc' := 20) (v := .ref 94) kc_90_17 rfl rfl rfl A28 rfl ?_
                  refine xi_iload_n (pc' := 21) (x := 1) kc_90_20 rfl rfl ?_
                  refine xi_dup2 (pc' := 22) kc_90_21 rfl ⟨rfl, rfl⟩ ?_
                  obtain ⟨v340, ev340, bv340, dv340⟩ := xj_get hy339 ry339 (i := 1) (by decide) (by decide)
                  refine xi_iaload (pc' := 23) (v := v340) kc_90_22 rfl A339 (by decide) rfl (xi_in (by decide) (by rw [hy339]; decide)) ev340 ?_
                  refine xi_iconst (pc' := 24) (v := 1) kc_90_23 rfl rfl ?_
                  obtain ⟨v341, ev341⟩ : ∃ q : Int32, (v340 : Int32) + 1 = q := ⟨_, rfl⟩
                  have rv341 := xc_rng v341
                  refine xi_iadd (pc' := 25) (v := v341) kc_90_24 rfl ev341 ?_
                  obtain ⟨y342, s342, hy342, ry342⟩ := xj_set (v := v341) hy339 ry339 1 (by first | omega | decide) (by first | omega | decide)
                  refine xi_iastore (pc' := 26) (x' := y342) kc_90_25 rfl A339 rfl (xi_in (by decide) (by rw [hy339]; decide)) s342 (fun hh342 eh342 => ?_)
                  have K343 := xk_pa K (xk_wa rfl) xD_94 hy342 ry342 eh342
                  refine xi_iload_n (pc' := 27) (x := (-1)) kc_90_26 rfl rfl ?_
                  refine xi_ireturn kc_90_27 mr_90 rfl ?_
                  show xw J ov 99 116 (31, [(0, .ref 0), (1, .int a19), (2, .int a21), (3, .int a23), (4, .int a25)], [.int (-1)], hh342) _
                  refine xi_ireturn kc_116_31 mr_116 rfl ?_
                  show xw J ov 100 195 (679, [(4, .int x4), (3, .ref 167), (2, .ref 115), (1, .ref 0), (0, .ref 1000000)], [.int (-1)], hh342) _
                  refine xi_aload_n (pc' := 680) (x := 115) kc_195_679 rfl rfl ?_
                  refine xi_aload_n (pc' := 681) (x := 1000000) kc_195_680 rfl rfl ?_
                  refine xi_iload (pc' := 683) (x := x4) kc_195_681 rfl rfl ?_
                  refine xi_iconst (pc' := 684) (v := 1) kc_195_683 rfl rfl ?_
                  refine xi_iadd (pc' := 685) (v := v18) kc_195_684 rfl ev18 ?_
                  refine xi_ialoadO (pc' := 686) (v := a19) kc_195_685 rfl (by decide) hov0 (xi_in (by omega) (by omega)) ea19 ?_
                  refine xi_aload_n (pc' := 687) (x := 1000000) kc_195_686 rfl rfl ?_
                  refine xi_iload (pc' := 689) (x := x4) kc_195_687 rfl rfl ?_
                  refine xi_iconst (pc' := 690) (v := 2) kc_195_689 rfl rfl ?_
                  refine xi_iadd (pc' := 691) (v := v20) kc_195_690 rfl ev20 ?_
                  refine xi_ialoadO (pc' := 692) (v := a21) kc_195_691 rfl (by decide) hov0 (xi_in (by omega) (by omega)) ea21 ?_
                  refine xi_aload_n (pc' := 693) (x := 1000000) kc_195_692 rfl rfl ?_
                  refine xi_iload (pc' := 695) (x := x4) kc_195_693 rfl rfl ?_
                  refine xi_iconst (pc' := 696) (v := 3) kc_195_695 rfl rfl ?_
                  refine xi_iadd (pc' := 697) (v := v22) kc_195_696 rfl ev22 ?_
                  refine xi_ialoadO (pc' := 698) (v := a23) kc_195_697 rfl (by decide) hov0 (xi_in (by omega) (by omega)) ea23 ?_
                  refine xi_aload_n (pc' := 699) (x := 1000000) kc_195_698 rfl rfl ?_
                  refine xi_iload (pc' := 701) (x := x4) kc_195_699 rfl rfl ?_
                  refine xi_iconst (pc' := 702) (v := 4) kc_195_701 rfl rfl ?_
                  refine xi_iadd (pc' := 703) (v := v24) kc_195_702 rfl ev24 ?_
                  refine xi_ialoadO (pc' := 704) (v := a25) kc_195_703 rfl (by decide) hov0 (xi_in (by omega) (by omega)) ea25 ?_
                  have A344 := ((eh342.2.1 115 (by decide)).trans A17)
                  refine xi_virtual (mj := 32) (as := [.int a19, .int a21, .int a23, .int a25]) (st1 := [.int (-1)]) (lv0 := [(0, .ref 115), (1, .int a19), (2, .int a21), (3, .int a23), (4, .int a25)]) kc_195_704 rfl rfl rfl rfl rfl A344 (Nat.le_of_ble_eq_true rfl) (hJ _ _ _ _ (by decide)) (xm_le ml_32 rfl) rfl ?_
                  refine xi_aload_n (pc' := 1) (x := 115) kc_32_0 rfl rfl ?_
                  refine xi_iconst (pc' := 2) (v := 0) kc_32_1 rfl rfl ?_
                  refine xi_putfield (pc' := 5) (fs' := [.int 0, .int u5, .ref 116, .ref 117, .ref 118, .ref 119, .ref 120, .ref 121, .ref 122, .ref 123, .ref 124, .ref 125, .ref 126, .ref 127, .ref 128, .ref 129, .int u6, .ref 130, .int u7, .ref 131, .ref 132, .ref 133, .ref 134, .int u1, .ref 135, .ref 136, .ref 137, .ref 138, .ref 139, .ref 140, .ref 141, .ref 142, .int u9, .int u10, .int u11, .ref 143, .ref 144, .ref 145, .ref 146, .ref 147, .ref 148, .int u12, .ref 149, .ref 150, .ref 151, .int u13, .ref 152, .ref 153, .ref 154, .ref 155, .ref 156, .ref 157, .ref 158, .ref 159, .int u14, .ref 160, .int u15, .ref 161, .ref 162, .ref 163, .ref 164, .int u16, .ref 165, .ref 166]) kc_32_2 rfl rfl rfl A344 rfl rfl rfl (Nat.le_of_ble_eq_true rfl) rfl (fun hh346 eh345 => ?_)
                  have K347 := xk_pf (k := 0) (v := 0) K343 (xk_wf rfl) xD_115 A344 rfl (by first | omega | decide) (by first | omega | decide) eh345 rfl
                  refine xi_iload_n (pc' := 6) (x := a19) kc_32_5 rfl rfl ?_
                  refine xi_iconst (pc' := 7) (v := 0) kc_32_6 rfl rfl ?_
                  refine xi_iconst (pc' := 8) (v := 3) kc_32_7 rfl rfl ?_
                  refine xi_static (mj := 11) (as := [.int a19, .int 0, .int 3]) (st1 := []) (lv0 := [(0, .int a19), (1, .int 0), (2, .int 3)]) kc_32_8 rfl rfl (Nat.le_of_ble_eq_true rfl) rfl rfl (Nat.le_of_ble_eq_true rfl) (hJ _ _ _ _ (by decide)) (xm_le ml_11 rfl) rfl ?_
                  refine xi_iload_n (pc' := 1) (x := a19) kc_11_0 rfl rfl ?_
                  refine xi_iload_n (pc' := 2) (x := 0) kc_11_1 rfl rfl ?_
                  refine xi_cmf (pc' := 5) kc_11_2 rfl (xc_lt_f (X := a19.toInt) (Y := 0) rfl (by decide) (by omega)) ?_
                  refine xi_iload_n (pc' := 6) (x := a19) kc_11_5 rfl rfl ?_
                  refine xi_iload_n (pc' := 7) (x := 3) kc_11_6 rfl rfl ?_
                  refine xi_cmf (pc' := 10) kc_11_7 rfl (xc_gt_f (X := a19.toInt) (Y := 3) rfl (by decide) (by omega)) ?_
                  refine xi_iconst (pc' := 11) (v := 1) kc_11_10 rfl rfl ?_
                  refine xi_goto (pc' := 15) kc_11_11 rfl ?_
                  refine xi_ireturn kc_11_15 mr_11 rfl ?_
                  show xw J ov 99 32 (11, [(0, .ref 115), (1, .int a19), (2, .int a21), (3, .int a23), (4, .int a25)], [.int 1], hh346) _
                  refine xi_ift (pc' := 21) kc_32_11 rfl rfl ?_
                  refine xi_iload_n (pc' := 22) (x := a19) kc_32_21 rfl rfl ?_
                  refine xi_iconst (pc' := 23) (v := 3) kc_32_22 rfl rfl ?_
                  refine xi_cmt (pc' := 36) kc_32_23 rfl (xc_ne_t (X := a19.toInt) (Y := 3) rfl (by decide) (by omega)) ?_
                  refine xi_aload_n (pc' := 37) (x := 115) kc_32_36 rfl rfl ?_
                  refine xi_iload_n (pc' := 38) (x := a21) kc_32_37 rfl rfl ?_
                  refine xi_virtual (mj := 31) (as := [.int a21]) (st1 := []) (lv0 := [(0, .ref 115), (1, .int a21)]) kc_32_38 rfl rfl rfl rfl rfl eh345.1 (Nat.le_of_ble_eq_true rfl) (hJ _ _ _ _ (by decide)) (xm_le ml_31 rfl) rfl ?_
                  refine xi_iload_n (pc' := 1) (x := a21) kc_31_0 rfl rfl ?_
                  refine xi_static (mj := 24) (as := [.int a21]) (st1 := []) (lv0 := [(0, .int a21)]) kc_31_1 rfl rfl (Nat.le_of_ble_eq_true rfl) rfl rfl (Nat.le_of_ble_eq_true rfl) (hJ _ _ _ _ (by decide)) (xm_le ml_24 rfl) rfl ?_
                  refine xi_iload_n (pc' := 1) (x := a21) kc_24_0 rfl rfl ?_
                  refine xi_iconst (pc' := 2) (v := 0) kc_24_1 rfl rfl ?_
                  refine xi_bipush (pc' := 4) (v := 11) kc_24_2 rfl rfl ?_
                  refine xi_static (mj := 11) (as := [.int a21, .int 0, .int 11]) (st1 := []) (lv0 := [(0, .int a21), (1, .int 0), (2, .int 11)]) kc_24_4 rfl rfl (Nat.le_of_ble_eq_true rfl) rfl rfl (Nat.le_of_ble_eq_true rfl) (hJ _ _ _ _ (by decide)) (xm_le ml_11 rfl) rfl ?_
                  refine xi_iload_n (pc' := 1) (x := a21) kc_11_0 rfl rfl ?_
                  refine xi_iload_n (pc' := 2) (x := 0) kc_11_1 rfl rfl ?_
                  refine xi_cmf (pc' := 5) kc_11_2 rfl (xc_lt_f (X := a21.toInt) (Y := 0) rfl (by decide) (by omega)) ?_
                  refine xi_iload_n (pc' := 6) (x := a21) kc_11_5 rfl rfl ?_
                  refine xi_iload_n (pc' := 7) (x := 11) kc_11_6 rfl rfl ?_
                  refine xi_cmf (pc' := 10) kc_11_7 rfl (xc_gt_f (X := a21.toInt) (Y := 11) rfl (by decide) (by omega)) ?_
                  refine xi_iconst (pc' := 11) (v := 1) kc_11_10 rfl rfl ?_
                  refine xi_goto (pc' := 15) kc_11_11 rfl ?_
                  refine xi_ireturn kc_11_15 mr_11 rfl ?_
                  show xw J ov 97 24 (7, [(0, .int a21)], [.int 1], hh346) _
                  refine xi_ireturn kc_24_7 mr_24 rfl ?_
                  show xw J ov 98 31 (4, [(0, .ref 115), (1, .int a21)], [.int 1], hh346) _
                  refine xi_iff (pc' := 7) kc_31_4 rfl rfl ?_
                  refine xi_aload_n (pc' := 8) (x := 115) kc_31_7 rfl rfl ?_
                  refine xi_getfield (pc' := 11) (v := .ref 125) kc_31_8 rfl rfl rfl eh345.1 rfl ?_
                  refine xi_iload_n (pc' := 12) (x := a21) kc_31_11 rfl rfl ?_
                  have A348 := ((eh345.2.1 125 (by decide)).trans ((eh342.2.1 125 (by decide)).trans A313))
                  refine xi_iaload (pc' := 13) (v := u307) kc_31_12 rfl A348 (by decide) rfl (xi_in (by omega) (by rw [hy313]; omega)) HG314 ?_
                  refine xi_iff (pc' := 16) kc_31_13 rfl (xc_lt_f (X := u307.toInt) (Y := 0) rfl (by decide) (by omega)) ?_
                  refine xi_iconst (pc' := 17) (v := 1) kc_31_16 rfl rfl ?_
                  refine xi_goto (pc' := 21) kc_31_17 rfl ?_
                  refine xi_ireturn kc_31_21 mr_31 rfl ?_
                  show xw J ov 99 32 (41, [(0, .ref 115), (1, .int a19), (2, .int a21), (3, .int a23), (4, .int a25)], [.int 1], hh346) _
                  refine xi_iff (pc' := 44) kc_32_41 rfl rfl ?_
                  refine xi_iload_n (pc' := 45) (x := a19) kc_32_44 rfl rfl ?_
                  refine xi_iff (pc' := 48) kc_32_45 rfl (xc_ne_f (X := a19.toInt) (Y := 0) rfl (by decide) (by omega)) ?_
                  refine xi_aload_n (pc' := 49) (x := 115) kc_32_48 rfl rfl ?_
                  refine xi_getfield (pc' := 52) (v := .ref 127) kc_32_49 rfl rfl rfl eh345.1 rfl ?_
                  refine xi_iload_n (pc' := 53) (x := a21) kc_32_52 rfl rfl ?_
                  have A349 := ((eh345.2.1 127 (by decide)).trans ((eh342.2.1 127 (by decide)).trans A315))
                  refine xi_baload (pc' := 54) (v := u309) kc_32_53 rfl A349 rfl (xi_in (by omega) (by rw [hy315]; omega)) HG316 ?_
                  refine xi_iff (pc' := 57) kc_32_54 rfl (xc_ne_f (X := u309.toInt) (Y := 0) rfl (by decide) (by omega)) ?_
                  refine xi_aload_n (pc' := 58) (x := 115) kc_32_57 rfl rfl ?_
                  refine xi_iconst (pc' := 59) (v := (-1)) kc_32_58 rfl rfl ?_
                  refine xi_virtual (mj := 12) (as := [.int (-1)]) (st1 := []) (lv0 := [(0, .ref 115), (1, .int (-1))]) kc_32_59 rfl rfl rfl rfl rfl eh345.1 (Nat.le_of_ble_eq_true rfl) (hJ _ _ _ _ (by decide)) (xm_le ml_12 rfl) rfl ?_
                  refine xi_aload_n (pc' := 1) (x := 115) kc_12_0 rfl rfl ?_
                  refine xi_getfield (pc' := 4) (v := .ref 140) kc_12_1 rfl rfl rfl eh345.1 rfl ?_
                  refine xi_iload_n (pc' := 5) (x := (-1)) kc_12_4 rfl rfl ?_
                  refine xi_ineg (pc' := 6) (v := 1) kc_12_5 rfl rfl ?_
                  refine xi_dup2 (pc' := 7) kc_12_6 rfl ⟨rfl, rfl⟩ ?_
                  obtain ⟨y350, A350, hy350, ry350⟩ := xk_arr K.1 xD_140
                  obtain ⟨v351, ev351, bv351, dv351⟩ := xj_get hy350 ry350 (i := 1) (by decide) (by decide)
                  have A352 := ((eh345.2.1 140 (by decide)).trans ((eh342.2.1 140 (by decide)).trans A350))
                  refine xi_iaload (pc' := 8) (v := v351) kc_12_7 rfl A352 (by decide) rfl (xi_in (by decide) (by rw [hy350]; decide)) ev351 ?_
                  refine xi_iconst (pc' := 9) (v := 1) kc_12_8 rfl rfl ?_
                  obtain ⟨v353, ev353⟩ : ∃ q : Int32, (v351 : Int32) + 1 = q := ⟨_, rfl⟩
                  have rv353 := xc_rng v353
                  refine xi_iadd (pc' := 10) (v := v353) kc_12_9 rfl ev353 ?_
                  obtain ⟨y354, s354, hy354, ry354⟩ := xj_set (v := v353) hy350 ry350 1 (by first | omega | decide) (by first | omega | decide)
                  refine xi_iastore (pc' := 11) (x' := y354) kc_12_10 rfl A352 rfl (xi_in (by decide) (by rw [hy350]; decide)) s354 (fun hh354 eh354 => ?_)
                  have K355 := xk_pa K347 (xk_wa rfl) xD_140 hy354 ry354 eh354
                  refine xi_iload_n (pc' := 12) (x := (-1)) kc_12_11 rfl rfl ?_
                  refine xi_ireturn kc_12_12 mr_12 rfl ?_
                  show xw J ov 99 32 (62, [(0, .ref 115), (1, .int a19), (2, .int a21), (3, .int a23), (4, .int a25)], [.int (-1)], hh354) _
                  refine xi_ireturn kc_32_62 mr_32 rfl ?_
                  show xw J ov 100 195 (707, [(4, .int x4), (3, .ref 167), (2, .ref 115), (1, .ref 0), (0, .ref 1000000)], [.int (-1), .int (-1)], hh354) _
                  refine xi_cmt (pc' := 1501) kc_195_707 rfl rfl ?_
                  obtain ⟨v356, ev356⟩ : ∃ q : Int32, x4 + 6 = q := ⟨_, rfl⟩
                  have zv356 : v356.toInt = (x4.toInt + 6) := by rw [← ev356]; exact (xz_add (X := x4.toInt) (Y := 6) rfl (by decide) (by omega) (by omega)).trans (by omega)
                  refine xi_iinc (pc' := 1504) (x := x4) (v := v356) (lv' := [(4, .int v356), (3, .ref 167), (2, .ref 115), (1, .ref 0), (0, .ref 1000000)]) kc_195_1501 rfl rfl ev356 rfl (xm_lt ml_195 rfl) ?_
                  refine xi_goto (pc' := 23) kc_195_1504 rfl ?_
                  have A357 := ((eh354.2.1 1 (by decide)).trans ((eh345.2.1 1 (by decide)).trans ((eh342.2.1 1 (by decide)).trans A3)))
                  have A358 := ((eh354.2.1 115 (by decide)).trans eh345.1)
                  exact kk v356 hh354 (by omega) K355 ⟨(xGR_kept I.1 (fun c hc => ((eh354.2.1 c (Ne.symm (xk_nc hc rfl))).trans ((eh345.2.1 c (Ne.symm (xk_nc hc rfl))).trans (eh342.2.1 c (Ne.symm (xk_nc hc rfl)))))) ((eh354.2.1 125 (by decide)).trans ((eh345.2.1 125 (by decide)).trans (eh342.2.1 125 (by decide))))), (xGR_kept I.2.1 (fun c hc => ((eh354.2.1 c (Ne.symm (xk_nc hc rfl))).trans ((eh345.2.1 c (Ne.symm (xk_nc hc rfl))).trans (eh342.2.1 c (Ne.symm (xk_nc hc rfl)))))) ((eh354.2.1 127 (by decide)).trans ((eh345.2.1 127 (by decide)).trans (eh342.2.1 127 (by decide))))), ((xl_of A357 rfl).trans (xl_of A358 rfl).symm)⟩
                · refine xi_iff (pc' := 34) kc_118_31 rfl (xc_eq_f (X := u309.toInt) (Y := 0) rfl (by decide) (by omega)) ?_
                  refine xi_iconst (pc' := 35) (v := 1) kc_118_34 rfl rfl ?_
                  refine xi_goto (pc' := 39) kc_118_35 rfl ?_
                  refine xi_ireturn kc_118_39 mr_118 rfl ?_
                  show xw J ov 99 116 (23, [(0, .ref 0), (1, .int a19), (2, .int a21), (3, .int a23), (4, .int a25)], [.int 1], h) _
                  refine xi_ift (pc' := 32) kc_116_23 rfl rfl ?_
                  refine xi_iload_n (pc' := 33) (x := a23) kc_116_32 rfl rfl ?_
                  refine xi_iconst (pc' := 34) (v := 1) kc_116_33 rfl rfl ?_
                  by_cases c359 : a23.toInt < 1
                  · refine xi_cmt (pc' := 42) kc_116_34 rfl (xc_lt_t (X := a23.toInt) (Y := 1) rfl (by decide) (by omega)) ?_
                    refine xi_aload_n (pc' := 43) (x := 0) kc_116_42 rfl rfl ?_
                    refine xi_bipush (pc' := 45) (v := (-4)) kc_116_43 rfl rfl ?_
                    refine xi_virtual (mj := 90) (as := [.int (-4)]) (st1 := []) (lv0 := [(0, .ref 0), (1, .int (-4))]) kc_116_45 rfl rfl rfl rfl rfl A28 (Nat.le_of_ble_eq_true rfl) (hJ _ _ _ _ (by decide)) (xm_le ml_90 rfl) rfl ?_
                    refine xi_iload_n (pc' := 1) (x := (-4)) kc_90_0 rfl rfl ?_
                    refine xi_ineg (pc' := 2) (v := 4) kc_90_1 rfl rfl ?_
                    refine xi_istore_n (pc' := 3) (lv' := [(2, .int 4), (0, .ref 0), (1, .int (-4))]) kc_90_2 rfl rfl (xm_lt ml_90 rfl) ?_
                    refine xi_iload_n (pc' := 4) (x := 4) kc_90_3 rfl rfl ?_
                    refine xi_iff (pc' := 7) kc_90_4 rfl rfl ?_
                    refine xi_iload_n (pc' := 8) (x := 4) kc_90_7 rfl rfl ?_
                    refine xi_aload_n (pc' := 9) (x := 0) kc_90_8 rfl rfl ?_
                    refine xi_getfield (pc' := 12) (v := .ref 94) kc_90_9 rfl rfl rfl A28 rfl ?_
                    obtain ⟨y360, A360, hy360, ry360⟩ := xk_arr K.1 xD_94
                    refine xi_arraylength (pc' := 13) (n := 7) (v := 7) kc_90_12 rfl (xl_lenI (by decide) (by decide) A360 hy360) rfl ?_
                    refine xi_cmf (pc' := 16) kc_90_13 rfl rfl ?_
                    refine xi_aload_n (pc' := 17) (x := 0) kc_90_16 rfl rfl ?_
                    refine xi_getfield (pc' := 20) (v := .ref 94) kc_90_17 rfl rfl rfl A28 rfl ?_
                    refine xi_iload_n (pc' := 21) (x := 4) kc_90_20 rfl rfl ?_
                    refine xi_dup2 (pc' := 22) kc_90_21 rfl ⟨rfl, rfl⟩ ?_
                    obtain ⟨v361, ev361, bv361, dv361⟩ := xj_get hy360 ry360 (i := 4) (by decide) (by decide)
                    refine xi_iaload (pc' := 23) (v := v361) kc_90_22 rfl A360 (by decide) rfl (xi_in (by decide) (by rw [hy360]; decide)) ev361 ?_
                    refine xi_iconst (pc' := 24) (v := 1) kc_90_23 rfl rfl ?_
                    obtain ⟨v362, ev362⟩ : ∃ q : Int32, (v361 : Int32) + 1 = q := ⟨_, rfl⟩
                    have rv362 := xc_rng v362
                    refine xi_iadd (pc' := 25) (v := v362) kc_90_24 rfl ev362 ?_
                    obtain ⟨y363, s363, hy363, ry363⟩ := xj_set (v := v362) hy360 ry360 4 (by first | omega | decide) (by first | omega | decide)
                    refine xi_iastore (pc' := 26) (x' := y363) kc_90_25 rfl A360 rfl (xi_in (by decide) (by rw [hy360]; decide)) s363 (fun hh363 eh363 => ?_)
                    have K364 := xk_pa K (xk_wa rfl) xD_94 hy363 ry363 eh363
                    refine xi_iload_n (pc' := 27) (x := (-4)) kc_90_26 rfl rfl ?_
                    refine xi_ireturn kc_90_27 mr_90 rfl ?_
                    show xw J ov 99 116 (48, [(0, .ref 0), (1, .int a19), (2, .int a21), (3, .int a23), (4, .int a25)], [.int (-4)], hh363) _
                    refine xi_ireturn kc_116_48 mr_116 rfl ?_
                    show xw J ov 100 195 (679, [(4, .int x4), (3, .ref 167), (2, .ref 115), (1, .ref 0), (0, .ref 1000000)], [.int (-4)], hh363) _
                    refine xi_aload_n (pc' := 680) (x := 115) kc_195_679 rfl rfl ?_
                    refine xi_aload_n (pc' := 681) (x := 1000000) kc_195_680 rfl rfl ?_
                    refine xi_iload (pc' := 683) (x := x4) kc_195_681 rfl rfl ?_
                    refine xi_iconst (pc' := 684) (v := 1) kc_195_683 rfl rfl ?_
                    refine xi_iadd (pc' := 685) (v := v18) kc_195_684 rfl ev18 ?_
                    refine xi_ialoadO (pc' := 686) (v := a19) kc_195_685 rfl (by decide) hov0 (xi_in (by omega) (by omega)) ea19 ?_
                    refine xi_aload_n (pc' := 687) (x := 1000000) kc_195_686 rfl rfl ?_
                    refine xi_iload (pc' := 689) (x := x4) kc_195_687 rfl rfl ?_
                    refine xi_iconst (pc' := 690) (v := 2) kc_195_689 rfl rfl ?_
                    refine xi_iadd (pc' := 691) (v := v20) kc_195_690 rfl ev20 ?_
                    refine xi_ialoadO (pc' := 692) (v := a21) kc_195_691 rfl (by decide) hov0 (xi_in (by omega) (by omega)) ea21 ?_
                    refine xi_aload_n (pc' := 693) (x := 1000000) kc_195_692 rfl rfl ?_
                    refine xi_iload (pc' := 695) (x := x4) kc_195_693 rfl rfl ?_
                    refine xi_iconst (pc' := 696) (v := 3) kc_195_695 rfl rfl ?_
                    refine xi_iadd (pc' := 697) (v := v22) kc_195_696 rfl ev22 ?_
                    refine xi_ialoadO (pc' := 698) (v := a23) kc_195_697 rfl (by decide) hov0 (xi_in (by omega) (by omega)) ea23 ?_
                    refine xi_aload_n (pc' := 699) (x := 1000000) kc_195_698 rfl rfl ?_
                    refine xi_iload (pc' := 701) (x := x4) kc_195_699 rfl rfl ?_
                    refine xi_iconst (pc' := 702) (v := 4) kc_195_701 rfl rfl ?_
                    refine xi_iadd (pc' := 703) (v := v24) kc_195_702 rfl ev24 ?_
                    refine xi_ialoadO (pc' := 704) (v := a25) kc_195_703 rfl (by decide) hov0 (xi_in (by omega) (by omega)) ea25 ?_
                    have A365 := ((eh363.2.1 115 (by decide)).trans A17)
                    refine xi_virtual (mj := 32) (as := [.int a19, .int a21, .int a23, .int a25]) (st1 := [.int (-4)]) (lv0 := [(0, .ref 115), (1, .int a19), (2, .int a21), (3, .int a23), (4, .int a25)]) kc_195_704 rfl rfl rfl rfl rfl A365 (Nat.le_of_ble_eq_true rfl) (hJ _ _ _ _ (by decide)) (xm_le ml_32 rfl) rfl ?_
                    refine xi_aload_n (pc' := 1) (x := 115) kc_32_0 rfl rfl ?_
                    refine xi_iconst (pc' := 2) (v := 0) kc_32_1 rfl rfl ?_
                    refine xi_putfield (pc' := 5) (fs' := [.int 0, .int u5, .ref 116, .ref 117, .ref 118, .ref 119, .ref 120, .ref 121, .ref 122, .ref 123, .ref 124, .ref 125, .ref 126, .ref 127, .ref 128, .ref 129, .int u6, .ref 130, .int u7, .ref 131, .ref 132, .ref 133, .ref 134, .int u1, .ref 135, .ref 136, .ref 137, .ref 138, .ref 139, .ref 140, .ref 141, .ref 142, .int u9, .int u10, .int u11, .ref 143, .ref 144, .ref 145, .ref 146, .ref 147, .ref 148, .int u12, .ref 149, .ref 150, .ref 151, .int u13, .ref 152, .ref 153, .ref 154, .ref 155, .ref 156, .ref 157, .ref 158, .ref 159, .int u14, .ref 160, .int u15, .ref 161, .ref 162, .ref 163, .ref 164, .int u16, .ref 165, .ref 166]) kc_32_2 rfl rfl rfl A365 rfl rfl rfl (Nat.le_of_ble_eq_true rfl) rfl (fun hh367 eh366 => ?_)
                    have K368 := xk_pf (k := 0) (v := 0) K364 (xk_wf rfl) xD_115 A365 rfl (by first | omega | decide) (by first | omega | decide) eh366 rfl
                    refine xi_iload_n (pc' := 6) (x := a19) kc_32_5 rfl rfl ?_
                    refine xi_iconst (pc' := 7) (v := 0) kc_32_6 rfl rfl ?_
                    refine xi_iconst (pc' := 8) (v := 3) kc_32_7 rfl rfl ?_
                    refine xi_static (mj := 11) (as := [.int a19, .int 0, .int 3]) (st1 := []) (lv0 := [(0, .int a19), (1, .int 0), (2, .int 3)]) kc_32_8 rfl rfl (Nat.le_of_ble_eq_true rfl) rfl rfl (Nat.le_of_ble_eq_true rfl) (hJ _ _ _ _ (by decide)) (xm_le ml_11 rfl) rfl ?_
                    refine xi_iload_n (pc' := 1) (x := a19) kc_11_0 rfl rfl ?_
                    refine xi_iload_n (pc' := 2) (x := 0) kc_11_1 rfl rfl ?_
                    refine xi_cmf (pc' := 5) kc_11_2 rfl (xc_lt_f (X := a19.toInt) (Y := 0) rfl (by decide) (by omega)) ?_
                    refine xi_iload_n (pc' := 6) (x := a19) kc_11_5 rfl rfl ?_
                    refine xi_iload_n (pc' := 7) (x := 3) kc_11_6 rfl rfl ?_
                    refine xi_cmf (pc' := 10) kc_11_7 rfl (xc_gt_f (X := a19.toInt) (Y := 3) rfl (by decide) (by omega)) ?_
                    refine xi_iconst (pc' := 11) (v := 1) kc_11_10 rfl rfl ?_
                    refine xi_goto (pc' := 15) kc_11_11 rfl ?_
                    refine xi_ireturn kc_11_15 mr_11 rfl ?_
                    show xw J ov 99 32 (11, [(0, .ref 115), (1, .int a19), (2, .int a21), (3, .int a23), (4, .int a25)], [.int 1], hh367) _
                    refine xi_ift (pc' := 21) kc_32_11 rfl rfl ?_
                    refine xi_iload_n (pc' := 22) (x := a19) kc_32_21 rfl rfl ?_
                    refine xi_iconst (pc' := 23) (v := 3) kc_32_22 rfl rfl ?_
                    refine xi_cmt (pc' := 36) kc_32_23 rfl (xc_ne_t (X := a19.toInt) (Y := 3) rfl (by decide) (by omega)) ?_
                    refine xi_aload_n (pc' := 37) (x := 115) kc_32_36 rfl rfl ?_
                    refine xi_iload_n (pc' := 38) (x := a21) kc_32_37 rfl rfl ?_
                    refine xi_virtual (mj := 31) (as := [.int a21]) (st1 := []) (lv0 := [(0, .ref 115), (1, .int a21)]) kc_32_38 rfl rfl rfl rfl rfl eh366.1 (Nat.le_of_ble_eq_true rfl) (hJ _ _ _ _ (by decide)) (xm_le ml_31 rfl) rfl ?_
                    refine xi_iload_n (pc' := 1) (x := a21) kc_31_0 rfl rfl ?_
                    refine xi_static (mj := 24) (as := [.int a21]) (st1 := []) (lv0 := [(0, .int a21)]) kc_31_1 rfl rfl (Nat.le_of_ble_eq_true rfl) rfl rfl (Nat.le_of_ble_eq_true rfl) (hJ _ _ _ _ (by decide)) (xm_le ml_24 rfl) rfl ?_
                    refine xi_iload_n (pc' := 1) (x := a21) kc_24_0 rfl rfl ?_
                    refine xi_iconst (pc' := 2) (v := 0) kc_24_1 rfl rfl ?_
                    refine xi_bipush (pc' := 4) (v := 11) kc_24_2 rfl rfl ?_
                    refine xi_static (mj := 11) (as := [.int a21, .int 0, .int 11]) (st1 := []) (lv0 := [(0, .int a21), (1, .int 0), (2, .int 11)]) kc_24_4 rfl rfl (Nat.le_of_ble_eq_true rfl) rfl rfl (Nat.le_of_ble_eq_true rfl) (hJ _ _ _ _ (by decide)) (xm_le ml_11 rfl) rfl ?_
                    refine xi_iload_n (pc' := 1) (x := a21) kc_11_0 rfl rfl ?_
                    refine xi_iload_n (pc' := 2) (x := 0) kc_11_1 rfl rfl ?_
                    refine xi_cmf (pc' := 5) kc_11_2 rfl (xc_lt_f (X := a21.toInt) (Y := 0) rfl (by decide) (by omega)) ?_
                    refine xi_iload_n (pc' := 6) (x := a21) kc_11_5 rfl rfl ?_
                    refine xi_iload_n (pc' := 7) (x := 11) kc_11_6 rfl rfl ?_
                    refine xi_cmf (pc' := 10) kc_11_7 rfl (xc_gt_f (X := a21.toInt) (Y := 11) rfl (by decide) (by omega)) ?_
                    refine xi_iconst (pc' := 11) (v := 1) kc_11_10 rfl rfl ?_
                    refine xi_goto (pc' := 15) kc_11_11 rfl ?_
                    refine xi_ireturn kc_11_15 mr_11 rfl ?_
                    show xw J ov 97 24 (7, [(0, .int a21)], [.int 1], hh367) _
                    refine xi_ireturn kc_24_7 mr_24 rfl ?_
                    show xw J ov 98 31 (4, [(0, .ref 115), (1, .int a21)], [.int 1], hh367) _
                    refine xi_iff (pc' := 7) kc_31_4 rfl rfl ?_
                    refine xi_aload_n (pc' := 8) (x := 115) kc_31_7 rfl rfl ?_
                    refine xi_getfield (pc' := 11) (v := .ref 125) kc_31_8 rfl rfl rfl eh366.1 rfl ?_
                    refine xi_iload_n (pc' := 12) (x := a21) kc_31_11 rfl rfl ?_
                    have A369 := ((eh366.2.1 125 (by decide)).trans ((eh363.2.1 125 (by decide)).trans A313))
                    refine xi_iaload (pc' := 13) (v := u307) kc_31_12 rfl A369 (by decide) rfl (xi_in (by omega) (by rw [hy313]; omega)) HG314 ?_
                    refine xi_iff (pc' := 16) kc_31_13 rfl (xc_lt_f (X := u307.toInt) (Y := 0) rfl (by decide) (by omega)) ?_
                    refine xi_iconst (pc' := 17) (v := 1) kc_31_16 rfl rfl ?_
                    refine xi_goto (pc' := 21) kc_31_17 rfl ?_
                    refine xi_ireturn kc_31_21 mr_31 rfl ?_
                    show xw J ov 99 32 (41, [(0, .ref 115), (1, .int a19), (2, .int a21), (3, .int a23), (4, .int a25)], [.int 1], hh367) _
                    refine xi_iff (pc' := 44) kc_32_41 rfl rfl ?_
                    refine xi_iload_n (pc' := 45) (x := a19) kc_32_44 rfl rfl ?_
                    refine xi_iff (pc' := 48) kc_32_45 rfl (xc_ne_f (X := a19.toInt) (Y := 0) rfl (by decide) (by omega)) ?_
                    refine xi_aload_n (pc' := 49) (x := 115) kc_32_48 rfl rfl ?_
                    refine xi_getfield (pc' := 52) (v := .ref 127) kc_32_49 rfl rfl rfl eh366.1 rfl ?_
                    refine xi_iload_n (pc' := 53) (x := a21) kc_32_52 rfl rfl ?_
                    have A370 := ((eh366.2.1 127 (by decide)).trans ((eh363.2.1 127 (by decide)).trans A315))
                    refine xi_baload (pc' := 54) (v := u309) kc_32_53 rfl A370 rfl (xi_in (by omega) (by rw [hy315]; omega)) HG316 ?_
                    refine xi_ift (pc' := 63) kc_32_54 rfl (xc_ne_t (X := u309.toInt) (Y := 0) rfl (by decide) (by omega)) ?_
                    refine xi_iload_n (pc' := 64) (x := a23) kc_32_63 rfl rfl ?_
                    refine xi_iconst (pc' := 65) (v := 1) kc_32_64 rfl rfl ?_
                    refine xi_cmt (pc' := 73) kc_32_65 rfl (xc_lt_t (X := a23.toInt) (Y := 1) rfl (by decide) (by omega)) ?_
                    refine xi_aload_n (pc' := 74) (x := 115) kc_32_73 rfl rfl ?_
                    refine xi_bipush (pc' := 76) (v := (-4)) kc_32_74 rfl rfl ?_
                    refine xi_virtual (mj := 12) (as := [.int (-4)]) (st1 := []) (lv0 := [(0, .ref 115), (1, .int (-4))]) kc_32_76 rfl rfl rfl rfl rfl eh366.1 (Nat.le_of_ble_eq_true rfl) (hJ _ _ _ _ (by decide)) (xm_le ml_12 rfl) rfl ?_
                    refine xi_aload_n (pc' := 1) (x := 115) kc_12_0 rfl rfl ?_
                    refine xi_getfield (pc' := 4) (v := .ref 140) kc_12_1 rfl rfl rfl eh366.1 rfl ?_
                    refine xi_iload_n (pc' := 5) (x := (-4)) kc_12_4 rfl rfl ?_
                    refine xi_ineg (pc' := 6) (v := 4) kc_12_5 rfl rfl ?_
                    refine xi_dup2 (pc' := 7) kc_12_6 rfl ⟨rfl, rfl⟩ ?_
                    obtain ⟨y371, A371, hy371, ry371⟩ := xk_arr K.1 xD_140
                    obtain ⟨v372, ev372, bv372, dv372⟩ := xj_get hy371 ry371 (i := 4) (by decide) (by decide)
                    have A373 := ((eh366.2.1 140 (by decide)).trans ((eh363.2.1 140 (by decide)).trans A371))
                    refine xi_iaload (pc' := 8) (v := v372) kc_12_7 rfl A373 (by decide) rfl (xi_in (by decide) (by rw [hy371]; decide)) ev372 ?_
                    refine xi_iconst (pc' := 9) (v := 1) kc_12_8 rfl rfl ?_
                    obtain ⟨v374, ev374⟩ : ∃ q : Int32, (v372 : Int32) + 1 = q := ⟨_, rfl⟩
                    have rv374 := xc_rng v374
                    refine xi_iadd (pc' := 10) (v := v374) kc_12_9 rfl ev374 ?_
                    obtain ⟨y375, s375, hy375, ry375⟩ := xj_set (v := v374) hy371 ry371 4 (by first | omega | decide) (by first | omega | decide)
                    refine xi_iastore (pc' := 11) (x' := y375) kc_12_10 rfl A373 rfl (xi_in (by decide) (by rw [hy371]; decide)) s375 (fun hh375 eh375 => ?_)
                    have K376 := xk_pa K368 (xk_wa rfl) xD_140 hy375 ry375 eh375
                    refine xi_iload_n (pc' := 12) (x := (-4)) kc_12_11 rfl rfl ?_
                    refine xi_ireturn kc_12_12 mr_12 rfl ?_
                    show xw J ov 99 32 (79, [(0, .ref 115), (1, .int a19), (2, .int a21), (3, .int a23), (4, .int a25)], [.int (-4)], hh375) _
                    refine xi_ireturn kc_32_79 mr_32 rfl ?_
                    show xw J ov 100 195 (707, [(4, .int x4), (3, .ref 167), (2, .ref 115), (1, .ref 0), (0, .ref 1000000)], [.int (-4), .int (-4)], hh375) _
                    refine xi_cmt (pc' := 1501) kc_195_707 rfl rfl ?_
                    obtain ⟨v377, ev377⟩ : ∃ q : Int32, x4 + 6 = q := ⟨_, rfl⟩
                    have zv377 : v377.toInt = (x4.toInt + 6) := by rw [← ev377]; exact (xz_add (X := x4.toInt) (Y := 6) rfl (by decide) (by omega) (by omega)).trans (by omega)
                    refine xi_iinc (pc' := 1504) (x := x4) (v := v377) (lv' := [(4, .int v377), (3, .ref 167), (2, .ref 115), (1, .ref 0), (0, .ref 1000000)]) kc_195_1501 rfl rfl ev377 rfl (xm_lt ml_195 rfl) ?_
                    refine xi_goto (pc' := 23) kc_195_1504 rfl ?_
                    have A378 := ((eh375.2.1 1 (by decide)).trans ((eh366.2.1 1 (by decide)).trans ((eh363.2.1 1 (by decide)).trans A3)))
                    have A379 := ((eh375.2.1 115 (by decide)).trans eh366.1)
                    exact kk v377 hh375 (by omega) K376 ⟨(xGR_kept I.1 (fun c hc => ((eh375.2.1 c (Ne.symm (xk_nc hc rfl))).trans ((eh366.2.1 c (Ne.symm (xk_nc hc rfl))).trans (eh363.2.1 c (Ne.symm (xk_nc hc rfl)))))) ((eh375.2.1 125 (by decide)).trans ((eh366.2.1 125 (by decide)).trans (eh363.2.1 125 (by decide))))), (xGR_kept I.2.1 (fun c hc => ((eh375.2.1 c (Ne.symm (xk_nc hc rfl))).trans ((eh366.2.1 c (Ne.symm (xk_nc hc rfl))).trans (eh363.2.1 c (Ne.symm (xk_nc hc rfl)))))) ((eh375.2.1 127 (by decide)).trans ((eh366.2.1 127 (by decide)).trans (eh363.2.1 127 (by decide))))), ((xl_of A378 rfl).trans (xl_of A379 rfl).symm)⟩
                  · refine xi_cmf (pc' := 37) kc_116_34 rfl (xc_lt_f (X := a23.toInt) (Y := 1) rfl (by decide) (by omega)) ?_
                    refine xi_iload (pc' := 39) (x := a25) kc_116_37 rfl rfl ?_
                    by_cases c380 : 0 ≤ a25.toInt
                    · refine xi_ift (pc' := 49) kc_116_39 rfl (xc_ge_t (X := a25.toInt) (Y := 0) rfl (by decide) (by omega)) ?_
                      refine xi_iload_n (pc' := 50) (x := a23) kc_116_49 rfl rfl ?_
                      refine xi_bipush (pc' := 52) (v := 99) kc_116_50 rfl rfl ?_
                      by_cases c381 : 99 < a23.toInt
                      · refine xi_cmt (pc' := 75) kc_116_52 rfl (xc_gt_t (X := a23.toInt) (Y := 99) rfl (by decide) (by omega)) ?_
                        refine xi_aload_n (pc' := 76) (x := 0) kc_116_75 rfl rfl ?_
                        refine xi_bipush (pc' := 78) (v := (-6)) kc_116_76 rfl rfl ?_
                        refine xi_virtual (mj := 90) (as := [.int (-6)]) (st1 := []) (lv0 := [(0, .ref 0), (1, .int (-6))]) kc_116_78 rfl rfl rfl rfl rfl A28 (Nat.le_of_ble_eq_true rfl) (hJ _ _ _ _ (by decide)) (xm_le ml_90 rfl) rfl ?_
                        refine xi_iload_n (pc' := 1) (x := (-6)) kc_90_0 rfl rfl ?_
                        refine xi_ineg (pc' := 2) (v := 6) kc_90_1 rfl rfl ?_
                        refine xi_istore_n (pc' := 3) (lv' := [(2, .int 6), (0, .ref 0), (1, .int (-6))]) kc_90_2 rfl rfl (xm_lt ml_90 rfl) ?_
                        refine xi_iload_n (pc' := 4) (x := 6) kc_90_3 rfl rfl ?_
                        refine xi_iff (pc' := 7) kc_90_4 rfl rfl ?_
                        refine xi_iload_n (pc' := 8) (x := 6) kc_90_7 rfl rfl ?_
                        refine xi_aload_n (pc' := 9) (x := 0) kc_90_8 rfl rfl ?_
                        refine xi_getfield (pc' := 12) (v := .ref 94) kc_90_9 rfl rfl rfl A28 rfl ?_
                        obtain ⟨y382, A382, hy382, ry382⟩ := xk_arr K.1 xD_94
                        refine xi_arraylength (pc' := 13) (n := 7) (v := 7) kc_90_12 rfl (xl_lenI (by decide) (by decide) A382 hy382) rfl ?_
                        refine xi_cmf (pc' := 16) kc_90_13 rfl rfl ?_
                        refine xi_aload_n (pc' := 17) (x := 0) kc_90_16 rfl rfl ?_
                        refine xi_getfield (pc' := 20) (v := .ref 94) kc_90_17 rfl rfl rfl A28 rfl ?_
                        refine xi_iload_n (pc' := 21) (x := 6) kc_90_20 rfl rfl ?_
                        refine xi_dup2 (pc' := 22) kc_90_21 rfl ⟨rfl, rfl⟩ ?_
                        obtain ⟨v383, ev383, bv383, dv383⟩ := xj_get hy382 ry382 (i := 6) (by decide) (by decide)
                        refine xi_iaload (pc' := 23) (v := v383) kc_90_22 rfl A382 (by decide) rfl (xi_in (by decide) (by rw [hy382]; decide)) ev383 ?_
                        refine xi_iconst (pc' := 24) (v := 1) kc_90_23 rfl rfl ?_
                        obtain ⟨v384, ev384⟩ : ∃ q : Int32, (v383 : Int32) + 1 = q := ⟨_, rfl⟩
                        have rv384 := xc_rng v384
                        refine xi_iadd (pc' := 25) (v := v384) kc_90_24 rfl ev384 ?_
                        obtain ⟨y385, s385, hy385, ry385⟩ := xj_set (v := v384) hy382 ry382 6 (by first | omega | decide) (by first | omega | decide)
                        refine xi_iastore (pc' := 26) (x' := y385) kc_90_25 rfl A382 rfl (xi_in (by decide) (by rw [hy382]; decide)) s385 (fun hh385 eh385 => ?_)
                        have K386 := xk_pa K (xk_wa rfl) xD_94 hy385 ry385 eh385
                        refine xi_iload_n (pc' := 27) (x := (-6)) kc_90_26 rfl rfl ?_
                        refine xi_ireturn kc_90_27 mr_90 rfl ?_
                        show xw J ov 99 116 (81, [(0, .ref 0), (1, .int a19), (2, .int a21), (3, .int a23), (4, .int a25)], [.int (-6)], hh385) _
                        refine xi_ireturn kc_116_81 mr_116 rfl ?_
                        show xw J ov 100 195 (679, [(4, .int x4), (3, .ref 167), (2, .ref 115), (1, .ref 0), (0, .ref 1000000)], [.int (-6)], hh385) _
                        refine xi_aload_n (pc' := 680) (x := 115) kc_195_679 rfl rfl ?_
                        refine xi_aload_n (pc' := 681) (x := 1000000) kc_195_680 rfl rfl ?_
                        refine xi_iload (pc' := 683) (x := x4) kc_195_681 rfl rfl ?_
                        refine xi_iconst (pc' := 684) (v := 1) kc_195_683 rfl rfl ?_
                        refine xi_iadd (pc' := 685) (v := v18) kc_195_684 rfl ev18 ?_
                        refine xi_ialoadO (pc' := 686) (v := a19) kc_195_685 rfl (by decide) hov0 (xi_in (by omega) (by omega)) ea19 ?_
                        refine xi_aload_n (pc' := 687) (x := 1000000) kc_195_686 rfl rfl ?_
                        refine xi_iload (pc' := 689) (x := x4) kc_195_687 rfl rfl ?_
                        refine xi_iconst (pc' := 690) (v := 2) kc_195_689 rfl rfl ?_
                        refine xi_iadd (pc' := 691) (v := v20) kc_195_690 rfl ev20 ?_
                        refine xi_ialoadO (pc' := 692) (v := a21) kc_195_691 rfl (by decide) hov0 (xi_in (by omega) (by omega)) ea21 ?_
                        refine xi_aload_n (pc' := 693) (x := 1000000) kc_195_692 rfl rfl ?_
                        refine xi_iload (pc' := 695) (x := x4) kc_195_693 rfl rfl ?_
                        refine xi_iconst (pc' := 696) (v := 3) kc_195_695 rfl rfl ?_
                        refine xi_iadd (pc' := 697) (v := v22) kc_195_696 rfl ev22 ?_
                        refine xi_ialoadO (pc' := 698) (v := a23) kc_195_697 rfl (by decide) hov0 (xi_in (by omega) (by omega)) ea23 ?_
                        refine xi_aload_n (pc' := 699) (x := 1000000) kc_195_698 rfl rfl ?_
                        refine xi_iload (pc' := 701) (x := x4) kc_195_699 rfl rfl ?_
                        refine xi_iconst (pc' := 702) (v := 4) kc_195_701 rfl rfl ?_
                        refine xi_iadd (pc' := 703) (v := v24) kc_195_702 rfl ev24 ?_
                        refine xi_ialoadO (pc' := 704) (v := a25) kc_195_703 rfl (by decide) hov0 (xi_in (by omega) (by omega)) ea25 ?_
                        have A387 := ((eh385.2.1 115 (by decide)).trans A17)
                        refine xi_virtual (mj := 32) (as := [.int a19, .int a21, .int a23, .int a25]) (st1 := [.int (-6)]) (lv0 := [(0, .ref 115), (1, .int a19), (2, .int a21), (3, .int a23), (4, .int a25)]) kc_195_704 rfl rfl rfl rfl rfl A387 (Nat.le_of_ble_eq_true rfl) (hJ _ _ _ _ (by decide)) (xm_le ml_32 rfl) rfl ?_
                        refine xi_aload_n (pc' := 1) (x := 115) kc_32_0 rfl rfl ?_
                        refine xi_iconst (pc' := 2) (v := 0) kc_32_1 rfl rfl ?_
                        refine xi_putfield (pc' := 5) (fs' := [.int 0, .int u5, .ref 116, .ref 117, .ref 118, .ref 119, .ref 120, .ref 121, .ref 122, .ref 123, .ref 124, .ref 125, .ref 126, .ref 127, .ref 128, .ref 129, .int u6, .ref 130, .int u7, .ref 131, .ref 132, .ref 133, .ref 134, .int u1, .ref 135, .ref 136, .ref 137, .ref 138, .ref 139, .ref 140, .ref 141, .ref 142, .int u9, .int u10, .int u11, .ref 143, .ref 144, .ref 145, .ref 146, .ref 147, .ref 148, .int u12, .ref 149, .ref 150, .ref 151, .int u13, .ref 152, .ref 153, .ref 154, .ref 155, .ref 156, .ref 157, .ref 158, .ref 159, .int u14, .ref 160, .int u15, .ref 161, .ref 162, .ref 163, .ref 164, .int u16, .ref 165, .ref 166]) kc_32_2 rfl rfl rfl A387 rfl rfl rfl (Nat.le_of_ble_eq_true rfl) rfl (fun hh389 eh388 => ?_)
                        have K390 := xk_pf (k := 0) (v := 0) K386 (xk_wf rfl) xD_115 A387 rfl (by first | omega | decide) (by first | omega | decide) eh388 rfl
                        refine xi_iload_n (pc' := 6) (x := a19) kc_32_5 rfl rfl ?_
                        refine xi_iconst (pc' := 7) (v := 0) kc_32_6 rfl rfl ?_
                        refine xi_iconst (pc' := 8) (v := 3) kc_32_7 rfl rfl ?_
                        refine xi_static (mj := 11) (as := [.int a19, .int 0, .int 3]) (st1 := []) (lv0 := [(0, .int a19), (1, .int 0), (2, .int 3)]) kc_32_8 rfl rfl (Nat.le_of_ble_eq_true rfl) rfl rfl (Nat.le_of_ble_eq_true rfl) (hJ _ _ _ _ (by decide)) (xm_le ml_11 rfl) rfl ?_
                        refine xi_iload_n (pc' := 1) (x := a19) kc_11_0 rfl rfl ?_
                        refine xi_iload_n (pc' := 2) (x := 0) kc_11_1 rfl rfl ?_
                        refine xi_cmf (pc' := 5) kc_11_2 rfl (xc_lt_f (X := a19.toInt) (Y := 0) rfl (by decide) (by omega)) ?_
                        refine xi_iload_n (pc' := 6) (x := a19) kc_11_5 rfl rfl ?_
                        refine xi_iload_n (pc' := 7) (x := 3) kc_11_6 rfl rfl ?_
                        refine xi_cmf (pc' := 10) kc_11_7 rfl (xc_gt_f (X := a19.toInt) (Y := 3) rfl (by decide) (by omega)) ?_
                        refine xi_iconst (pc' := 11) (v := 1) kc_11_10 rfl rfl ?_
                        refine xi_goto (pc' := 15) kc_11_11 rfl ?_
                        refine xi_ireturn kc_11_15 mr_11 rfl ?_
                        show xw J ov 99 32 (11, [(0, .ref 115), (1, .int a19), (2, .int a21), (3, .int a23), (4, .int a25)], [.int 1], hh389) _
                        refine xi_ift (pc' := 21) kc_32_11 rfl rfl ?_
                        refine xi_iload_n (pc' := 22) (x := a19) kc_32_21 rfl rfl ?_
                        refine xi_iconst (pc' := 23) (v := 3) kc_32_22 rfl rfl ?_
                        refine xi_cmt (pc' := 36) kc_32_23 rfl (xc_ne_t (X := a19.toInt) (Y := 3) rfl (by decide) (by omega)) ?_
                        refine xi_aload_n (pc' := 37) (x := 115) kc_32_36 rfl rfl ?_
                        refine xi_iload_n (pc' := 38) (x := a21) kc_32_37 rfl rfl ?_
                        refine xi_virtual (mj := 31) (as := [.int a21]) (st1 := []) (lv0 := [(0, .ref 115), (1, .int a21)]) kc_32_38 rfl rfl rfl rfl rfl eh388.1 (Nat.le_of_ble_eq_true rfl) (hJ _ _ _ _ (by decide)) (xm_le ml_31 rfl) rfl ?_
                        refine xi_iload_n (pc' := 1) (x := a21) kc_31_0 rfl rfl ?_
                        refine xi_static (mj := 24) (as := [.int a21]) (st1 := []) (lv0 := [(0, .int a21)]) kc_31_1 rfl rfl (Nat.le_of_ble_eq_true rfl) rfl rfl (Nat.le_of_ble_eq_true rfl) (hJ _ _ _ _ (by decide)) (xm_le ml_24 rfl) rfl ?_
                        refine xi_iload_n (pc' := 1) (x := a21) kc_24_0 rfl rfl ?_
                        refine xi_iconst (pc' := 2) (v := 0) kc_24_1 rfl rfl ?_
                        refine xi_bipush (pc' := 4) (v := 11) kc_24_2 rfl rfl ?_
                        refine xi_static (mj := 11) (as := [.int a21, .int 0, .int 11]) (st1 := []) (lv0 := [(0, .int a21), (1, .int 0), (2, .int 11)]) kc_24_4 rfl rfl (Nat.le_of_ble_eq_true rfl) rfl rfl (Nat.le_of_ble_eq_true rfl) (hJ _ _ _ _ (by decide)) (xm_le ml_11 rfl) rfl ?_
                        refine xi_iload_n (pc' := 1) (x := a21) kc_11_0 rfl rfl ?_
                        refine xi_iload_n (pc' := 2) (x := 0) kc_11_1 rfl rfl ?_
                        refine xi_cmf (pc' := 5) kc_11_2 rfl (xc_lt_f (X := a21.toInt) (Y := 0) rfl (by decide) (by omega)) ?_
                        refine xi_iload_n (pc' := 6) (x := a21) kc_11_5 rfl rfl ?_
                        refine xi_iload_n (pc' := 7) (x := 11) kc_11_6 rfl rfl ?_
                        refine xi_cmf (pc' := 10) kc_11_7 rfl (xc_gt_f (X := a21.toInt) (Y := 11) rfl (by decide) (by omega)) ?_
                        refine xi_iconst (pc' := 11) (v := 1) kc_11_10 rfl rfl ?_
                        refine xi_goto (pc' := 15) kc_11_11 rfl ?_
                        refine xi_ireturn kc_11_15 mr_11 rfl ?_
                        show xw J ov 97 24 (7, [(0, .int a21)], [.int 1], hh389) _
                        refine xi_ireturn kc_24_7 mr_24 rfl ?_
                        show xw J ov 98 31 (4, [(0, .ref 115), (1, .int a21)], [.int 1], hh389) _
                        refine xi_iff (pc' := 7) kc_31_4 rfl rfl ?_
                        refine xi_aload_n (pc' := 8) (x := 115) kc_31_7 rfl rfl ?_
                        refine xi_getfield (pc' := 11) (v := .ref 125) kc_31_8 rfl rfl rfl eh388.1 rfl ?_
                        refine xi_iload_n (pc' := 12) (x := a21) kc_31_11 rfl rfl ?_
                        have A391 := ((eh388.2.1 125 (by decide)).trans ((eh385.2.1 125 (by decide)).trans A313))
                        refine xi_iaload (pc' := 13) (v := u307) kc_31_12 rfl A391 (by decide) rfl (xi_in (by omega) (by rw [hy313]; omega)) HG314 ?_
                        refine xi_iff (pc' := 16) kc_31_13 rfl (xc_lt_f (X := u307.toInt) (Y := 0) rfl (by decide) (by omega)) ?_
                        refine xi_iconst (pc' := 17) (v := 1) kc_31_16 rfl rfl ?_
                        refine xi_goto (pc' := 21) kc_31_17 rfl ?_
                        refine xi_ireturn kc_31_21 mr_31 rfl ?_
                        show xw J ov 99 32 (41, [(0, .ref 115), (1, .int a19), (2, .int a21), (3, .int a23), (4, .int a25)], [.int 1], hh389) _
                        refine xi_iff (pc' := 44) kc_32_41 rfl rfl ?_
                        refine xi_iload_n (pc' := 45) (x := a19) kc_32_44 rfl rfl ?_
                        refine xi_iff (pc' := 48) kc_32_45 rfl (xc_ne_f (X := a19.toInt) (Y := 0) rfl (by decide) (by omega)) ?_
                        refine xi_aload_n (pc' := 49) (x := 115) kc_32_48 rfl rfl ?_
                        refine xi_getfield (pc' := 52) (v := .ref 127) kc_32_49 rfl rfl rfl eh388.1 rfl ?_
                        refine xi_iload_n (pc' := 53) (x := a21) kc_32_52 rfl rfl ?_
                        have A392 := ((eh388.2.1 127 (by decide)).trans ((eh385.2.1 127 (by decide)).trans A315))
                        refine xi_baload (pc' := 54) (v := u309) kc_32_53 rfl A392 rfl (xi_in (by omega) (by rw [hy315]; omega)) HG316 ?_
                        refine xi_ift (pc' := 63) kc_32_54 rfl (xc_ne_t (X := u309.toInt) (Y := 0) rfl (by decide) (by omega)) ?_
                        refine xi_iload_n (pc' := 64) (x := a23) kc_32_63 rfl rfl ?_
                        refine xi_iconst (pc' := 65) (v := 1) kc_32_64 rfl rfl ?_
                        refine xi_cmf (pc' := 68) kc_32_65 rfl (xc_lt_f (X := a23.toInt) (Y := 1) rfl (by decide) (by omega)) ?_
                        refine xi_iload (pc' := 70) (x := a25) kc_32_68 rfl rfl ?_
                        refine xi_ift (pc' := 80) kc_32_70 rfl (xc_ge_t (X := a25.toInt) (Y := 0) rfl (by decide) (by omega)) ?_
                        refine xi_iload_n (pc' := 81) (x := a23) kc_32_80 rfl rfl ?_
                        refine xi_bipush (pc' := 83) (v := 99) kc_32_81 rfl rfl ?_
                        refine xi_cmt (pc' := 103) kc_32_83 rfl (xc_gt_t (X := a23.toInt) (Y := 99) rfl (by decide) (by omega)) ?_
                        refine xi_aload_n (pc' := 104) (x := 115) kc_32_103 rfl rfl ?_
                        refine xi_bipush (pc' := 106) (v := (-6)) kc_32_104 rfl rfl ?_
                        refine xi_virtual (mj := 12) (as := [.int (-6)]) (st1 := []) (lv0 := [(0, .ref 115), (1, .int (-6))]) kc_32_106 rfl rfl rfl rfl rfl eh388.1 (Nat.le_of_ble_eq_true rfl) (hJ _ _ _ _ (by decide)) (xm_le ml_12 rfl) rfl ?_
                        refine xi_aload_n (pc' := 1) (x := 115) kc_12_0 rfl rfl ?_
                        refine xi_getfield (pc' := 4) (v := .ref 140) kc_12_1 rfl rfl rfl eh388.1 rfl ?_
                        refine xi_iload_n (pc' := 5) (x := (-6)) kc_12_4 rfl rfl ?_
                        refine xi_ineg (pc' := 6) (v := 6) kc_12_5 rfl rfl ?_
                        refine xi_dup2 (pc' := 7) kc_12_6 rfl ⟨rfl, rfl⟩ ?_
                        obtain ⟨y393, A393, hy393, ry393⟩ := xk_arr K.1 xD_140
                        obtain ⟨v394, ev394, bv394, dv394⟩ := xj_get hy393 ry393 (i := 6) (by decide) (by decide)
                        have A395 := ((eh388.2.1 140 (by decide)).trans ((eh385.2.1 140 (by decide)).trans A393))
                        refine xi_iaload (pc' := 8) (v := v394) kc_12_7 rfl A395 (by decide) rfl (xi_in (by decide) (by rw [hy393]; decide)) ev394 ?_
                        refine xi_iconst (pc' := 9) (v := 1) kc_12_8 rfl rfl ?_
                        obtain ⟨v396, ev396⟩ : ∃ q : Int32, (v394 : Int32) + 1 = q := ⟨_, rfl⟩
                        have rv396 := xc_rng v396
                        refine xi_iadd (pc' := 10) (v := v396) kc_12_9 rfl ev396 ?_
                        obtain ⟨y397, s397, hy397, ry397⟩ := xj_set (v := v396) hy393 ry393 6 (by first | omega | decide) (by first | omega | decide)
                        refine xi_iastore (pc' := 11) (x' := y397) kc_12_10 rfl A395 rfl (xi_in (by decide) (by rw [hy393]; decide)) s397 (fun hh397 eh397 => ?_)
                        have K398 := xk_pa K390 (xk_wa rfl) xD_140 hy397 ry397 eh397
                        refine xi_iload_n (pc' := 12) (x := (-6)) kc_12_11 rfl rfl ?_
                        refine xi_ireturn kc_12_12 mr_12 rfl ?_
                        show xw J ov 99 32 (109, [(0, .ref 115), (1, .int a19), (2, .int a21), (3, .int a23), (4, .int a25)], [.int (-6)], hh397) _
                        refine xi_ireturn kc_32_109 mr_32 rfl ?_
                        show xw J ov 100 195 (707, [(4, .int x4), (3, .ref 167), (2, .ref 115), (1, .ref 0), (0, .ref 1000000)], [.int (-6), .int (-6)], hh397) _
                        refine xi_cmt (pc' := 1501) kc_195_707 rfl rfl ?_
                        obtain ⟨v399, ev399⟩ : ∃ q : Int32, x4 + 6 = q := ⟨_, rfl⟩
                        have zv399 : v399.toInt = (x4.toInt + 6) := by rw [← ev399]; exact (xz_add (X := x4.toInt) (Y := 6) rfl (by decide) (by omega) (by omega)).trans (by omega)
                        refine xi_iinc (pc' := 1504) (x := x4) (v := v399) (lv' := [(4, .int v399), (3, .ref 167), (2, .ref 115), (1, .ref 0), (0, .ref 1000000)]) kc_195_1501 rfl rfl ev399 rfl (xm_lt ml_195 rfl) ?_
                        refine xi_goto (pc' := 23) kc_195_1504 rfl ?_
                        have A400 := ((eh397.2.1 1 (by decide)).trans ((eh388.2.1 1 (by decide)).trans ((eh385.2.1 1 (by decide)).trans A3)))
                        have A401 := ((eh397.2.1 115 (by decide)).trans eh388.1)
                        exact kk v399 hh397 (by omega) K398 ⟨(xGR_kept I.1 (fun c hc => ((eh397.2.1 c (Ne.symm (xk_nc hc rfl))).trans ((eh388.2.1 c (Ne.symm (xk_nc hc rfl))).trans (eh385.2.1 c (Ne.symm (xk_nc hc rfl)))))) ((eh397.2.1 125 (by decide)).trans ((eh388.2.1 125 (by decide)).trans (eh385.2.1 125 (by decide))))), (xGR_kept I.2.1 (fun c hc => ((eh397.2.1 c (Ne.symm (xk_nc hc rfl))).trans ((eh388.2.1 c (Ne.symm (xk_nc hc rfl))).trans (eh385.2.1 c (Ne.symm (xk_nc hc rfl)))))) ((eh397.2.1 127 (by decide)).trans ((eh388.2.1 127 (by decide)).trans (eh385.2.1 127 (by decide))))), ((xl_of A400 rfl).trans (xl_of A401 rfl).symm)⟩
                      · refine xi_cmf (pc' := 55) kc_116_52 rfl (xc_gt_f (X := a23.toInt) (Y := 99) rfl (by decide) (by omega)) ?_
                        refine xi_iload (pc' := 57) (x := a25) kc_116_55 rfl rfl ?_
                        refine xi_sipush (pc' := 60) (v := 600) kc_116_57 rfl rfl ?_
                        by_cases c402 : 600 < a25.toInt
                        · refine xi_cmt (pc' := 75) kc_116_60 rfl (xc_gt_t (X := a25.toInt) (Y := 600) rfl (by decide) (by omega)) ?_
                          refine xi_aload_n (pc' := 76) (x := 0) kc_116_75 rfl rfl ?_
                          refine xi_bipush (pc' := 78) (v := (-6)) kc_116_76 rfl rfl ?_
                          refine xi_virtual (mj := 90) (as := [.int (-6)]) (st1 := []) (lv0 := [(0, .ref 0), (1, .int (-6))]) kc_116_78 rfl rfl rfl rfl rfl A28 (Nat.le_of_ble_eq_true rfl) (hJ _ _ _ _ (by decide)) (xm_le ml_90 rfl) rfl ?_
                          refine xi_iload_n (pc' := 1) (x := (-6)) kc_90_0 rfl rfl ?_
                          refine xi_ineg (pc' := 2) (v := 6) kc_90_1 rfl rfl ?_
                          refine xi_istore_n (pc' := 3) (lv' := [(2, .int 6), (0, .ref 0), (1, .int (-6))]) kc_90_2 rfl rfl (xm_lt ml_90 rfl) ?_
                          refine xi_iload_n (pc' := 4) (x := 6) kc_90_3 rfl rfl ?_
                          refine xi_iff (pc' := 7) kc_90_4 rfl rfl ?_
                          refine xi_iload_n (pc' := 8) (x := 6) kc_90_7 rfl rfl ?_
                          refine xi_aload_n (pc' := 9) (x := 0) kc_90_8 rfl rfl ?_
                          refine xi_getfield (pc' := 12) (v := .ref 94) kc_90_9 rfl rfl rfl A28 rfl ?_
                          obtain ⟨y403, A403, hy403, ry403⟩ := xk_arr K.1 xD_94
                          refine xi_arraylength (pc' := 13) (n := 7) (v := 7) kc_90_12 rfl (xl_lenI (by decide) (by decide) A403 hy403) rfl ?_
                          refine xi_cmf (pc' := 16) kc_90_13 rfl rfl ?_
                          refine xi_aload_n (pc' := 17) (x := 0) kc_90_16 rfl rfl ?_
                          refine xi_getfield (pc' := 20) (v := .ref 94) kc_90_17 rfl rfl rfl A28 rfl ?_
                          refine xi_iload_n (pc' := 21) (x := 6) kc_90_20 rfl rfl ?_
                          refine xi_dup2 (pc' := 22) kc_90_21 rfl ⟨rfl, rfl⟩ ?_
                          obtain ⟨v404, ev404, bv404, dv404⟩ := xj_get hy403 ry403 (i := 6) (by decide) (by decide)
                          refine xi_iaload (pc' := 23) (v := v404) kc_90_22 rfl A403 (by decide) rfl (xi_in (by decide) (by rw [hy403]; decide)) ev404 ?_
                          refine xi_iconst (pc' := 24) (v := 1) kc_90_23 rfl rfl ?_
                          obtain ⟨v405, ev405⟩ : ∃ q : Int32, (v404 : Int32) + 1 = q := ⟨_, rfl⟩
                          have rv405 := xc_rng v405
                          refine xi_iadd (pc' := 25) (v := v405) kc_90_24 rfl ev405 ?_
                          obtain ⟨y406, s406, hy406, ry406⟩ := xj_set (v := v405) hy403 ry403 6 (by first | omega | decide) (by first | omega | decide)
                          refine xi_iastore (pc' := 26) (x' := y406) kc_90_25 rfl A403 rfl (xi_in (by decide) (by rw [hy403]; decide)) s406 (fun hh406 eh406 => ?_)
                          have K407 := xk_pa K (xk_wa rfl) xD_94 hy406 ry406 eh406
                          refine xi_iload_n (pc' := 27) (x := (-6)) kc_90_26 rfl rfl ?_
                          refine xi_ireturn kc_90_27 mr_90 rfl ?_
                          show xw J ov 99 116 (81, [(0, .ref 0), (1, .int a19), (2, .int a21), (3, .int a23), (4, .int a25)], [.int (-6)], hh406) _
                          refine xi_ireturn kc_116_81 mr_116 rfl ?_
                          show xw J ov 100 195 (679, [(4, .int x4), (3, .ref 167), (2, .ref 115), (1, .ref 0), (0, .ref 1000000)], [.int (-6)], hh406) _
                          refine xi_aload_n (pc' := 680) (x := 115) kc_195_679 rfl rfl ?_
                          refine xi_aload_n (pc' := 681) (x := 1000000) kc_195_680 rfl rfl ?_
                          refine xi_iload (pc' := 683) (x := x4) kc_195_681 rfl rfl ?_
                          refine xi_iconst (pc' := 684) (v := 1) kc_195_683 rfl rfl ?_
                          refine xi_iadd (pc' := 685) (v := v18) kc_195_684 rfl ev18 ?_
                          refine xi_ialoadO (pc' := 686) (v := a19) kc_195_685 rfl (by decide) hov0 (xi_in (by omega) (by omega)) ea19 ?_
                          refine xi_aload_n (pc' := 687) (x := 1000000) kc_195_686 rfl rfl ?_
                          refine xi_iload (pc' := 689) (x := x4) kc_195_687 rfl rfl ?_
                          refine xi_iconst (pc' := 690) (v := 2) kc_195_689 rfl rfl ?_
                          refine xi_iadd (pc' := 691) (v := v20) kc_195_690 rfl ev20 ?_
                          refine xi_ialoadO (pc' := 692) (v := a21) kc_195_691 rfl (by decide) hov0 (xi_in (by omega) (by omega)) ea21 ?_
                          refine xi_aload_n (pc' := 693) (x := 1000000) kc_195_692 rfl rfl ?_
                          refine xi_iload (pc' := 695) (x := x4) kc_195_693 rfl rfl ?_
                          refine xi_iconst (pc' := 696) (v := 3) kc_195_695 rfl rfl ?_
                          refine xi_iadd (pc' := 697) (v := v22) kc_195_696 rfl ev22 ?_
                          refine xi_ialoadO (pc' := 698) (v := a23) kc_195_697 rfl (by decide) hov0 (xi_in (by omega) (by omega)) ea23 ?_
                          refine xi_aload_n (pc' := 699) (x := 1000000) kc_195_698 rfl rfl ?_
                          refine xi_iload (pc' := 701) (x := x4) kc_195_699 rfl rfl ?_
                          refine xi_iconst (pc' := 702) (v := 4) kc_195_701 rfl rfl ?_
                          refine xi_iadd (pc' := 703) (v := v24) kc_195_702 rfl ev24 ?_
                          refine xi_ialoadO (pc' := 704) (v := a25) kc_195_703 rfl (by decide) hov0 (xi_in (by omega) (by omega)) ea25 ?_
                          have A408 := ((eh406.2.1 115 (by decide)).trans A17)
                          refine xi_virtual (mj := 32) (as := [.int a19, .int a21, .int a23, .int a25]) (st1 := [.int (-6)]) (lv0 := [(0, .ref 115), (1, .int a19), (2, .int a21), (3, .int a23), (4, .int a25)]) kc_195_704 rfl rfl rfl rfl rfl A408 (Nat.le_of_ble_eq_true rfl) (hJ _ _ _ _ (by decide)) (xm_le ml_32 rfl) rfl ?_
                          refine xi_aload_n (pc' := 1) (x := 115) kc_32_0 rfl rfl ?_
                          refine xi_iconst (pc' := 2) (v := 0) kc_32_1 rfl rfl ?_
                          refine xi_putfield (pc' := 5) (fs' := [.int 0, .int u5, .ref 116, .ref 117, .ref 118, .ref 119, .ref 120, .ref 121, .ref 122, .ref 123, .ref 124, .ref 125, .ref 126, .ref 127, .ref 128, .ref 129, .int u6, .ref 130, .int u7, .ref 131, .ref 132, .ref 133, .ref 134, .int u1, .ref 135, .ref 136, .ref 137, .ref 138, .ref 139, .ref 140, .ref 141, .ref 142, .int u9, .int u10, .int u11, .ref 143, .ref 144, .ref 145, .ref 146, .ref 147, .ref 148, .int u12, .ref 149, .ref 150, .ref 151, .int u13, .ref 152, .ref 153, .ref 154, .ref 155, .ref 156, .ref 157, .ref 158, .ref 159, .int u14, .ref 160, .int u15, .ref 161, .ref 162, .ref 163, .ref 164, .int u16, .ref 165, .ref 166]) kc_32_2 rfl rfl rfl A408 rfl rfl rfl (Nat.le_of_ble_eq_true rfl) rfl (fun hh410 eh409 => ?_)
                          have K411 := xk_pf (k := 0) (v := 0) K407 (xk_wf rfl) xD_115 A408 rfl (by first | omega | decide) (by first | omega | decide) eh409 rfl
                          refine xi_iload_n (pc' := 6) (x := a19) kc_32_5 rfl rfl ?_
                          refine xi_iconst (pc' := 7) (v := 0) kc_32_6 rfl rfl ?_
                          refine xi_iconst (pc' := 8) (v := 3) kc_32_7 rfl rfl ?_
                          refine xi_static (mj := 11) (as := [.int a19, .int 0, .int 3]) (st1 := []) (lv0 := [(0, .int a19), (1, .int 0), (2, .int 3)]) kc_32_8 rfl rfl (Nat.le_of_ble_eq_true rfl) rfl rfl (Nat.le_of_ble_eq_true rfl) (hJ _ _ _ _ (by decide)) (xm_le ml_11 rfl) rfl ?_
                          refine xi_iload_n (pc' := 1) (x := a19) kc_11_0 rfl rfl ?_
                          refine xi_iload_n (pc' := 2) (x := 0) kc_11_1 rfl rfl ?_
                          refine xi_cmf (pc' := 5) kc_11_2 rfl (xc_lt_f (X := a19.toInt) (Y := 0) rfl (by decide) (by omega)) ?_
                          refine xi_iload_n (pc' := 6) (x := a19) kc_11_5 rfl rfl ?_
                          refine xi_iload_n (pc' := 7) (x := 3) kc_11_6 rfl rfl ?_
                          refine xi_cmf (pc' := 10) kc_11_7 rfl (xc_gt_f (X := a19.toInt) (Y := 3) rfl (by decide) (by omega)) ?_
                          refine xi_iconst (pc' := 11) (v := 1) kc_11_10 rfl rfl ?_
                          refine xi_goto (pc' := 15) kc_11_11 rfl ?_
                          refine xi_ireturn kc_11_15 mr_11 rfl ?_
                          show xw J ov 99 32 (11, [(0, .ref 115), (1, .int a19), (2, .int a21), (3, .int a23), (4, .int a25)], [.int 1], hh410) _
                          refine xi_ift (pc' := 21) kc_32_11 rfl rfl ?_
                          refine xi_iload_n (pc' := 22) (x := a19) kc_32_21 rfl rfl ?_
                          refine xi_iconst (pc' := 23) (v := 3) kc_32_22 rfl rfl ?_
                          refine xi_cmt (pc' := 36) kc_32_23 rfl (xc_ne_t (X := a19.toInt) (Y := 3) rfl (by decide) (by omega)) ?_
                          refine xi_aload_n (pc' := 37) (x := 115) kc_32_36 rfl rfl ?_
                          refine xi_iload_n (pc' := 38) (x := a21) kc_32_37 rfl rfl ?_
                          refine xi_virtual (mj := 31) (as := [.int a21]) (st1 := []) (lv0 := [(0, .ref 115), (1, .int a21)]) kc_32_38 rfl rfl rfl rfl rfl eh409.1 (Nat.le_of_ble_eq_true rfl) (hJ _ _ _ _ (by decide)) (xm_le ml_31 rfl) rfl ?_
                          refine xi_iload_n (pc' := 1) (x := a21) kc_31_0 rfl rfl ?_
                          refine xi_static (mj := 24) (as := [.int a21]) (st1 := []) (lv0 := [(0, .int a21)]) kc_31_1 rfl rfl (Nat.le_of_ble_eq_true rfl) rfl rfl (Nat.le_of_ble_eq_true rfl) (hJ _ _ _ _ (by decide)) (xm_le ml_24 rfl) rfl ?_
                          refine xi_iload_n (pc' := 1) (x := a21) kc_24_0 rfl rfl ?_
                          refine xi_iconst (pc' := 2) (v := 0) kc_24_1 rfl rfl ?_
                          refine xi_bipush (pc' := 4) (v := 11) kc_24_2 rfl rfl ?_
                          refine xi_static (mj := 11) (as := [.int a21, .int 0, .int 11]) (st1 := []) (lv0 := [(0, .int a21), (1, .int 0), (2, .int 11)]) kc_24_4 rfl rfl (Nat.le_of_ble_eq_true rfl) rfl rfl (Nat.le_of_ble_eq_true rfl) (hJ _ _ _ _ (by decide)) (xm_le ml_11 rfl) rfl ?_
                          refine xi_iload_n (pc' := 1) (x := a21) kc_11_0 rfl rfl ?_
                          refine xi_iload_n (pc' := 2) (x := 0) kc_11_1 rfl rfl ?_
                          refine xi_cmf (pc' := 5) kc_11_2 rfl (xc_lt_f (X := a21.toInt) (Y := 0) rfl (by decide) (by omega)) ?_
                          refine xi_iload_n (pc' := 6) (x := a21) kc_11_5 rfl rfl ?_
                          refine xi_iload_n (pc' := 7) (x := 11) kc_11_6 rfl rfl ?_
                          refine xi_cmf (pc' := 10) kc_11_7 rfl (xc_gt_f (X := a21.toInt) (Y := 11) rfl (by decide) (by omega)) ?_
                          refine xi_iconst (pc' := 11) (v := 1) kc_11_10 rfl rfl ?_
                          refine xi_goto (pc' := 15) kc_11_11 rfl ?_
                          refine xi_ireturn kc_11_15 mr_11 rfl ?_
                          show xw J ov 97 24 (7, [(0, .int a21)], [.int 1], hh410) _
                          refine xi_ireturn kc_24_7 mr_24 rfl ?_
                          show xw J ov 98 31 (4, [(0, .ref 115), (1, .int a21)], [.int 1], hh410) _
                          refine xi_iff (pc' := 7) kc_31_4 rfl rfl ?_
                          refine xi_aload_n (pc' := 8) (x := 115) kc_31_7 rfl rfl ?_
                          refine xi_getfield (pc' := 11) (v := .ref 125) kc_31_8 rfl rfl rfl eh409.1 rfl ?_
                          refine xi_iload_n (pc' := 12) (x := a21) kc_31_11 rfl rfl ?_
                          have A412 := ((eh409.2.1 125 (by decide)).trans ((eh406.2.1 125 (by decide)).trans A313))
                          refine xi_iaload (pc' := 13) (v := u307) kc_31_12 rfl A412 (by decide) rfl (xi_in (by omega) (by rw [hy313]; omega)) HG314 ?_
                          refine xi_iff (pc' := 16) kc_31_13 rfl (xc_lt_f (X := u307.toInt) (Y := 0) rfl (by decide) (by omega)) ?_
                          refine xi_iconst (pc' := 17) (v := 1) kc_31_16 rfl rfl ?_
                          refine xi_goto (pc' := 21) kc_31_17 rfl ?_
                          refine xi_ireturn kc_31_21 mr_31 rfl ?_
                          show xw J ov 99 32 (41, [(0, .ref 115), (1, .int a19), (2, .int a21), (3, .int a23), (4, .int a25)], [.int 1], hh410) _
                          refine xi_iff (pc' := 44) kc_32_41 rfl rfl ?_
                          refine xi_iload_n (pc' := 45) (x := a19) kc_32_44 rfl rfl ?_
                          refine xi_iff (pc' := 48) kc_32_45 rfl (xc_ne_f (X := a19.toInt) (Y := 0) rfl (by decide) (by omega)) ?_
                          refine xi_aload_n (pc' := 49) (x := 115) kc_32_48 rfl rfl ?_
                          refine xi_getfield (pc' := 52) (v := .ref 127) kc_32_49 rfl rfl rfl eh409.1 rfl ?_
                          refine xi_iload_n (pc' := 53) (x := a21) kc_32_52 rfl rfl ?_
                          have A413 := ((eh409.2.1 127 (by decide)).trans ((eh406.2.1 127 (by decide)).trans A315))
                          refine xi_baload (pc' := 54) (v := u309) kc_32_53 rfl A413 rfl (xi_in (by omega) (by rw [hy315]; omega)) HG316 ?_
                          refine xi_ift (pc' := 63) kc_32_54 rfl (xc_ne_t (X := u309.toInt) (Y := 0) rfl (by decide) (by omega)) ?_
                          refine xi_iload_n (pc' := 64) (x := a23) kc_32_63 rfl rfl ?_
                          refine xi_iconst (pc' := 65) (v := 1) kc_32_64 rfl rfl ?_
                          refine xi_cmf (pc' := 68) kc_32_65 rfl (xc_lt_f (X := a23.toInt) (Y := 1) rfl (by decide) (by omega)) ?_
                          refine xi_iload (pc' := 70) (x := a25) kc_32_68 rfl rfl ?_
                          refine xi_ift (pc' := 80) kc_32_70 rfl (xc_ge_t (X := a25.toInt) (Y := 0) rfl (by decide) (by omega)) ?_
                          refine xi_iload_n (pc' := 81) (x := a23) kc_32_80 rfl rfl ?_
                          refine xi_bipush (pc' := 83) (v := 99) kc_32_81 rfl rfl ?_
                          refine xi_cmf (pc' := 86) kc_32_83 rfl (xc_gt_f (X := a23.toInt) (Y := 99) rfl (by decide) (by omega)) ?_
                          refine xi_iload (pc' := 88) (x := a25) kc_32_86 rfl rfl ?_
                          refine xi_sipush (pc' := 91) (v := 600) kc_32_88 rfl rfl ?_
                          refine xi_cmt (pc' := 103) kc_32_91 rfl (xc_gt_t (X := a25.toInt) (Y := 600) rfl (by decide) (by omega)) ?_
                          refine xi_aload_n (pc' := 104) (x := 115) kc_32_103 rfl rfl ?_
                          refine xi_bipush (pc' := 106) (v := (-6)) kc_32_104 rfl rfl ?_
                          refine xi_virtual (mj := 12) (as := [.int (-6)]) (st1 := []) (lv0 := [(0, .ref 115), (1, .int (-6))]) kc_32_106 rfl rfl rfl rfl rfl eh409.1 (Nat.le_of_ble_eq_true rfl) (hJ _ _ _ _ (by decide)) (xm_le ml_12 rfl) rfl ?_
                          refine xi_aload_n (pc' := 1) (x := 115) kc_12_0 rfl rfl ?_
                          refine xi_getfield (pc' := 4) (v := .ref 140) kc_12_1 rfl rfl rfl eh409.1 rfl ?_
                          refine xi_iload_n (pc' := 5) (x := (-6)) kc_12_4 rfl rfl ?_
                          refine xi_ineg (pc' := 6) (v := 6) kc_12_5 rfl rfl ?_
                          refine xi_dup2 (pc' := 7) kc_12_6 rfl ⟨rfl, rfl⟩ ?_
                          obtain ⟨y414, A414, hy414, ry414⟩ := xk_arr K.1 xD_140
                          obtain ⟨v415, ev415, bv415, dv415⟩ := xj_get hy414 ry414 (i := 6) (by decide) (by decide)
                          have A416 := ((eh409.2.1 140 (by decide)).trans ((eh406.2.1 140 (by decide)).trans A414))
                          refine xi_iaload (pc' := 8) (v := v415) kc_12_7 rfl A416 (by decide) rfl (xi_in (by decide) (by rw [hy414]; decide)) ev415 ?_
                          refine xi_iconst (pc' := 9) (v := 1) kc_12_8 rfl rfl ?_
                          obtain ⟨v417, ev417⟩ : ∃ q : Int32, (v415 : Int32) + 1 = q := ⟨_, rfl⟩
                          have rv417 := xc_rng v417
                          refine xi_iadd (pc' := 10) (v := v417) kc_12_9 rfl ev417 ?_
                          obtain ⟨y418, s418, hy418, ry418⟩ := xj_set (v := v417) hy414 ry414 6 (by first | omega | decide) (by first | omega | decide)
                          refine xi_iastore (pc' := 11) (x' := y418) kc_12_10 rfl A416 rfl (xi_in (by decide) (by rw [hy414]; decide)) s418 (fun hh418 eh418 => ?_)
                          have K419 := xk_pa K411 (xk_wa rfl) xD_140 hy418 ry418 eh418
                          refine xi_iload_n (pc' := 12) (x := (-6)) kc_12_11 rfl rfl ?_
                          refine xi_ireturn kc_12_12 mr_12 rfl ?_
                          show xw J ov 99 32 (109, [(0, .ref 115), (1, .int a19), (2, .int a21), (3, .int a23), (4, .int a25)], [.int (-6)], hh418) _
                          refine xi_ireturn kc_32_109 mr_32 rfl ?_
                          show xw J ov 100 195 (707, [(4, .int x4), (3, .ref 167), (2, .ref 115), (1, .ref 0), (0, .ref 1000000)], [.int (-6), .int (-6)], hh418) _
                          refine xi_cmt (pc' := 1501) kc_195_707 rfl rfl ?_
                          obtain ⟨v420, ev420⟩ : ∃ q : Int32, x4 + 6 = q := ⟨_, rfl⟩
                          have zv420 : v420.toInt = (x4.toInt + 6) := by rw [← ev420]; exact (xz_add (X := x4.toInt) (Y := 6) rfl (by decide) (by omega) (by omega)).trans (by omega)
                          refine xi_iinc (pc' := 1504) (x := x4) (v := v420) (lv' := [(4, .int v420), (3, .ref 167), (2, .ref 115), (1, .ref 0), (0, .ref 1000000)]) kc_195_1501 rfl rfl ev420 rfl (xm_lt ml_195 rfl) ?_
                          refine xi_goto (pc' := 23) kc_195_1504 rfl ?_
                          have A421 := ((eh418.2.1 1 (by decide)).trans ((eh409.2.1 1 (by decide)).trans ((eh406.2.1 1 (by decide)).trans A3)))
                          have A422 := ((eh418.2.1 115 (by decide)).trans eh409.1)
                          exact kk v420 hh418 (by omega) K419 ⟨(xGR_kept I.1 (fun c hc => ((eh418.2.1 c (Ne.symm (xk_nc hc rfl))).trans ((eh409.2.1 c (Ne.symm (xk_nc hc rfl))).trans (eh406.2.1 c (Ne.symm (xk_nc hc rfl)))))) ((eh418.2.1 125 (by decide)).trans ((eh409.2.1 125 (by decide)).trans (eh406.2.1 125 (by decide))))), (xGR_kept I.2.1 (fun c hc => ((eh418.2.1 c (Ne.symm (xk_nc hc rfl))).trans ((eh409.2.1 c (Ne.symm (xk_nc hc rfl))).trans (eh406.2.1 c (Ne.symm (xk_nc hc rfl)))))) ((eh418.2.1 127 (by decide)).trans ((eh409.2.1 127 (by decide)).trans (eh406.2.1 127 (by decide))))), ((xl_of A421 rfl).trans (xl_of A422 rfl).symm)⟩
                        · refine xi_cmf (pc' := 63) kc_116_60 rfl (xc_gt_f (X := a25.toInt) (Y := 600) rfl (by decide) (by omega)) ?_
                          refine xi_aload_n (pc' := 64) (x := 0) kc_116_63 rfl rfl ?_
                          refine xi_getfield (pc' := 67) (v := .ref 1) kc_116_64 rfl rfl rfl A28 rfl ?_
                          refine xi_getfield (pc' := 70) (v := .int u1) kc_116_67 rfl rfl rfl A3 rfl ?_
                          refine xi_bipush (pc' := 72) (v := 10) kc_116_70 rfl rfl ?_
                          by_cases c423 : u1.toInt < 10
                          · refine xi_cmt (pc' := 82) kc_116_72 rfl (xc_lt_t (X := u1.toInt) (Y := 10) rfl (by decide) (by omega)) ?_
                            refine xi_aload_n (pc' := 83) (x := 0) kc_116_82 rfl rfl ?_
                            refine xi_getfield (pc' := 86) (v := .ref 1) kc_116_83 rfl rfl rfl A28 rfl ?_
                            refine xi_iload_n (pc' := 87) (x := a19) kc_116_86 rfl rfl ?_
                            refine xi_iload_n (pc' := 88) (x := a21) kc_116_87 rfl rfl ?_
                            refine xi_iload_n (pc' := 89) (x := a23) kc_116_88 rfl rfl ?_
                            refine xi_iload (pc' := 91) (x := a25) kc_116_89 rfl rfl ?_
                            refine xi_virtual (mj := 119) (as := [.int a19, .int a21, .int a23, .int a25]) (st1 := []) (lv0 := [(0, .ref 1), (1, .int a19), (2, .int a21), (3, .int a23), (4, .int a25)]) kc_116_91 rfl rfl rfl rfl rfl A3 (Nat.le_of_ble_eq_true rfl) (hJ _ _ _ _ (by decide)) (xm_le ml_119 rfl) rfl ?_
                            refine xi_aload_n (pc' := 1) (x := 1) kc_119_0 rfl rfl ?_
                            refine xi_getfield (pc' := 4) (v := .int u1) kc_119_1 rfl rfl rfl A3 rfl ?_
                            refine xi_bipush (pc' := 6) (v := 10) kc_119_4 rfl rfl ?_
                            refine xi_cmt (pc' := 12) kc_119_6 rfl (xc_lt_t (X := u1.toInt) (Y := 10) rfl (by decide) (by omega)) ?_
                            refine xi_aload_n (pc' := 13) (x := 1) kc_119_12 rfl rfl ?_
                            refine xi_getfield (pc' := 16) (v := .ref 4) kc_119_13 rfl rfl rfl A3 rfl ?_
                            refine xi_aload_n (pc' := 17) (x := 1) kc_119_16 rfl rfl ?_
                            refine xi_getfield (pc' := 20) (v := .int u1) kc_119_17 rfl rfl rfl A3 rfl ?_
                            have A424 := xk_ex K.1 xD_4
                            obtain ⟨pt425, ept425, mpt425⟩ := xR_4 (i := u1) (by omega) (by omega)
                            refine xj_aaload (pc' := 21) (b := pt425) kc_119_20 rfl A424 rfl (xi_in (n := 10) (by omega) (by omega)) ept425 ?_
                            refine xi_astore (pc' := 23) (lv' := [(5, .ref pt425), (0, .ref 1), (1, .int a19), (2, .int a21), (3, .int a23), (4, .int a25)]) kc_119_21 rfl rfl (xm_lt ml_119 rfl) ?_
                            refine xi_aload (pc' := 25) (x := pt425) kc_119_23 rfl rfl ?_
                            refine xi_iload_n (pc' := 26) (x := a19) kc_119_25 rfl rfl ?_
                            obtain ⟨u426, u427, u428, u429, bu426, bu427, bu428, bu429, A430⟩ := xg_cause K.1 mpt425
                            refine xi_putfield (pc' := 29) (fs' := [.int a19, .int u427, .int u428, .int u429]) kc_119_26 rfl rfl rfl A430 rfl rfl rfl (Nat.le_of_ble_eq_true rfl) rfl (fun hh432 eh431 => ?_)
                            obtain ⟨ds433, Dds433, dds433_0, dds433_1, dds433_2, dds433_3⟩ := xGo_cause mpt425
                            have K434 := xk_pf (k := 0) (v := a19) K (xk_gf mpt425 rfl) Dds433 A430 dds433_0 (by first | omega | decide) (by first | omega | decide) eh431 rfl
                            refine xi_aload (pc' := 31) (x := pt425) kc_119_29 rfl rfl ?_
                            refine xi_iload_n (pc' := 32) (x := a21) kc_119_31 rfl rfl ?_
                            refine xi_putfield (pc' := 35) (fs' := [.int a19, .int a21, .int u428, .int u429]) kc_119_32 rfl rfl rfl eh431.1 rfl rfl rfl (Nat.le_of_ble_eq_true rfl) rfl (fun hh436 eh435 => ?_)
                            obtain ⟨ds437, Dds437, dds437_0, dds437_1, dds437_2, dds437_3⟩ := xGo_cause mpt425
                            have K438 := xk_pf (k := 1) (v := a21) K434 (xk_gf mpt425 rfl) Dds437 eh431.1 dds437_1 (by first | omega | decide) (by first | omega | decide) eh435 rfl
                            refine xi_aload (pc' := 37) (x := pt425) kc_119_35 rfl rfl ?_
                            refine xi_iload_n (pc' := 38) (x := a23) kc_119_37 rfl rfl ?_
                            refine xi_putfield (pc' := 41) (fs' := [.int a19, .int a21, .int a23, .int u429]) kc_119_38 rfl rfl rfl eh435.1 rfl rfl rfl (Nat.le_of_ble_eq_true rfl) rfl (fun hh440 eh439 => ?_)
                            obtain ⟨ds441, Dds441, dds441_0, dds441_1, dds441_2, dds441_3⟩ := xGo_cause mpt425
                            have K442 := xk_pf (k := 2) (v := a23) K438 (xk_gf mpt425 rfl) Dds441 eh435.1 dds441_2 (by first | omega | decide) (by first | omega | decide) eh439 rfl
                            refine xi_aload (pc' := 43) (x := pt425) kc_119_41 rfl rfl ?_
                            refine xi_iload (pc' := 45) (x := a25) kc_119_43 rfl rfl ?_
                            refine xi_putfield (pc' := 48) (fs' := [.int a19, .int a21, .int a23, .int a25]) kc_119_45 rfl rfl rfl eh439.1 rfl rfl rfl (Nat.le_of_ble_eq_true rfl) rfl (fun hh444 eh443 => ?_)
                            obtain ⟨ds445, Dds445, dds445_0, dds445_1, dds445_2, dds445_3⟩ := xGo_cause mpt425
                            have K446 := xk_pf (k := 3) (v := a25) K442 (xk_gf mpt425 rfl) Dds445 eh439.1 dds445_3 (by first | omega | decide) (by first | omega | decide) eh443 rfl
                            refine xi_aload_n (pc' := 49) (x := 1) kc_119_48 rfl rfl ?_
                            refine xi_dup (pc' := 50) kc_119_49 rfl rfl ?_
                            have A447 := ((eh443.2.1 1 (xk_nc mpt425 rfl)).trans ((eh439.2.1 1 (xk_nc mpt425 rfl)).trans ((eh435.2.1 1 (xk_nc mpt425 rfl)).trans ((eh431.2.1 1 (xk_nc mpt425 rfl)).trans A3))))
                            refine xi_getfield (pc' := 53) (v := .int u1) kc_119_50 rfl rfl rfl A447 rfl ?_
                            refine xi_iconst (pc' := 54) (v := 1) kc_119_53 rfl rfl ?_
                            obtain ⟨v448, ev448⟩ : ∃ q : Int32, u1 + 1 = q := ⟨_, rfl⟩
                            have zv448 : v448.toInt = (u1.toInt + 1) := by rw [← ev448]; exact (xz_add (X := u1.toInt) (Y := 1) rfl (by decide) (by omega) (by omega)).trans (by omega)
                            refine xi_iadd (pc' := 55) (v := v448) kc_119_54 rfl ev448 ?_
                            refine xi_putfield (pc' := 58) (fs' := [.ref 2, .ref 3, .ref 4, .ref 5, .ref 8, .int v448, .int u2]) kc_119_55 rfl rfl rfl A447 rfl rfl rfl (Nat.le_of_ble_eq_true rfl) rfl (fun hh450 eh449 => ?_)
                            have K451 := xk_pf (k := 5) (v := v448) K446 (xk_wf rfl) xD_1 A447 rfl (by first | omega | decide) (by first | omega | decide) eh449 rfl
                            refine xi_aload_n (pc' := 59) (x := 1) kc_119_58 rfl rfl ?_
                            refine xi_getfield (pc' := 62) (v := .int v448) kc_119_59 rfl rfl rfl eh449.1 rfl ?_
                            refine xi_iconst (pc' := 63) (v := 1) kc_119_62 rfl rfl ?_
                            obtain ⟨v452, ev452⟩ : ∃ q : Int32, v448 - 1 = q := ⟨_, rfl⟩
                            have zv452 : v452.toInt = u1.toInt := by rw [← ev452]; exact (xz_sub (X := (u1.toInt + 1)) (Y := 1) zv448 (by decide) (by omega) (by omega)).trans (by omega)
                            refine xi_isub (pc' := 64) (v := v452) kc_119_63 rfl ev452 ?_
                            refine xi_ireturn kc_119_64 mr_119 rfl ?_
                            show xw J ov 99 116 (94, [(0, .ref 0), (1, .int a19), (2, .int a21), (3, .int a23), (4, .int a25)], [.int v452], hh450) _
                            refine xi_ireturn kc_116_94 mr_116 rfl ?_
                            show xw J ov 100 195 (679, [(4, .int x4), (3, .ref 167), (2, .ref 115), (1, .ref 0), (0, .ref 1000000)], [.int v452], hh450) _
                            refine xi_aload_n (pc' := 680) (x := 115) kc_195_679 rfl rfl ?_
                            refine xi_aload_n (pc' := 681) (x := 1000000) kc_195_680 rfl rfl ?_
                            refine xi_iload (pc' := 683) (x := x4) kc_195_681 rfl rfl ?_
                            refine xi_iconst (pc' := 684) (v := 1) kc_195_683 rfl rfl ?_
                            refine xi_iadd (pc' := 685) (v := v18) kc_195_684 rfl ev18 ?_
                            refine xi_ialoadO (pc' := 686) (v := a19) kc_195_685 rfl (by decide) hov0 (xi_in (by omega) (by omega)) ea19 ?_
                            refine xi_aload_n (pc' := 687) (x := 1000000) kc_195_686 rfl rfl ?_
                            refine xi_iload (pc' := 689) (x := x4) kc_195_687 rfl rfl ?_
                            refine xi_iconst (pc' := 690) (v := 2) kc_195_689 rfl rfl ?_
                            refine xi_iadd (pc' := 691) (v := v20) kc_195_690 rfl ev20 ?_
                            refine xi_ialoadO (pc' := 692) (v := a21) kc_195_691 rfl (by decide) hov0 (xi_in (by omega) (by omega)) ea21 ?_
                            refine xi_aload_n (pc' := 693) (x := 1000000) kc_195_692 rfl rfl ?_
                            refine xi_iload (pc' := 695) (x := x4) kc_195_693 rfl rfl ?_
                            refine xi_iconst (pc' := 696) (v := 3) kc_195_695 rfl rfl ?_
                            refine xi_iadd (pc' := 697) (v := v22) kc_195_696 rfl ev22 ?_
                            refine xi_ialoadO (pc' := 698) (v := a23) kc_195_697 rfl (by decide) hov0 (xi_in (by omega) (by omega)) ea23 ?_
                            refine xi_aload_n (pc' := 699) (x := 1000000) kc_195_698 rfl rfl ?_
                            refine xi_iload (pc' := 701) (x := x4) kc_195_699 rfl rfl ?_
                            refine xi_iconst (pc' := 702) (v := 4) kc_195_701 rfl rfl ?_
                            refine xi_iadd (pc' := 703) (v := v24) kc_195_702 rfl ev24 ?_
                            refine xi_ialoadO (pc' := 704) (v := a25) kc_195_703 rfl (by decide) hov0 (xi_in (by omega) (by omega)) ea25 ?_
                            have A453 := ((eh449.2.1 115 (by decide)).trans ((eh443.2.1 115 (xk_nc mpt425 rfl)).trans ((eh439.2.1 115 (xk_nc mpt425 rfl)).trans ((eh435.2.1 115 (xk_nc mpt425 rfl)).trans ((eh431.2.1 115 (xk_nc mpt425 rfl)).trans A17)))))
                            refine xi_virtual (mj := 32) (as := [.int a19, .int a21, .int a23, .int a25]) (st1 := [.int v452]) (lv0 := [(0, .ref 115), (1, .int a19), (2, .int a21), (3, .int a23), (4, .int a25)]) kc_195_704 rfl rfl rfl rfl rfl A453 (Nat.le_of_ble_eq_true rfl) (hJ _ _ _ _ (by decide)) (xm_le ml_32 rfl) rfl ?_
                            refine xi_aload_n (pc' := 1) (x := 115) kc_32_0 rfl rfl ?_
                            refine xi_iconst (pc' := 2) (v := 0) kc_32_1 rfl rfl ?_
                            refine xi_putfield (pc' := 5) (fs' := [.int 0, .int u5, .ref 116, .ref 117, .ref 118, .ref 119, .ref 120, .ref 121, .ref 122, .ref 123, .ref 124, .ref 125, .ref 126, .ref 127, .ref 128, .ref 129, .int u6, .ref 130, .int u7, .ref 131, .ref 132, .ref 133, .ref 134, .int u1, .ref 135, .ref 136, .ref 137, .ref 138, .ref 139, .ref 140, .ref 141, .ref 142, .int u9, .int u10, .int u11, .ref 143, .ref 144, .ref 145, .ref 146, .ref 147, .ref 148, .int u12, .ref 149, .ref 150, .ref 151, .int u13, .ref 152, .ref 153, .ref 154, .ref 155, .ref 156, .ref 157, .ref 158, .ref 159, .int u14, .ref 160, .int u15, .ref 161, .ref 162, .ref 163, .ref 164, .int u16, .ref 165, .ref 166]) kc_32_2 rfl rfl rfl A453 rfl rfl rfl (Nat.le_of_ble_eq_true rfl) rfl (fun hh455 eh454 => ?_)
                            have K456 := xk_pf (k := 0) (v := 0) K451 (xk_wf rfl) xD_115 A453 rfl (by first | omega | decide) (by first | omega | decide) eh454 rfl
                            refine xi_iload_n (pc' := 6) (x := a19) kc_32_5 rfl rfl ?_
                            refine xi_iconst (pc' := 7) (v := 0) kc_32_6 rfl rfl ?_
                            refine xi_iconst (pc' := 8) (v := 3) kc_32_7 rfl rfl ?_
                            refine xi_static (mj := 11) (as := [.int a19, .int 0, .int 3]) (st1 := []) (lv0 := [(0, .int a19), (1, .int 0), (2, .int 3)]) kc_32_8 rfl rfl (Nat.le_of_ble_eq_true rfl) rfl rfl (Nat.le_of_ble_eq_true rfl) (hJ _ _ _ _ (by decide)) (xm_le ml_11 rfl) rfl ?_
                            refine xi_iload_n (pc' := 1) (x := a19) kc_11_0 rfl rfl ?_
                            refine xi_iload_n (pc' := 2) (x := 0) kc_11_1 rfl rfl ?_
                            refine xi_cmf (pc' := 5) kc_11_2 rfl (xc_lt_f (X := a19.toInt) (Y := 0) rfl (by decide) (by omega)) ?_
                            refine xi_iload_n (pc' := 6) (x := a19) kc_11_5 rfl rfl ?_
                            refine xi_iload_n (pc' := 7) (x := 3) kc_11_6 rfl rfl ?_
                            refine xi_cmf (pc' := 10) kc_11_7 rfl (xc_gt_f (X := a19.toInt) (Y := 3) rfl (by decide) (by omega)) ?_
                            refine xi_iconst (pc' := 11) (v := 1) kc_11_10 rfl rfl ?_
                            refine xi_goto (pc' := 15) kc_11_11 rfl ?_
                            refine xi_ireturn kc_11_15 mr_11 rfl ?_
                            show xw J ov 99 32 (11, [(0, .ref 115), (1, .int a19), (2, .int a21), (3, .int a23), (4, .int a25)], [.int 1], hh455) _
                            refine xi_ift (pc' := 21) kc_32_11 rfl rfl ?_
                            refine xi_iload_n (pc' := 22) (x := a19) kc_32_21 rfl rfl ?_
                            refine xi_iconst (pc' := 23) (v := 3) kc_32_22 rfl rfl ?_
                            refine xi_cmt (pc' := 36) kc_32_23 rfl (xc_ne_t (X := a19.toInt) (Y := 3) rfl (by decide) (by omega)) ?_
                            refine xi_aload_n (pc' := 37) (x := 115) kc_32_36 rfl rfl ?_
                            refine xi_iload_n (pc' := 38) (x := a21) kc_32_37 rfl rfl ?_
                            refine xi_virtual (mj := 31) (as := [.int a21]) (st1 := []) (lv0 := [(0, .ref 115), (1, .int a21)]) kc_32_38 rfl rfl rfl rfl rfl eh454.1 (Nat.le_of_ble_eq_true rfl) (hJ _ _ _ _ (by decide)) (xm_le ml_31 rfl) rfl ?_
                            refine xi_iload_n (pc' := 1) (x := a21) kc_31_0 rfl rfl ?_
                            refine xi_static (mj := 24) (as := [.int a21]) (st1 := []) (lv0 := [(0, .int a21)]) kc_31_1 rfl rfl (Nat.le_of_ble_eq_true rfl) rfl rfl (Nat.le_of_ble_eq_true rfl) (hJ _ _ _ _ (by decide)) (xm_le ml_24 rfl) rfl ?_
                            refine xi_iload_n (pc' := 1) (x := a21) kc_24_0 rfl rfl ?_
                            refine xi_iconst (pc' := 2) (v := 0) kc_24_1 rfl rfl ?_
                            refine xi_bipush (pc' := 4) (v := 11) kc_24_2 rfl rfl ?_
                            refine xi_static (mj := 11) (as := [.int a21, .int 0, .int 11]) (st1 := []) (lv0 := [(0, .int a21), (1, .int 0), (2, .int 11)]) kc_24_4 rfl rfl (Nat.le_of_ble_eq_true rfl) rfl rfl (Nat.le_of_ble_eq_true rfl) (hJ _ _ _ _ (by decide)) (xm_le ml_11 rfl) rfl ?_
                            refine xi_iload_n (pc' := 1) (x := a21) kc_11_0 rfl rfl ?_
                            refine xi_iload_n (pc' := 2) (x := 0) kc_11_1 rfl rfl ?_
                            refine xi_cmf (pc' := 5) kc_11_2 rfl (xc_lt_f (X := a21.toInt) (Y := 0) rfl (by decide) (by omega)) ?_
                            refine xi_iload_n (pc' := 6) (x := a21) kc_11_5 rfl rfl ?_
                            refine xi_iload_n (pc' := 7) (x := 11) kc_11_6 rfl rfl ?_
                            refine xi_cmf (pc' := 10) kc_11_7 rfl (xc_gt_f (X := a21.toInt) (Y := 11) rfl (by decide) (by omega)) ?_
                            refine xi_iconst (pc' := 11) (v := 1) kc_11_10 rfl rfl ?_
                            refine xi_goto (pc' := 15) kc_11_11 rfl ?_
                            refine xi_ireturn kc_11_15 mr_11 rfl ?_
                            show xw J ov 97 24 (7, [(0, .int a21)], [.int 1], hh455) _
                            refine xi_ireturn kc_24_7 mr_24 rfl ?_
                            show xw J ov 98 31 (4, [(0, .ref 115), (1, .int a21)], [.int 1], hh455) _
                            refine xi_iff (pc' := 7) kc_31_4 rfl rfl ?_
                            refine xi_aload_n (pc' := 8) (x := 115) kc_31_7 rfl rfl ?_
                            refine xi_getfield (pc' := 11) (v := .ref 125) kc_31_8 rfl rfl rfl eh454.1 rfl ?_
                            refine xi_iload_n (pc' := 12) (x := a21) kc_31_11 rfl rfl ?_
                            have A457 := ((eh454.2.1 125 (by decide)).trans ((eh449.2.1 125 (by decide)).trans ((eh443.2.1 125 (xk_nc mpt425 rfl)).trans ((eh439.2.1 125 (xk_nc mpt425 rfl)).trans ((eh435.2.1 125 (xk_nc mpt425 rfl)).trans ((eh431.2.1 125 (xk_nc mpt425 rfl)).trans A313))))))
                            refine xi_iaload (pc' := 13) (v := u307) kc_31_12 rfl A457 (by decide) rfl (xi_in (by omega) (by rw [hy313]; omega)) HG314 ?_
                            refine xi_iff (pc' := 16) kc_31_13 rfl (xc_lt_f (X := u307.toInt) (Y := 0) rfl (by decide) (by omega)) ?_
                            refine xi_iconst (pc' := 17) (v := 1) kc_31_16 rfl rfl ?_
                            refine xi_goto (pc' := 21) kc_31_17 rfl ?_
                            refine xi_ireturn kc_31_21 mr_31 rfl ?_
                            show xw J ov 99 32 (41, [(0, .ref 115), (1, .int a19), (2, .int a21), (3, .int a23), (4, .int a25)], [.int 1], hh455) _
                            refine xi_iff (pc' := 44) kc_32_41 rfl rfl ?_
                            refine xi_iload_n (pc' := 45) (x := a19) kc_32_44 rfl rfl ?_
                            refine xi_iff (pc' := 48) kc_32_45 rfl (xc_ne_f (X := a19.toInt) (Y := 0) rfl (by decide) (by omega)) ?_
                            refine xi_aload_n (pc' := 49) (x := 115) kc_32_48 rfl rfl ?_
                            refine xi_getfield (pc' := 52) (v := .ref 127) kc_32_49 rfl rfl rfl eh454.1 rfl ?_
                            refine xi_iload_n (pc' := 53) (x := a21) kc_32_52 rfl rfl ?_
                            have A458 := ((eh454.2.1 127 (by decide)).trans ((eh449.2.1 127 (by decide)).trans ((eh443.2.1 127 (xk_nc mpt425 rfl)).trans ((eh439.2.1 127 (xk_nc mpt425 rfl)).trans ((eh435.2.1 127 (xk_nc mpt425 rfl)).trans ((eh431.2.1 127 (xk_nc mpt425 rfl)).trans A315))))))
                            refine xi_baload (pc' := 54) (v := u309) kc_32_53 rfl A458 rfl (xi_in (by omega) (by rw [hy315]; omega)) HG316 ?_
                            refine xi_ift (pc' := 63) kc_32_54 rfl (xc_ne_t (X := u309.toInt) (Y := 0) rfl (by decide) (by omega)) ?_
                            refine xi_iload_n (pc' := 64) (x := a23) kc_32_63 rfl rfl ?_
                            refine xi_iconst (pc' := 65) (v := 1) kc_32_64 rfl rfl ?_
                            refine xi_cmf (pc' := 68) kc_32_65 rfl (xc_lt_f (X := a23.toInt) (Y := 1) rfl (by decide) (by omega)) ?_
                            refine xi_iload (pc' := 70) (x := a25) kc_32_68 rfl rfl ?_
                            refine xi_ift (pc' := 80) kc_32_70 rfl (xc_ge_t (X := a25.toInt) (Y := 0) rfl (by decide) (by omega)) ?_
                            refine xi_iload_n (pc' := 81) (x := a23) kc_32_80 rfl rfl ?_
                            refine xi_bipush (pc' := 83) (v := 99) kc_32_81 rfl rfl ?_
                            refine xi_cmf (pc' := 86) kc_32_83 rfl (xc_gt_f (X := a23.toInt) (Y := 99) rfl (by decide) (by omega)) ?_
                            refine xi_iload (pc' := 88) (x := a25) kc_32_86 rfl rfl ?_
                            refine xi_sipush (pc' := 91) (v := 600) kc_32_88 rfl rfl ?_
                            refine xi_cmf (pc' := 94) kc_32_91 rfl (xc_gt_f (X := a25.toInt) (Y := 600) rfl (by decide) (by omega)) ?_
                            refine xi_aload_n (pc' := 95) (x := 115) kc_32_94 rfl rfl ?_
                            refine xi_getfield (pc' := 98) (v := .int u1) kc_32_95 rfl rfl rfl eh454.1 rfl ?_
                            refine xi_bipush (pc' := 100) (v := 10) kc_32_98 rfl rfl ?_
                            refine xi_cmt (pc' := 110) kc_32_100 rfl (xc_ne_t (X := u1.toInt) (Y := 10) rfl (by decide) (by omega)) ?_
                            refine xi_aload_n (pc' := 111) (x := 115) kc_32_110 rfl rfl ?_
                            refine xi_getfield (pc' := 114) (v := .ref 135) kc_32_111 rfl rfl rfl eh454.1 rfl ?_
                            refine xi_aload_n (pc' := 115) (x := 115) kc_32_114 rfl rfl ?_
                            refine xi_getfield (pc' := 118) (v := .int u1) kc_32_115 rfl rfl rfl eh454.1 rfl ?_
                            refine xi_iload_n (pc' := 119) (x := a19) kc_32_118 rfl rfl ?_
                            obtain ⟨y459, A459, hy459, ry459⟩ := xk_arr K.1 xD_135
                            have A460 := ((eh454.2.1 135 (by decide)).trans ((eh449.2.1 135 (by decide)).trans ((eh443.2.1 135 (xk_nc mpt425 rfl)).trans ((eh439.2.1 135 (xk_nc mpt425 rfl)).trans ((eh435.2.1 135 (xk_nc mpt425 rfl)).trans ((eh431.2.1 135 (xk_nc mpt425 rfl)).trans A459))))))
                            obtain ⟨y461, s461, hy461, ry461⟩ := xj_set (v := a19) hy459 ry459 u1 (by first | omega | decide) (by first | omega | decide)
                            refine xi_iastore (pc' := 120) (x' := y461) kc_32_119 rfl A460 rfl (xi_in (by omega) (by rw [hy459]; omega)) s461 (fun hh461 eh461 => ?_)
                            have K462 := xk_pa K456 (xk_wa rfl) xD_135 hy461 ry461 eh461
                            refine xi_aload_n (pc' := 121) (x := 115) kc_32_120 rfl rfl ?_
                            have A463 := ((eh461.2.1 115 (by decide)).trans eh454.1)
                            refine xi_getfield (pc' := 124) (v := .ref 136) kc_32_121 rfl rfl rfl A463 rfl ?_
                            refine xi_aload_n (pc' := 125) (x := 115) kc_32_124 rfl rfl ?_
                            refine xi_getfield (pc' := 128) (v := .int u1) kc_32_125 rfl rfl rfl A463 rfl ?_
                            refine xi_iload_n (pc' := 129) (x := a21) kc_32_128 rfl rfl ?_
                            obtain ⟨y464, A464, hy464, ry464⟩ := xk_arr K.1 xD_136
                            have A465 := ((eh461.2.1 136 (by decide)).trans ((eh454.2.1 136 (by decide)).trans ((eh449.2.1 136 (by decide)).trans ((eh443.2.1 136 (xk_nc mpt425 rfl)).trans ((eh439.2.1 136 (xk_nc mpt425 rfl)).trans ((eh435.2.1 136 (xk_nc mpt425 rfl)).trans ((eh431.2.1 136 (xk_nc mpt425 rfl)).trans A464)))))))
                            obtain ⟨y466, s466, hy466, ry466⟩ := xj_set (v := a21) hy464 ry464 u1 (by first | omega | decide) (by first | omega | decide)
                            refine xi_iastore (pc' := 130) (x' := y466) kc_32_129 rfl A465 rfl (xi_in (by omega) (by rw [hy464]; omega)) s466 (fun hh466 eh466 => ?_)
                            have K467 := xk_pa K462 (xk_wa rfl) xD_136 hy466 ry466 eh466
                            refine xi_aload_n (pc' := 131) (x := 115) kc_32_130 rfl rfl ?_
                            have A468 := ((eh466.2.1 115 (by decide)).trans A463)
                            refine xi_getfield (pc' := 134) (v := .ref 137) kc_32_131 rfl rfl rfl A468 rfl ?_
                            refine xi_aload_n (pc' := 135) (x := 115) kc_32_134 rfl rfl ?_
                            refine xi_getfield (pc' := 138) (v := .int u1) kc_32_135 rfl rfl rfl A468 rfl ?_
                            refine xi_iload_n (pc' := 139) (x := a23) kc_32_138 rfl rfl ?_
                            obtain ⟨y469, A469, hy469, ry469⟩ := xk_arr K.1 xD_137
                            have A470 := ((eh466.2.1 137 (by decide)).trans ((eh461.2.1 137 (by decide)).trans ((eh454.2.1 137 (by decide)).trans ((eh449.2.1 137 (by decide)).trans ((eh443.2.1 137 (xk_nc mpt425 rfl)).trans ((eh439.2.1 137 (xk_nc mpt425 rfl)).trans ((eh435.2.1 137 (xk_nc mpt425 rfl)).trans ((eh431.2.1 137 (xk_nc mpt425 rfl)).trans A469))))))))
                            obtain ⟨y471, s471, hy471, ry471⟩ := xj_set (v := a23) hy469 ry469 u1 (by first | omega | decide) (by first | omega | decide)
                            refine xi_iastore (pc' := 140) (x' := y471) kc_32_139 rfl A470 rfl (xi_in (by omega) (by rw [hy469]; omega)) s471 (fun hh471 eh471 => ?_)
                            have K472 := xk_pa K467 (xk_wa rfl) xD_137 hy471 ry471 eh471
                            refine xi_aload_n (pc' := 141) (x := 115) kc_32_140 rfl rfl ?_
                            have A473 := ((eh471.2.1 115 (by decide)).trans A468)
                            refine xi_getfield (pc' := 144) (v := .ref 138) kc_32_141 rfl rfl rfl A473 rfl ?_
                            refine xi_aload_n (pc' := 145) (x := 115) kc_32_144 rfl rfl ?_
                            refine xi_getfield (pc' := 148) (v := .int u1) kc_32_145 rfl rfl rfl A473 rfl ?_
                            refine xi_iload (pc' := 150) (x := a25) kc_32_148 rfl rfl ?_
                            obtain ⟨y474, A474, hy474, ry474⟩ := xk_arr K.1 xD_138
                            have A475 := ((eh471.2.1 138 (by decide)).trans ((eh466.2.1 138 (by decide)).trans ((eh461.2.1 138 (by decide)).trans ((eh454.2.1 138 (by decide)).trans ((eh449.2.1 138 (by decide)).trans ((eh443.2.1 138 (xk_nc mpt425 rfl)).trans ((eh439.2.1 138 (xk_nc mpt425 rfl)).trans ((eh435.2.1 138 (xk_nc mpt425 rfl)).trans ((eh431.2.1 138 (xk_nc mpt425 rfl)).trans A474)))))))))
                            obtain ⟨y476, s476, hy476, ry476⟩ := xj_set (v := a25) hy474 ry474 u1 (by first | omega | decide) (by first | omega | decide)
                            refine xi_iastore (pc' := 151) (x' := y476) kc_32_150 rfl A475 rfl (xi_in (by omega) (by rw [hy474]; omega)) s476 (fun hh476 eh476 => ?_)
                            have K477 := xk_pa K472 (xk_wa rfl) xD_138 hy476 ry476 eh476
                            refine xi_aload_n (pc' := 152) (x := 115) kc_32_151 rfl rfl ?_
                            have A478 := ((eh476.2.1 115 (by decide)).trans A473)
                            refine xi_getfield (pc' := 155) (v := .ref 139) kc_32_152 rfl rfl rfl A478 rfl ?_
                            refine xi_aload_n (pc' := 156) (x := 115) kc_32_155 rfl rfl ?_
                            refine xi_getfield (pc' := 159) (v := .int u1) kc_32_156 rfl rfl rfl A478 rfl ?_
                            refine xi_iconst (pc' := 160) (v := 0) kc_32_159 rfl rfl ?_
                            obtain ⟨y479, A479, hy479, ry479⟩ := xk_arr K.1 xD_139
                            have A480 := ((eh476.2.1 139 (by decide)).trans ((eh471.2.1 139 (by decide)).trans ((eh466.2.1 139 (by decide)).trans ((eh461.2.1 139 (by decide)).trans ((eh454.2.1 139 (by decide)).trans ((eh449.2.1 139 (by decide)).trans ((eh443.2.1 139 (xk_nc mpt425 rfl)).trans ((eh439.2.1 139 (xk_nc mpt425 rfl)).trans ((eh435.2.1 139 (xk_nc mpt425 rfl)).trans ((eh431.2.1 139 (xk_nc mpt425 rfl)).trans A479))))))))))
                            obtain ⟨y481, s481, hy481, ry481⟩ := xj_set (v := 0) hy479 ry479 u1 (by first | omega | decide) (by first | omega | decide)
                            refine xi_bastore (pc' := 161) (x' := y481) kc_32_160 rfl A480 rfl (xi_in (by omega) (by rw [hy479]; omega)) s481 (fun hh481 eh481 => ?_)
                            have K482 := xk_pa K477 (xk_wa rfl) xD_139 hy481 ry481 eh481
                            refine xi_aload_n (pc' := 162) (x := 115) kc_32_161 rfl rfl ?_
                            refine xi_dup (pc' := 163) kc_32_162 rfl rfl ?_
                            have A483 := ((eh481.2.1 115 (by decide)).trans A478)
                            refine xi_getfield (pc' := 166) (v := .int u1) kc_32_163 rfl rfl rfl A483 rfl ?_
                            refine xi_iconst (pc' := 167) (v := 1) kc_32_166 rfl rfl ?_
                            refine xi_iadd (pc' := 168) (v := v448) kc_32_167 rfl ev448 ?_
                            refine xi_putfield (pc' := 171) (fs' := [.int 0, .int u5, .ref 116, .ref 117, .ref 118, .ref 119, .ref 120, .ref 121, .ref 122, .ref 123, .ref 124, .ref 125, .ref 126, .ref 127, .ref 128, .ref 129, .int u6, .ref 130, .int u7, .ref 131, .ref 132, .ref 133, .ref 134, .int v448, .ref 135, .ref 136, .ref 137, .ref 138, .ref 139, .ref 140, .ref 141, .ref 142, .int u9, .int u10, .int u11, .ref 143, .ref 144, .ref 145, .ref 146, .ref 147, .ref 148, .int u12, .ref 149, .ref 150, .ref 151, .int u13, .ref 152, .ref 153, .ref 154, .ref 155, .ref 156, .ref 157, .ref 158, .ref 159, .int u14, .ref 160, .int u15, .ref 161, .ref 162, .ref 163, .ref 164, .int u16, .ref 165, .ref 166]) kc_32_168 rfl rfl rfl A483 rfl rfl rfl (Nat.le_of_ble_eq_true rfl) rfl (fun hh485 eh484 => ?_)
                            have K486 := xk_pf (k := 23) (v := v448) K482 (xk_wf rfl) xD_115 A483 rfl (by first | omega | decide) (by first | omega | decide) eh484 rfl
                            refine xi_aload_n (pc' := 172) (x := 115) kc_32_171 rfl rfl ?_
                            refine xi_iconst (pc' := 173) (v := 0) kc_32_172 rfl rfl ?_
                            refine xi_putfield (pc' := 176) (fs' := [.int 0, .int u5, .ref 116, .ref 117, .ref 118, .ref 119, .ref 120, .ref 121, .ref 122, .ref 123, .ref 124, .ref 125, .ref 126, .ref 127, .ref 128, .ref 129, .int u6, .ref 130, .int u7, .ref 131, .ref 132, .ref 133, .ref 134, .int v448, .ref 135, .ref 136, .ref 137, .ref 138, .ref 139, .ref 140, .ref 141, .ref 142, .int u9, .int u10, .int u11, .ref 143, .ref 144, .ref 145, .ref 146, .ref 147, .ref 148, .int 0, .ref 149, .ref 150, .ref 151, .int u13, .ref 152, .ref 153, .ref 154, .ref 155, .ref 156, .ref 157, .ref 158, .ref 159, .int u14, .ref 160, .int u15, .ref 161, .ref 162, .ref 163, .ref 164, .int u16, .ref 165, .ref 166]) kc_32_173 rfl rfl rfl eh484.1 rfl rfl rfl (Nat.le_of_ble_eq_true rfl) rfl (fun hh488 eh487 => ?_)
                            have K489 := xk_pf (k := 41) (v := 0) K486 (xk_wf rfl) xD_115 eh484.1 rfl (by first | omega | decide) (by first | omega | decide) eh487 rfl
                            refine xi_aload_n (pc' := 177) (x := 115) kc_32_176 rfl rfl ?_
                            refine xi_getfield (pc' := 180) (v := .int v448) kc_32_177 rfl rfl rfl eh487.1 rfl ?_
                            refine xi_iconst (pc' := 181) (v := 1) kc_32_180 rfl rfl ?_
                            refine xi_isub (pc' := 182) (v := v452) kc_32_181 rfl ev452 ?_
                            refine xi_ireturn kc_32_182 mr_32 rfl ?_
                            show xw J ov 100 195 (707, [(4, .int x4), (3, .ref 167), (2, .ref 115), (1, .ref 0), (0, .ref 1000000)], [.int v452, .int v452], hh488) _
                            refine xi_cmt (pc' := 1501) kc_195_707 rfl (xc_eq_t (X := u1.toInt) (Y := u1.toInt) zv452 zv452 (by omega)) ?_
                            obtain ⟨v490, ev490⟩ : ∃ q : Int32, x4 + 6 = q := ⟨_, rfl⟩
                            have zv490 : v490.toInt = (x4.toInt + 6) := by rw [← ev490]; exact (xz_add (X := x4.toInt) (Y := 6) rfl (by decide) (by omega) (by omega)).trans (by omega)
                            refine xi_iinc (pc' := 1504) (x := x4) (v := v490) (lv' := [(4, .int v490), (3, .ref 167), (2, .ref 115), (1, .ref 0), (0, .ref 1000000)]) kc_195_1501 rfl rfl ev490 rfl (xm_lt ml_195 rfl) ?_
                            refine xi_goto (pc' := 23) kc_195_1504 rfl ?_
                            have A491 := ((eh487.2.1 1 (by decide)).trans ((eh484.2.1 1 (by decide)).trans ((eh481.2.1 1 (by decide)).trans ((eh476.2.1 1 (by decide)).trans ((eh471.2.1 1 (by decide)).trans ((eh466.2.1 1 (by decide)).trans ((eh461.2.1 1 (by decide)).trans ((eh454.2.1 1 (by decide)).trans eh449.1))))))))
                            exact kk v490 hh488 (by omega) K489 ⟨(xGR_kept I.1 (fun c hc => ((eh487.2.1 c (Ne.symm (xk_nc hc rfl))).trans ((eh484.2.1 c (Ne.symm (xk_nc hc rfl))).trans ((eh481.2.1 c (Ne.symm (xk_nc hc rfl))).trans ((eh476.2.1 c (Ne.symm (xk_nc hc rfl))).trans ((eh471.2.1 c (Ne.symm (xk_nc hc rfl))).trans ((eh466.2.1 c (Ne.symm (xk_nc hc rfl))).trans ((eh461.2.1 c (Ne.symm (xk_nc hc rfl))).trans ((eh454.2.1 c (Ne.symm (xk_nc hc rfl))).trans ((eh449.2.1 c (Ne.symm (xk_nc hc rfl))).trans ((eh443.2.1 c (xk_nn hc mpt425 rfl)).trans ((eh439.2.1 c (xk_nn hc mpt425 rfl)).trans ((eh435.2.1 c (xk_nn hc mpt425 rfl)).trans (eh431.2.1 c (xk_nn hc mpt425 rfl))))))))))))))) ((eh487.2.1 125 (by decide)).trans ((eh484.2.1 125 (by decide)).trans ((eh481.2.1 125 (by decide)).trans ((eh476.2.1 125 (by decide)).trans ((eh471.2.1 125 (by decide)).trans ((eh466.2.1 125 (by decide)).trans ((eh461.2.1 125 (by decide)).trans ((eh454.2.1 125 (by decide)).trans ((eh449.2.1 125 (by decide)).trans ((eh443.2.1 125 (xk_nc mpt425 rfl)).trans ((eh439.2.1 125 (xk_nc mpt425 rfl)).trans ((eh435.2.1 125 (xk_nc mpt425 rfl)).trans (eh431.2.1 125 (xk_nc mpt425 rfl))))))))))))))), (xGR_kept I.2.1 (fun c hc => ((eh487.2.1 c (Ne.symm (xk_nc hc rfl))).trans ((eh484.2.1 c (Ne.symm (xk_nc hc rfl))).trans ((eh481.2.1 c (Ne.symm (xk_nc hc rfl))).trans ((eh476.2.1 c (Ne.symm (xk_nc hc rfl))).trans ((eh471.2.1 c (Ne.symm (xk_nc hc rfl))).trans ((eh466.2.1 c (Ne.symm (xk_nc hc rfl))).trans ((eh461.2.1 c (Ne.symm (xk_nc hc rfl))).trans ((eh454.2.1 c (Ne.symm (xk_nc hc rfl))).trans ((eh449.2.1 c (Ne.symm (xk_nc hc rfl))).trans ((eh443.2.1 c (xk_nn hc mpt425 rfl)).trans ((eh439.2.1 c (xk_nn hc mpt425 rfl)).trans ((eh435.2.1 c (xk_nn hc mpt425 rfl)).trans (eh431.2.1 c (xk_nn hc mpt425 rfl))))))))))))))) ((eh487.2.1 127 (by decide)).trans ((eh484.2.1 127 (by decide)).trans ((eh481.2.1 127 (by decide)).trans ((eh476.2.1 127 (by decide)).trans ((eh471.2.1 127 (by decide)).trans ((eh466.2.1 127 (by decide)).trans ((eh461.2.1 127 (by decide)).trans ((eh454.2.1 127 (by decide)).trans ((eh449.2.1 127 (by decide)).trans ((eh443.2.1 127 (xk_nc mpt425 rfl)).trans ((eh439.2.1 127 (xk_nc mpt425 rfl)).trans ((eh435.2.1 127 (xk_nc mpt425 rfl)).trans (eh431.2.1 127 (xk_nc mpt425 rfl))))))))))))))), ((xl_of A491 rfl).trans (xl_of eh487.1 rfl).symm)⟩
                          · refine xi_cmf (pc' := 75) kc_116_72 rfl (xc_lt_f (X := u1.toInt) (Y := 10) rfl (by decide) (by omega)) ?_
                            refine xi_aload_n (pc' := 76) (x := 0) kc_116_75 rfl rfl ?_
                            refine xi_bipush (pc' := 78) (v := (-6)) kc_116_76 rfl rfl ?_
                            refine xi_virtual (mj := 90) (as := [.int (-6)]) (st1 := []) (lv0 := [(0, .ref 0), (1, .int (-6))]) kc_116_78 rfl rfl rfl rfl rfl A28 (Nat.le_of_ble_eq_true rfl) (hJ _ _ _ _ (by decide)) (xm_le ml_90 rfl) rfl ?_
                            refine xi_iload_n (pc' := 1) (x := (-6)) kc_90_0 rfl rfl ?_
                            refine xi_ineg (pc' := 2) (v := 6) kc_90_1 rfl rfl ?_
                            refine xi_istore_n (pc' := 3) (lv' := [(2, .int 6), (0, .ref 0), (1, .int (-6))]) kc_90_2 rfl rfl (xm_lt ml_90 rfl) ?_
                            refine xi_iload_n (pc' := 4) (x := 6) kc_90_3 rfl rfl ?_
                            refine xi_iff (pc' := 7) kc_90_4 rfl rfl ?_
                            refine xi_iload_n (pc' := 8) (x := 6) kc_90_7 rfl rfl ?_
                            refine xi_aload_n (pc' := 9) (x := 0) kc_90_8 rfl rfl ?_
                            refine xi_getfield (pc' := 12) (v := .ref 94) kc_90_9 rfl rfl rfl A28 rfl ?_
                            obtain ⟨y492, A492, hy492, ry492⟩ := xk_arr K.1 xD_94
                            refine xi_arraylength (pc' := 13) (n := 7) (v := 7) kc_90_12 rfl (xl_lenI (by decide) (by decide) A492 hy492) rfl ?_
                            refine xi_cmf (pc' := 16) kc_90_13 rfl rfl ?_
                            refine xi_aload_n (pc' := 17) (x := 0) kc_90_16 rfl rfl ?_
                            refine xi_getfield (pc' := 20) (v := .ref 94) kc_90_17 rfl rfl rfl A28 rfl ?_
                            refine xi_iload_n (pc' := 21) (x := 6) kc_90_20 rfl rfl ?_
                            refine xi_dup2 (pc' := 22) kc_90_21 rfl ⟨rfl, rfl⟩ ?_
                            obtain ⟨v493, ev493, bv493, dv493⟩ := xj_get hy492 ry492 (i := 6) (by decide) (by decide)
                            refine xi_iaload (pc' := 23) (v := v493) kc_90_22 rfl A492 (by decide) rfl (xi_in (by decide) (by rw [hy492]; decide)) ev493 ?_
                            refine xi_iconst (pc' := 24) (v := 1) kc_90_23 rfl rfl ?_
                            obtain ⟨v494, ev494⟩ : ∃ q : Int32, (v493 : Int32) + 1 = q := ⟨_, rfl⟩
                            have rv494 := xc_rng v494
                            refine xi_iadd (pc' := 25) (v := v494) kc_90_24 rfl ev494 ?_
                            obtain ⟨y495, s495, hy495, ry495⟩ := xj_set (v := v494) hy492 ry492 6 (by first | omega | decide) (by first | omega | decide)
                            refine xi_iastore (pc' := 26) (x' := y495) kc_90_25 rfl A492 rfl (xi_in (by decide) (by rw [hy492]; decide)) s495 (fun hh495 eh495 => ?_)
                            have K496 := xk_pa K (xk_wa rfl) xD_94 hy495 ry495 eh495
                            refine xi_iload_n (pc' := 27) (x := (-6)) kc_90_26 rfl rfl ?_
                            refine xi_ireturn kc_90_27 mr_90 rfl ?_
                            show xw J ov 99 116 (81, [(0, .ref 0), (1, .int a19), (2, .int a21), (3, .int a23), (4, .int a25)], [.int (-6)], hh495) _
                            refine xi_ireturn kc_116_81 mr_116 rfl ?_
                            show xw J ov 100 195 (679, [(4, .int x4), (3, .ref 167), (2, .ref 115), (1, .ref 0), (0, .ref 1000000)], [.int (-6)], hh495) _
                            refine xi_aload_n (pc' := 680) (x := 115) kc_195_679 rfl rfl ?_
                            refine xi_aload_n (pc' := 681) (x := 1000000) kc_195_680 rfl rfl ?_
                            refine xi_iload (pc' := 683) (x := x4) kc_195_681 rfl rfl ?_
                            refine xi_iconst (pc' := 684) (v := 1) kc_195_683 rfl rfl ?_
                            refine xi_iadd (pc' := 685) (v := v18) kc_195_684 rfl ev18 ?_
                            refine xi_ialoadO (pc' := 686) (v := a19) kc_195_685 rfl (by decide) hov0 (xi_in (by omega) (by omega)) ea19 ?_
                            refine xi_aload_n (pc' := 687) (x := 1000000) kc_195_686 rfl rfl ?_
                            refine xi_iload (pc' := 689) (x := x4) kc_195_687 rfl rfl ?_
                            refine xi_iconst (pc' := 690) (v := 2) kc_195_689 rfl rfl ?_
                            refine xi_iadd (pc' := 691) (v := v20) kc_195_690 rfl ev20 ?_
                            refine xi_ialoadO (pc' := 692) (v := a21) kc_195_691 rfl (by decide) hov0 (xi_in (by omega) (by omega)) ea21 ?_
                            refine xi_aload_n (pc' := 693) (x := 1000000) kc_195_692 rfl rfl ?_
                            refine xi_iload (pc' := 695) (x := x4) kc_195_693 rfl rfl ?_
                            refine xi_iconst (pc' := 696) (v := 3) kc_195_695 rfl rfl ?_
                            refine xi_iadd (pc' := 697) (v := v22) kc_195_696 rfl ev22 ?_
                            refine xi_ialoadO (pc' := 698) (v := a23) kc_195_697 rfl (by decide) hov0 (xi_in (by omega) (by omega)) ea23 ?_
                            refine xi_aload_n (pc' := 699) (x := 1000000) kc_195_698 rfl rfl ?_
                            refine xi_iload (pc' := 701) (x := x4) kc_195_699 rfl rfl ?_
                            refine xi_iconst (pc' := 702) (v := 4) kc_195_701 rfl rfl ?_
                            refine xi_iadd (pc' := 703) (v := v24) kc_195_702 rfl ev24 ?_
                            refine xi_ialoadO (pc' := 704) (v := a25) kc_195_703 rfl (by decide) hov0 (xi_in (by omega) (by omega)) ea25 ?_
                            have A497 := ((eh495.2.1 115 (by decide)).trans A17)
                            refine xi_virtual (mj := 32) (as := [.int a19, .int a21, .int a23, .int a25]) (st1 := [.int (-6)]) (lv0 := [(0, .ref 115), (1, .int a19), (2, .int a21), (3, .int a23), (4, .int a25)]) kc_195_704 rfl rfl rfl rfl rfl A497 (Nat.le_of_ble_eq_true rfl) (hJ _ _ _ _ (by decide)) (xm_le ml_32 rfl) rfl ?_
                            refine xi_aload_n (pc' := 1) (x := 115) kc_32_0 rfl rfl ?_
                            refine xi_iconst (pc' := 2) (v := 0) kc_32_1 rfl rfl ?_
                            refine xi_putfield (pc' := 5) (fs' := [.int 0, .int u5, .ref 116, .ref 117, .ref 118, .ref 119, .ref 120, .ref 121, .ref 122, .ref 123, .ref 124, .ref 125, .ref 126, .ref 127, .ref 128, .ref 129, .int u6, .ref 130, .int u7, .ref 131, .ref 132, .ref 133, .ref 134, .int u1, .ref 135, .ref 136, .ref 137, .ref 138, .ref 139, .ref 140, .ref 141, .ref 142, .int u9, .int u10, .int u11, .ref 143, .ref 144, .ref 145, .ref 146, .ref 147, .ref 148, .int u12, .ref 149, .ref 150, .ref 151, .int u13, .ref 152, .ref 153, .ref 154, .ref 155, .ref 156, .ref 157, .ref 158, .ref 159, .int u14, .ref 160, .int u15, .ref 161, .ref 162, .ref 163, .ref 164, .int u16, .ref 165, .ref 166]) kc_32_2 rfl rfl rfl A497 rfl rfl rfl (Nat.le_of_ble_eq_true rfl) rfl (fun hh499 eh498 => ?_)
                            have K500 := xk_pf (k := 0) (v := 0) K496 (xk_wf rfl) xD_115 A497 rfl (by first | omega | decide) (by first | omega | decide) eh498 rfl
                            refine xi_iload_n (pc' := 6) (x := a19) kc_32_5 rfl rfl ?_
                            refine xi_iconst (pc' := 7) (v := 0) kc_32_6 rfl rfl ?_
                            refine xi_iconst (pc' := 8) (v := 3) kc_32_7 rfl rfl ?_
                            refine xi_static (mj := 11) (as := [.int a19, .int 0, .int 3]) (st1 := []) (lv0 := [(0, .int a19), (1, .int 0), (2, .int 3)]) kc_32_8 rfl rfl (Nat.le_of_ble_eq_true rfl) rfl rfl (Nat.le_of_ble_eq_true rfl) (hJ _ _ _ _ (by decide)) (xm_le ml_11 rfl) rfl ?_
                            refine xi_iload_n (pc' := 1) (x := a19) kc_11_0 rfl rfl ?_
                            refine xi_iload_n (pc' := 2) (x := 0) kc_11_1 rfl rfl ?_
                            refine xi_cmf (pc' := 5) kc_11_2 rfl (xc_lt_f (X := a19.toInt) (Y := 0) rfl (by decide) (by omega)) ?_
                            refine xi_iload_n (pc' := 6) (x := a19) kc_11_5 rfl rfl ?_
                            refine xi_iload_n (pc' := 7) (x := 3) kc_11_6 rfl rfl ?_
                            refine xi_cmf (pc' := 10) kc_11_7 rfl (xc_gt_f (X := a19.toInt) (Y := 3) rfl (by decide) (by omega)) ?_
                            refine xi_iconst (pc' := 11) (v := 1) kc_11_10 rfl rfl ?_
                            refine xi_goto (pc' := 15) kc_11_11 rfl ?_
                            refine xi_ireturn kc_11_15 mr_11 rfl ?_
                            show xw J ov 99 32 (11, [(0, .ref 115), (1, .int a19), (2, .int a21), (3, .int a23), (4, .int a25)], [.int 1], hh499) _
                            refine xi_ift (pc' := 21) kc_32_11 rfl rfl ?_
                            refine xi_iload_n (pc' := 22) (x := a19) kc_32_21 rfl rfl ?_
                            refine xi_iconst (pc' := 23) (v := 3) kc_32_22 rfl rfl ?_
                            refine xi_cmt (pc' := 36) kc_32_23 rfl (xc_ne_t (X := a19.toInt) (Y := 3) rfl (by decide) (by omega)) ?_
                            refine xi_aload_n (pc' := 37) (x := 115) kc_32_36 rfl rfl ?_
                            refine xi_iload_n (pc' := 38) (x := a21) kc_32_37 rfl rfl ?_
                            refine xi_virtual (mj := 31) (as := [.int a21]) (st1 := []) (lv0 := [(0, .ref 115), (1, .int a21)]) kc_32_38 rfl rfl rfl rfl rfl eh498.1 (Nat.le_of_ble_eq_true rfl) (hJ _ _ _ _ (by decide)) (xm_le ml_31 rfl) rfl ?_
                            refine xi_iload_n (pc' := 1) (x := a21) kc_31_0 rfl rfl ?_
                            refine xi_static (mj := 24) (as := [.int a21]) (st1 := []) (lv0 := [(0, .int a21)]) kc_31_1 rfl rfl (Nat.le_of_ble_eq_true rfl) rfl rfl (Nat.le_of_ble_eq_true rfl) (hJ _ _ _ _ (by decide)) (xm_le ml_24 rfl) rfl ?_
                            refine xi_iload_n (pc' := 1) (x := a21) kc_24_0 rfl rfl ?_
                            refine xi_iconst (pc' := 2) (v := 0) kc_24_1 rfl rfl ?_
                            refine xi_bipush (pc' := 4) (v := 11) kc_24_2 rfl rfl ?_
                            refine xi_static (mj := 11) (as := [.int a21, .int 0, .int 11]) (st1 := []) (lv0 := [(0, .int a21), (1, .int 0), (2, .int 11)]) kc_24_4 rfl rfl (Nat.le_of_ble_eq_true rfl) rfl rfl (Nat.le_of_ble_eq_true rfl) (hJ _ _ _ _ (by decide)) (xm_le ml_11 rfl) rfl ?_
                            refine xi_iload_n (pc' := 1) (x := a21) kc_11_0 rfl rfl ?_
                            refine xi_iload_n (pc' := 2) (x := 0) kc_11_1 rfl rfl ?_
                            refine xi_cmf (pc' := 5) kc_11_2 rfl (xc_lt_f (X := a21.toInt) (Y := 0) rfl (by decide) (by omega)) ?_
                            refine xi_iload_n (pc' := 6) (x := a21) kc_11_5 rfl rfl ?_
                            refine xi_iload_n (pc' := 7) (x := 11) kc_11_6 rfl rfl ?_
                            refine xi_cmf (pc' := 10) kc_11_7 rfl (xc_gt_f (X := a21.toInt) (Y := 11) rfl (by decide) (by omega)) ?_
                            refine xi_iconst (pc' := 11) (v := 1) kc_11_10 rfl rfl ?_
                            refine xi_goto (pc' := 15) kc_11_11 rfl ?_
                            refine xi_ireturn kc_11_15 mr_11 rfl ?_
                            show xw J ov 97 24 (7, [(0, .int a21)], [.int 1], hh499) _
                            refine xi_ireturn kc_24_7 mr_24 rfl ?_
                            show xw J ov 98 31 (4, [(0, .ref 115), (1, .int a21)], [.int 1], hh499) _
                            refine xi_iff (pc' := 7) kc_31_4 rfl rfl ?_
                            refine xi_aload_n (pc' := 8) (x := 115) kc_31_7 rfl rfl ?_
                            refine xi_getfield (pc' := 11) (v := .ref 125) kc_31_8 rfl rfl rfl eh498.1 rfl ?_
                            refine xi_iload_n (pc' := 12) (x := a21) kc_31_11 rfl rfl ?_
                            have A501 := ((eh498.2.1 125 (by decide)).trans ((eh495.2.1 125 (by decide)).trans A313))
                            refine xi_iaload (pc' := 13) (v := u307) kc_31_12 rfl A501 (by decide) rfl (xi_in (by omega) (by rw [hy313]; omega)) HG314 ?_
                            refine xi_iff (pc' := 16) kc_31_13 rfl (xc_lt_f (X := u307.toInt) (Y := 0) rfl (by decide) (by omega)) ?_
                            refine xi_iconst (pc' := 17) (v := 1) kc_31_16 rfl rfl ?_
                            refine xi_goto (pc' := 21) kc_31_17 rfl ?_
                            refine xi_ireturn kc_31_21 mr_31 rfl ?_
                            show xw J ov 99 32 (41, [(0, .ref 115), (1, .int a19), (2, .int a21), (3, .int a23), (4, .int a25)], [.int 1], hh499) _
                            refine xi_iff (pc' := 44) kc_32_41 rfl rfl ?_
                            refine xi_iload_n (pc' := 45) (x := a19) kc_32_44 rfl rfl ?_
                            refine xi_iff (pc' := 48) kc_32_45 rfl (xc_ne_f (X := a19.toInt) (Y := 0) rfl (by decide) (by omega)) ?_
                            refine xi_aload_n (pc' := 49) (x := 115) kc_32_48 rfl rfl ?_
                            refine xi_getfield (pc' := 52) (v := .ref 127) kc_32_49 rfl rfl rfl eh498.1 rfl ?_
                            refine xi_iload_n (pc' := 53) (x := a21) kc_32_52 rfl rfl ?_
                            have A502 := ((eh498.2.1 127 (by decide)).trans ((eh495.2.1 127 (by decide)).trans A315))
                            refine xi_baload (pc' := 54) (v := u309) kc_32_53 rfl A502 rfl (xi_in (by omega) (by rw [hy315]; omega)) HG316 ?_
                            refine xi_ift (pc' := 63) kc_32_54 rfl (xc_ne_t (X := u309.toInt) (Y := 0) rfl (by decide) (by omega)) ?_
                            refine xi_iload_n (pc' := 64) (x := a23) kc_32_63 rfl rfl ?_
                            refine xi_iconst (pc' := 65) (v := 1) kc_32_64 rfl rfl ?_
                            refine xi_cmf (pc' := 68) kc_32_65 rfl (xc_lt_f (X := a23.toInt) (Y := 1) rfl (by decide) (by omega)) ?_
                            refine xi_iload (pc' := 70) (x := a25) kc_32_68 rfl rfl ?_
                            refine xi_ift (pc' := 80) kc_32_70 rfl (xc_ge_t (X := a25.toInt) (Y := 0) rfl (by decide) (by omega)) ?_
                            refine xi_iload_n (pc' := 81) (x := a23) kc_32_80 rfl rfl ?_
                            refine xi_bipush (pc' := 83) (v := 99) kc_32_81 rfl rfl ?_
                            refine xi_cmf (pc' := 86) kc_32_83 rfl (xc_gt_f (X := a23.toInt) (Y := 99) rfl (by decide) (by omega)) ?_
                            refine xi_iload (pc' := 88) (x := a25) kc_32_86 rfl rfl ?_
                            refine xi_sipush (pc' := 91) (v := 600) kc_32_88 rfl rfl ?_
                            refine xi_cmf (pc' := 94) kc_32_91 rfl (xc_gt_f (X := a25.toInt) (Y := 600) rfl (by decide) (by omega)) ?_
                            refine xi_aload_n (pc' := 95) (x := 115) kc_32_94 rfl rfl ?_
                            refine xi_getfield (pc' := 98) (v := .int u1) kc_32_95 rfl rfl rfl eh498.1 rfl ?_
                            refine xi_bipush (pc' := 100) (v := 10) kc_32_98 rfl rfl ?_
                            refine xi_cmf (pc' := 103) kc_32_100 rfl (xc_ne_f (X := u1.toInt) (Y := 10) rfl (by decide) (by omega)) ?_
                            refine xi_aload_n (pc' := 104) (x := 115) kc_32_103 rfl rfl ?_
                            refine xi_bipush (pc' := 106) (v := (-6)) kc_32_104 rfl rfl ?_
                            refine xi_virtual (mj := 12) (as := [.int (-6)]) (st1 := []) (lv0 := [(0, .ref 115), (1, .int (-6))]) kc_32_106 rfl rfl rfl rfl rfl eh498.1 (Nat.le_of_ble_eq_true rfl) (hJ _ _ _ _ (by decide)) (xm_le ml_12 rfl) rfl ?_
                            refine xi_aload_n (pc' := 1) (x := 115) kc_12_0 rfl rfl ?_
                            refine xi_getfield (pc' := 4) (v := .ref 140) kc_12_1 rfl rfl rfl eh498.1 rfl ?_
                            refine xi_iload_n (pc' := 5) (x := (-6)) kc_12_4 rfl rfl ?_
                            refine xi_ineg (pc' := 6) (v := 6) kc_12_5 rfl rfl ?_
                            refine xi_dup2 (pc' := 7) kc_12_6 rfl ⟨rfl, rfl⟩ ?_
                            obtain ⟨y503, A503, hy503, ry503⟩ := xk_arr K.1 xD_140
                            obtain ⟨v504, ev504, bv504, dv504⟩ := xj_get hy503 ry503 (i := 6) (by decide) (by decide)
                            have A505 := ((eh498.2.1 140 (by decide)).trans ((eh495.2.1 140 (by decide)).trans A503))
                            refine xi_iaload (pc' := 8) (v := v504) kc_12_7 rfl A505 (by decide) rfl (xi_in (by decide) (by rw [hy503]; decide)) ev504 ?_
                            refine xi_iconst (pc' := 9) (v := 1) kc_12_8 rfl rfl ?_
                            obtain ⟨v506, ev506⟩ : ∃ q : Int32, (v504 : Int32) + 1 = q := ⟨_, rfl⟩
                            have rv506 := xc_rng v506
                            refine xi_iadd (pc' := 10) (v := v506) kc_12_9 rfl ev506 ?_
                            obtain ⟨y507, s507, hy507, ry507⟩ := xj_set (v := v506) hy503 ry503 6 (by first | omega | decide) (by first | omega | decide)
                            refine xi_iastore (pc' := 11) (x' := y507) kc_12_10 rfl A505 rfl (xi_in (by decide) (by rw [hy503]; decide)) s507 (fun hh507 eh507 => ?_)
                            have K508 := xk_pa K500 (xk_wa rfl) xD_140 hy507 ry507 eh507
                            refine xi_iload_n (pc' := 12) (x := (-6)) kc_12_11 rfl rfl ?_
                            refine xi_ireturn kc_12_12 mr_12 rfl ?_
                            show xw J ov 99 32 (109, [(0, .ref 115), (1, .int a19), (2, .int a21), (3, .int a23), (4, .int a25)], [.int (-6)], hh507) _
                            refine xi_ireturn kc_32_109 mr_32 rfl ?_
                            show xw J ov 100 195 (707, [(4, .int x4), (3, .ref 167), (2, .ref 115), (1, .ref 0), (0, .ref 1000000)], [.int (-6), .int (-6)], hh507) _
                            refine xi_cmt (pc' := 1501) kc_195_707 rfl rfl ?_
                            obtain ⟨v509, ev509⟩ : ∃ q : Int32, x4 + 6 = q := ⟨_, rfl⟩
                            have zv509 : v509.toInt = (x4.toInt + 6) := by rw [← ev509]; exact (xz_add (X := x4.toInt) (Y := 6) rfl (by decide) (by omega) (by omega)).trans (by omega)
                            refine xi_iinc (pc' := 1504) (x := x4) (v := v509) (lv' := [(4, .int v509), (3, .ref 167), (2, .ref 115), (1, .ref 0), (0, .ref 1000000)]) kc_195_1501 rfl rfl ev509 rfl (xm_lt ml_195 rfl) ?_
                            refine xi_goto (pc' := 23) kc_195_1504 rfl ?_
                            have A510 := ((eh507.2.1 1 (by decide)).trans ((eh498.2.1 1 (by decide)).trans ((eh495.2.1 1 (by decide)).trans A3)))
                            have A511 := ((eh507.2.1 115 (by decide)).trans eh498.1)
                            exact kk v509 hh507 (by omega) K508 ⟨(xGR_kept I.1 (fun c hc => ((eh507.2.1 c (Ne.symm (xk_nc hc rfl))).trans ((eh498.2.1 c (Ne.symm (xk_nc hc rfl))).trans (eh495.2.1 c (Ne.symm (xk_nc hc rfl)))))) ((eh507.2.1 125 (by decide)).trans ((eh498.2.1 125 (by decide)).trans (eh495.2.1 125 (by decide))))), (xGR_kept I.2.1 (fun c hc => ((eh507.2.1 c (Ne.symm (xk_nc hc rfl))).trans ((eh498.2.1 c (Ne.symm (xk_nc hc rfl))).trans (eh495.2.1 c (Ne.symm (xk_nc hc rfl)))))) ((eh507.2.1 127 (by decide)).trans ((eh498.2.1 127 (by decide)).trans (eh495.2.1 127 (by decide))))), ((xl_of A510 rfl).trans (xl_of A511 rfl).symm)⟩
                    · refine xi_iff (pc' := 42) kc_116_39 rfl (xc_ge_f (X := a25.toInt) (Y := 0) rfl (by decide) (by omega)) ?_
                      refine xi_aload_n (pc' := 43) (x := 0) kc_116_42 rfl rfl ?_
                      refine xi_bipush (pc' := 45) (v := (-4)) kc_116_43 rfl rfl ?_
                      refine xi_virtual (mj := 90) (as := [.int (-4)]) (st1 := []) (lv0 := [(0, .ref 0), (1, .int (-4))]) kc_116_45 rfl rfl rfl rfl rfl A28 (Nat.le_of_ble_eq_true rfl) (hJ _ _ _ _ (by decide)) (xm_le ml_90 rfl) rfl ?_
                      refine xi_iload_n (pc' := 1) (x := (-4)) kc_90_0 rfl rfl ?_
                      refine xi_ineg (pc' := 2) (v := 4) kc_90_1 rfl rfl ?_
                      refine xi_istore_n (pc' := 3) (lv' := [(2, .int 4), (0, .ref 0), (1, .int (-4))]) kc_90_2 rfl rfl (xm_lt ml_90 rfl) ?_
                      refine xi_iload_n (pc' := 4) (x := 4) kc_90_3 rfl rfl ?_
                      refine xi_iff (pc' := 7) kc_90_4 rfl rfl ?_
                      refine xi_iload_n (pc' := 8) (x := 4) kc_90_7 rfl rfl ?_
                      refine xi_aload_n (pc' := 9) (x := 0) kc_90_8 rfl rfl ?_
                      refine xi_getfield (pc' := 12) (v := .ref 94) kc_90_9 rfl rfl rfl A28 rfl ?_
                      obtain ⟨y512, A512, hy512, ry512⟩ := xk_arr K.1 xD_94
                      refine xi_arraylength (pc' := 13) (n := 7) (v := 7) kc_90_12 rfl (xl_lenI (by decide) (by decide) A512 hy512) rfl ?_
                      refine xi_cmf (pc' := 16) kc_90_13 rfl rfl ?_
                      refine xi_aload_n (pc' := 17) (x := 0) kc_90_16 rfl rfl ?_
                      refine xi_getfield (pc' := 20) (v := .ref 94) kc_90_17 rfl rfl rfl A28 rfl ?_
                      refine xi_iload_n (pc' := 21) (x := 4) kc_90_20 rfl rfl ?_
                      refine xi_dup2 (pc' := 22) kc_90_21 rfl ⟨rfl, rfl⟩ ?_
                      obtain ⟨v513, ev513, bv513, dv513⟩ := xj_get hy512 ry512 (i := 4) (by decide) (by decide)
                      refine xi_iaload (pc' := 23) (v := v513) kc_90_22 rfl A512 (by decide) rfl (xi_in (by decide) (by rw [hy512]; decide)) ev513 ?_
                      refine xi_iconst (pc' := 24) (v := 1) kc_90_23 rfl rfl ?_
                      obtain ⟨v514, ev514⟩ : ∃ q : Int32, (v513 : Int32) + 1 = q := ⟨_, rfl⟩
                      have rv514 := xc_rng v514
                      refine xi_iadd (pc' := 25) (v := v514) kc_90_24 rfl ev514 ?_
                      obtain ⟨y515, s515, hy515, ry515⟩ := xj_set (v := v514) hy512 ry512 4 (by first | omega | decide) (by first | omega | decide)
                      refine xi_iastore (pc' := 26) (x' := y515) kc_90_25 rfl A512 rfl (xi_in (by decide) (by rw [hy512]; decide)) s515 (fun hh515 eh515 => ?_)
                      have K516 := xk_pa K (xk_wa rfl) xD_94 hy515 ry515 eh515
                      refine xi_iload_n (pc' := 27) (x := (-4)) kc_90_26 rfl rfl ?_
                      refine xi_ireturn kc_90_27 mr_90 rfl ?_
                      show xw J ov 99 116 (48, [(0, .ref 0), (1, .int a19), (2, .int a21), (3, .int a23), (4, .int a25)], [.int (-4)], hh515) _
                      refine xi_ireturn kc_116_48 mr_116 rfl ?_
                      show xw J ov 100 195 (679, [(4, .int x4), (3, .ref 167), (2, .ref 115), (1, .ref 0), (0, .ref 1000000)], [.int (-4)], hh515) _
                      refine xi_aload_n (pc' := 680) (x := 115) kc_195_679 rfl rfl ?_
                      refine xi_aload_n (pc' := 681) (x := 1000000) kc_195_680 rfl rfl ?_
                      refine xi_iload (pc' := 683) (x := x4) kc_195_681 rfl rfl ?_
                      refine xi_iconst (pc' := 684) (v := 1) kc_195_683 rfl rfl ?_
                      refine xi_iadd (pc' := 685) (v := v18) kc_195_684 rfl ev18 ?_
                      refine xi_ialoadO (pc' := 686) (v := a19) kc_195_685 rfl (by decide) hov0 (xi_in (by omega) (by omega)) ea19 ?_
                      refine xi_aload_n (pc' := 687) (x := 1000000) kc_195_686 rfl rfl ?_
                      refine xi_iload (pc' := 689) (x := x4) kc_195_687 rfl rfl ?_
                      refine xi_iconst (pc' := 690) (v := 2) kc_195_689 rfl rfl ?_
                      refine xi_iadd (pc' := 691) (v := v20) kc_195_690 rfl ev20 ?_
                      refine xi_ialoadO (pc' := 692) (v := a21) kc_195_691 rfl (by decide) hov0 (xi_in (by omega) (by omega)) ea21 ?_
                      refine xi_aload_n (pc' := 693) (x := 1000000) kc_195_692 rfl rfl ?_
                      refine xi_iload (pc' := 695) (x := x4) kc_195_693 rfl rfl ?_
                      refine xi_iconst (pc' := 696) (v := 3) kc_195_695 rfl rfl ?_
                      refine xi_iadd (pc' := 697) (v := v22) kc_195_696 rfl ev22 ?_
                      refine xi_ialoadO (pc' := 698) (v := a23) kc_195_697 rfl (by decide) hov0 (xi_in (by omega) (by omega)) ea23 ?_
                      refine xi_aload_n (pc' := 699) (x := 1000000) kc_195_698 rfl rfl ?_
                      refine xi_iload (pc' := 701) (x := x4) kc_195_699 rfl rfl ?_
                      refine xi_iconst (pc' := 702) (v := 4) kc_195_701 rfl rfl ?_
                      refine xi_iadd (pc' := 703) (v := v24) kc_195_702 rfl ev24 ?_
                      refine xi_ialoadO (pc' := 704) (v := a25) kc_195_703 rfl (by decide) hov0 (xi_in (by omega) (by omega)) ea25 ?_
                      have A517 := ((eh515.2.1 115 (by decide)).trans A17)
                      refine xi_virtual (mj := 32) (as := [.int a19, .int a21, .int a23, .int a25]) (st1 := [.int (-4)]) (lv0 := [(0, .ref 115), (1, .int a19), (2, .int a21), (3, .int a23), (4, .int a25)]) kc_195_704 rfl rfl rfl rfl rfl A517 (Nat.le_of_ble_eq_true rfl) (hJ _ _ _ _ (by decide)) (xm_le ml_32 rfl) rfl ?_
                      refine xi_aload_n (pc' := 1) (x := 115) kc_32_0 rfl rfl ?_
                      refine xi_iconst (pc' := 2) (v := 0) kc_32_1 rfl rfl ?_
                      refine xi_putfield (pc' := 5) (fs' := [.int 0, .int u5, .ref 116, .ref 117, .ref 118, .ref 119, .ref 120, .ref 121, .ref 122, .ref 123, .ref 124, .ref 125, .ref 126, .ref 127, .ref 128, .ref 129, .int u6, .ref 130, .int u7, .ref 131, .ref 132, .ref 133, .ref 134, .int u1, .ref 135, .ref 136, .ref 137, .ref 138, .ref 139, .ref 140, .ref 141, .ref 142, .int u9, .int u10, .int u11, .ref 143, .ref 144, .ref 145, .ref 146, .ref 147, .ref 148, .int u12, .ref 149, .ref 150, .ref 151, .int u13, .ref 152, .ref 153, .ref 154, .ref 155, .ref 156, .ref 157, .ref 158, .ref 159, .int u14, .ref 160, .int u15, .ref 161, .ref 162, .ref 163, .ref 164, .int u16, .ref 165, .ref 166]) kc_32_2 rfl rfl rfl A517 rfl rfl rfl (Nat.le_of_ble_eq_true rfl) rfl (fun hh519 eh518 => ?_)
                      have K520 := xk_pf (k := 0) (v := 0) K516 (xk_wf rfl) xD_115 A517 rfl (by first | omega | decide) (by first | omega | decide) eh518 rfl
                      refine xi_iload_n (pc' := 6) (x := a19) kc_32_5 rfl rfl ?_
                      refine xi_iconst (pc' := 7) (v := 0) kc_32_6 rfl rfl ?_
                      refine xi_iconst (pc' := 8) (v := 3) kc_32_7 rfl rfl ?_
                      refine xi_static (mj := 11) (as := [.int a19, .int 0, .int 3]) (st1 := []) (lv0 := [(0, .int a19), (1, .int 0), (2, .int 3)]) kc_32_8 rfl rfl (Nat.le_of_ble_eq_true rfl) rfl rfl (Nat.le_of_ble_eq_true rfl) (hJ _ _ _ _ (by decide)) (xm_le ml_11 rfl) rfl ?_
                      refine xi_iload_n (pc' := 1) (x := a19) kc_11_0 rfl rfl ?_
                      refine xi_iload_n (pc' := 2) (x := 0) kc_11_1 rfl rfl ?_
                      refine xi_cmf (pc' := 5) kc_11_2 rfl (xc_lt_f (X := a19.toInt) (Y := 0) rfl (by decide) (by omega)) ?_
                      refine xi_iload_n (pc' := 6) (x := a19) kc_11_5 rfl rfl ?_
                      refine xi_iload_n (pc' := 7) (x := 3) kc_11_6 rfl rfl ?_
                      refine xi_cmf (pc' := 10) kc_11_7 rfl (xc_gt_f (X := a19.toInt) (Y := 3) rfl (by decide) (by omega)) ?_
                      refine xi_iconst (pc' := 11) (v := 1) kc_11_10 rfl rfl ?_
                      refine xi_goto (pc' := 15) kc_11_11 rfl ?_
                      refine xi_ireturn kc_11_15 mr_11 rfl ?_
                      show xw J ov 99 32 (11, [(0, .ref 115), (1, .int a19), (2, .int a21), (3, .int a23), (4, .int a25)], [.int 1], hh519) _
                      refine xi_ift (pc' := 21) kc_32_11 rfl rfl ?_
                      refine xi_iload_n (pc' := 22) (x := a19) kc_32_21 rfl rfl ?_
                      refine xi_iconst (pc' := 23) (v := 3) kc_32_22 rfl rfl ?_
                      refine xi_cmt (pc' := 36) kc_32_23 rfl (xc_ne_t (X := a19.toInt) (Y := 3) rfl (by decide) (by omega)) ?_
                      refine xi_aload_n (pc' := 37) (x := 115) kc_32_36 rfl rfl ?_
                      refine xi_iload_n (pc' := 38) (x := a21) kc_32_37 rfl rfl ?_
                      refine xi_virtual (mj := 31) (as := [.int a21]) (st1 := []) (lv0 := [(0, .ref 115), (1, .int a21)]) kc_32_38 rfl rfl rfl rfl rfl eh518.1 (Nat.le_of_ble_eq_true rfl) (hJ _ _ _ _ (by decide)) (xm_le ml_31 rfl) rfl ?_
                      refine xi_iload_n (pc' := 1) (x := a21) kc_31_0 rfl rfl ?_
                      refine xi_static (mj := 24) (as := [.int a21]) (st1 := []) (lv0 := [(0, .int a21)]) kc_31_1 rfl rfl (Nat.le_of_ble_eq_true rfl) rfl rfl (Nat.le_of_ble_eq_true rfl) (hJ _ _ _ _ (by decide)) (xm_le ml_24 rfl) rfl ?_
                      refine xi_iload_n (pc' := 1) (x := a21) kc_24_0 rfl rfl ?_
                      refine xi_iconst (pc' := 2) (v := 0) kc_24_1 rfl rfl ?_
                      refine xi_bipush (pc' := 4) (v := 11) kc_24_2 rfl rfl ?_
                      refine xi_static (mj := 11) (as := [.int a21, .int 0, .int 11]) (st1 := []) (lv0 := [(0, .int a21), (1, .int 0), (2, .int 11)]) kc_24_4 rfl rfl (Nat.le_of_ble_eq_true rfl) rfl rfl (Nat.le_of_ble_eq_true rfl) (hJ _ _ _ _ (by decide)) (xm_le ml_11 rfl) rfl ?_
                      refine xi_iload_n (pc' := 1) (x := a21) kc_11_0 rfl rfl ?_
                      refine xi_iload_n (pc' := 2) (x := 0) kc_11_1 rfl rfl ?_
                      refine xi_cmf (pc' := 5) kc_11_2 rfl (xc_lt_f (X := a21.toInt) (Y := 0) rfl (by decide) (by omega)) ?_
                      refine xi_iload_n (pc' := 6) (x := a21) kc_11_5 rfl rfl ?_
                      refine xi_iload_n (pc' := 7) (x := 11) kc_11_6 rfl rfl ?_
                      refine xi_cmf (pc' := 10) kc_11_7 rfl (xc_gt_f (X := a21.toInt) (Y := 11) rfl (by decide) (by omega)) ?_
                      refine xi_iconst (pc' := 11) (v := 1) kc_11_10 rfl rfl ?_
                      refine xi_goto (pc' := 15) kc_11_11 rfl ?_
                      refine xi_ireturn kc_11_15 mr_11 rfl ?_
                      show xw J ov 97 24 (7, [(0, .int a21)], [.int 1], hh519) _
                      refine xi_ireturn kc_24_7 mr_24 rfl ?_
                      show xw J ov 98 31 (4, [(0, .ref 115), (1, .int a21)], [.int 1], hh519) _
                      refine xi_iff (pc' := 7) kc_31_4 rfl rfl ?_
                      refine xi_aload_n (pc' := 8) (x := 115) kc_31_7 rfl rfl ?_
                      refine xi_getfield (pc' := 11) (v := .ref 125) kc_31_8 rfl rfl rfl eh518.1 rfl ?_
                      refine xi_iload_n (pc' := 12) (x := a21) kc_31_11 rfl rfl ?_
                      have A521 := ((eh518.2.1 125 (by decide)).trans ((eh515.2.1 125 (by decide)).trans A313))
                      refine xi_iaload (pc' := 13) (v := u307) kc_31_12 rfl A521 (by decide) rfl (xi_in (by omega) (by rw [hy313]; omega)) HG314 ?_
                      refine xi_iff (pc' := 16) kc_31_13 rfl (xc_lt_f (X := u307.toInt) (Y := 0) rfl (by decide) (by omega)) ?_
                      refine xi_iconst (pc' := 17) (v := 1) kc_31_16 rfl rfl ?_
                      refine xi_goto (pc' := 21) kc_31_17 rfl ?_
                      refine xi_ireturn kc_31_21 mr_31 rfl ?_
                      show xw J ov 99 32 (41, [(0, .ref 115), (1, .int a19), (2, .int a21), (3, .int a23), (4, .int a25)], [.int 1], hh519) _
                      refine xi_iff (pc' := 44) kc_32_41 rfl rfl ?_
                      refine xi_iload_n (pc' := 45) (x := a19) kc_32_44 rfl rfl ?_
                      refine xi_iff (pc' := 48) kc_32_45 rfl (xc_ne_f (X := a19.toInt) (Y := 0) rfl (by decide) (by omega)) ?_
                      refine xi_aload_n (pc' := 49) (x := 115) kc_32_48 rfl rfl ?_
                      refine xi_getfield (pc' := 52) (v := .ref 127) kc_32_49 rfl rfl rfl eh518.1 rfl ?_
                      refine xi_iload_n (pc' := 53) (x := a21) kc_32_52 rfl rfl ?_
                      have A522 := ((eh518.2.1 127 (by decide)).trans ((eh515.2.1 127 (by decide)).trans A315))
                      refine xi_baload (pc' := 54) (v := u309) kc_32_53 rfl A522 rfl (xi_in (by omega) (by rw [hy315]; omega)) HG316 ?_
                      refine xi_ift (pc' := 63) kc_32_54 rfl (xc_ne_t (X := u309.toInt) (Y := 0) rfl (by decide) (by omega)) ?_
                      refine xi_iload_n (pc' := 64) (x := a23) kc_32_63 rfl rfl ?_
                      refine xi_iconst (pc' := 65) (v := 1) kc_32_64 rfl rfl ?_
                      refine xi_cmf (pc' := 68) kc_32_65 rfl (xc_lt_f (X := a23.toInt) (Y := 1) rfl (by decide) (by omega)) ?_
                      refine xi_iload (pc' := 70) (x := a25) kc_32_68 rfl rfl ?_
                      refine xi_iff (pc' := 73) kc_32_70 rfl (xc_ge_f (X := a25.toInt) (Y := 0) rfl (by decide) (by omega)) ?_
                      refine xi_aload_n (pc' := 74) (x := 115) kc_32_73 rfl rfl ?_
                      refine xi_bipush (pc' := 76) (v := (-4)) kc_32_74 rfl rfl ?_
                      refine xi_virtual (mj := 12) (as := [.int (-4)]) (st1 := []) (lv0 := [(0, .ref 115), (1, .int (-4))]) kc_32_76 rfl rfl rfl rfl rfl eh518.1 (Nat.le_of_ble_eq_true rfl) (hJ _ _ _ _ (by decide)) (xm_le ml_12 rfl) rfl ?_
                      refine xi_aload_n (pc' := 1) (x := 115) kc_12_0 rfl rfl ?_
                      refine xi_getfield (pc' := 4) (v := .ref 140) kc_12_1 rfl rfl rfl eh518.1 rfl ?_
                      refine xi_iload_n (pc' := 5) (x := (-4)) kc_12_4 rfl rfl ?_
                      refine xi_ineg (pc' := 6) (v := 4) kc_12_5 rfl rfl ?_
                      refine xi_dup2 (pc' := 7) kc_12_6 rfl ⟨rfl, rfl⟩ ?_
                      obtain ⟨y523, A523, hy523, ry523⟩ := xk_arr K.1 xD_140
                      obtain ⟨v524, ev524, bv524, dv524⟩ := xj_get hy523 ry523 (i := 4) (by decide) (by decide)
                      have A525 := ((eh518.2.1 140 (by decide)).trans ((eh515.2.1 140 (by decide)).trans A523))
                      refine xi_iaload (pc' := 8) (v := v524) kc_12_7 rfl A525 (by decide) rfl (xi_in (by decide) (by rw [hy523]; decide)) ev524 ?_
                      refine xi_iconst (pc' := 9) (v := 1) kc_12_8 rfl rfl ?_
                      obtain ⟨v526, ev526⟩ : ∃ q : Int32, (v524 : Int32) + 1 = q := ⟨_, rfl⟩
                      have rv526 := xc_rng v526
                      refine xi_iadd (pc' := 10) (v := v526) kc_12_9 rfl ev526 ?_
                      obtain ⟨y527, s527, hy527, ry527⟩ := xj_set (v := v526) hy523 ry523 4 (by first | omega | decide) (by first | omega | decide)
                      refine xi_iastore (pc' := 11) (x' := y527) kc_12_10 rfl A525 rfl (xi_in (by decide) (by rw [hy523]; decide)) s527 (fun hh527 eh527 => ?_)
                      have K528 := xk_pa K520 (xk_wa rfl) xD_140 hy527 ry527 eh527
                      refine xi_iload_n (pc' := 12) (x := (-4)) kc_12_11 rfl rfl ?_
                      refine xi_ireturn kc_12_12 mr_12 rfl ?_
                      show xw J ov 99 32 (79, [(0, .ref 115), (1, .int a19), (2, .int a21), (3, .int a23), (4, .int a25)], [.int (-4)], hh527) _
                      refine xi_ireturn kc_32_79 mr_32 rfl ?_
                      show xw J ov 100 195 (707, [(4, .int x4), (3, .ref 167), (2, .ref 115), (1, .ref 0), (0, .ref 1000000)], [.int (-4), .int (-4)], hh527) _
                      refine xi_cmt (pc' := 1501) kc_195_707 rfl rfl ?_
                      obtain ⟨v529, ev529⟩ : ∃ q : Int32, x4 + 6 = q := ⟨_, rfl⟩
                      have zv529 : v529.toInt = (x4.toInt + 6) := by rw [← ev529]; exact (xz_add (X := x4.toInt) (Y := 6) rfl (by decide) (by omega) (by omega)).trans (by omega)
                      refine xi_iinc (pc' := 1504) (x := x4) (v := v529) (lv' := [(4, .int v529), (3, .ref 167), (2, .ref 115), (1, .ref 0), (0, .ref 1000000)]) kc_195_1501 rfl rfl ev529 rfl (xm_lt ml_195 rfl) ?_
                      refine xi_goto (pc' := 23) kc_195_1504 rfl ?_
                      have A530 := ((eh527.2.1 1 (by decide)).trans ((eh518.2.1 1 (by decide)).trans ((eh515.2.1 1 (by decide)).trans A3)))
                      have A531 := ((eh527.2.1 115 (by decide)).trans eh518.1)
                      exact kk v529 hh527 (by omega) K528 ⟨(xGR_kept I.1 (fun c hc => ((eh527.2.1 c (Ne.symm (xk_nc hc rfl))).trans ((eh518.2.1 c (Ne.symm (xk_nc hc rfl))).trans (eh515.2.1 c (Ne.symm (xk_nc hc rfl)))))) ((eh527.2.1 125 (by decide)).trans ((eh518.2.1 125 (by decide)).trans (eh515.2.1 125 (by decide))))), (xGR_kept I.2.1 (fun c hc => ((eh527.2.1 c (Ne.symm (xk_nc hc rfl))).trans ((eh518.2.1 c (Ne.symm (xk_nc hc rfl))).trans (eh515.2.1 c (Ne.symm (xk_nc hc rfl)))))) ((eh527.2.1 127 (by decide)).trans ((eh518.2.1 127 (by decide)).trans (eh515.2.1 127 (by decide))))), ((xl_of A530 rfl).trans (xl_of A531 rfl).symm)⟩
              · refine xi_ift (pc' := 34) kc_118_19 rfl (xc_ne_t (X := a19.toInt) (Y := 0) rfl (by decide) (by omega)) ?_
                refine xi_iconst (pc' := 35) (v := 1) kc_118_34 rfl rfl ?_
                refine xi_goto (pc' := 39) kc_118_35 rfl ?_
                refine xi_ireturn kc_118_39 mr_118 rfl ?_
                show xw J ov 99 116 (23, [(0, .ref 0), (1, .int a19), (2, .int a21), (3, .int a23), (4, .int a25)], [.int 1], h) _
                refine xi_ift (pc' := 32) kc_116_23 rfl rfl ?_
                refine xi_iload_n (pc' := 33) (x := a23) kc_116_32 rfl rfl ?_
                refine xi_iconst (pc' := 34) (v := 1) kc_116_33 rfl rfl ?_
                by_cases c532 : a23.toInt < 1
                · refine xi_cmt (pc' := 42) kc_116_34 rfl (xc_lt_t (X := a23.toInt) (Y := 1) rfl (by decide) (by omega)) ?_
                  refine xi_aload_n (pc' := 43) (x := 0) kc_116_42 rfl rfl ?_
                  refine xi_bipush (pc' := 45) (v := (-4)) kc_116_43 rfl rfl ?_
                  refine xi_virtual (mj := 90) (as := [.int (-4)]) (st1 := []) (lv0 := [(0, .ref 0), (1, .int (-4))]) kc_116_45 rfl rfl rfl rfl rfl A28 (Nat.le_of_ble_eq_true rfl) (hJ _ _ _ _ (by decide)) (xm_le ml_90 rfl) rfl ?_
                  refine xi_iload_n (pc' := 1) (x := (-4)) kc_90_0 rfl rfl ?_
                  refine xi_ineg (pc' := 2) (v := 4) kc_90_1 rfl rfl ?_
                  refine xi_istore_n (pc' := 3) (lv' := [(2, .int 4), (0, .ref 0), (1, .int (-4))]) kc_90_2 rfl rfl (xm_lt ml_90 rfl) ?_
                  refine xi_iload_n (pc' := 4) (x := 4) kc_90_3 rfl rfl ?_
                  refine xi_iff (pc' := 7) kc_90_4 rfl rfl ?_
                  refine xi_iload_n (pc' := 8) (x := 4) kc_90_7 rfl rfl ?_
                  refine xi_aload_n (pc' := 9) (x := 0) kc_90_8 rfl rfl ?_
                  refine xi_getfield (pc' := 12) (v := .ref 94) kc_90_9 rfl rfl rfl A28 rfl ?_
                  obtain ⟨y533, A533, hy533, ry533⟩ := xk_arr K.1 xD_94
                  refine xi_arraylength (pc' := 13) (n := 7) (v := 7) kc_90_12 rfl (xl_lenI (by decide) (by decide) A533 hy533) rfl ?_
                  refine xi_cmf (pc' := 16) kc_90_13 rfl rfl ?_
                  refine xi_aload_n (pc' := 17) (x := 0) kc_90_16 rfl rfl ?_
                  refine xi_getfield (pc' := 20) (v := .ref 94) kc_90_17 rfl rfl rfl A28 rfl ?_
                  refine xi_iload_n (pc' := 21) (x := 4) kc_90_20 rfl rfl ?_
                  refine xi_dup2 (pc' := 22) kc_90_21 rfl ⟨rfl, rfl⟩ ?_
                  obtain ⟨v534, ev534, bv534, dv534⟩ := xj_get hy533 ry533 (i := 4) (by decide) (by decide)
                  refine xi_iaload (pc' := 23) (v := v534) kc_90_22 rfl A533 (by decide) rfl (xi_in (by decide) (by rw [hy533]; decide)) ev534 ?_
                  refine xi_iconst (pc' := 24) (v := 1) kc_90_23 rfl rfl ?_
                  obtain ⟨v535, ev535⟩ : ∃ q : Int32, (v534 : Int32) + 1 = q := ⟨_, rfl⟩
                  have rv535 := xc_rng v535
                  refine xi_iadd (pc' := 25) (v := v535) kc_90_24 rfl ev535 ?_
                  obtain ⟨y536, s536, hy536, ry536⟩ := xj_set (v := v535) hy533 ry533 4 (by first | omega | decide) (by first | omega | decide)
                  refine xi_iastore (pc' := 26) (x' := y536) kc_90_25 rfl A533 rfl (xi_in (by decide) (by rw [hy533]; decide)) s536 (fun hh536 eh536 => ?_)
                  have K537 := xk_pa K (xk_wa rfl) xD_94 hy536 ry536 eh536
                  refine xi_iload_n (pc' := 27) (x := (-4)) kc_90_26 rfl rfl ?_
                  refine xi_ireturn kc_90_27 mr_90 rfl ?_
                  show xw J ov 99 116 (48, [(0, .ref 0), (1, .int a19), (2, .int a21), (3, .int a23), (4, .int a25)], [.int (-4)], hh536) _
                  refine xi_ireturn kc_116_48 mr_116 rfl ?_
                  show xw J ov 100 195 (679, [(4, .int x4), (3, .ref 167), (2, .ref 115), (1, .ref 0), (0, .ref 1000000)], [.int (-4)], hh536) _
                  refine xi_aload_n (pc' := 680) (x := 115) kc_195_679 rfl rfl ?_
                  refine xi_aload_n (pc' := 681) (x := 1000000) kc_195_680 rfl rfl ?_
                  refine xi_iload (pc' := 683) (x := x4) kc_195_681 rfl rfl ?_
                  refine xi_iconst (pc' := 684) (v := 1) kc_195_683 rfl rfl ?_
                  refine xi_iadd (pc' := 685) (v := v18) kc_195_684 rfl ev18 ?_
                  refine xi_ialoadO (pc' := 686) (v := a19) kc_195_685 rfl (by decide) hov0 (xi_in (by omega) (by omega)) ea19 ?_
                  refine xi_aload_n (pc' := 687) (x := 1000000) kc_195_686 rfl rfl ?_
                  refine xi_iload (pc' := 689) (x := x4) kc_195_687 rfl rfl ?_
                  refine xi_iconst (pc' := 690) (v := 2) kc_195_689 rfl rfl ?_
                  refine xi_iadd (pc' := 691) (v := v20) kc_195_690 rfl ev20 ?_
                  refine xi_ialoadO (pc' := 692) (v := a21) kc_195_691 rfl (by decide) hov0 (xi_in (by omega) (by omega)) ea21 ?_
                  refine xi_aload_n (pc' := 693) (x := 1000000) kc_195_692 rfl rfl ?_
                  refine xi_iload (pc' := 695) (x := x4) kc_195_693 rfl rfl ?_
                  refine xi_iconst (pc' := 696) (v := 3) kc_195_695 rfl rfl ?_
                  refine xi_iadd (pc' := 697) (v := v22) kc_195_696 rfl ev22 ?_
                  refine xi_ialoadO (pc' := 698) (v := a23) kc_195_697 rfl (by decide) hov0 (xi_in (by omega) (by omega)) ea23 ?_
                  refine xi_aload_n (pc' := 699) (x := 1000000) kc_195_698 rfl rfl ?_
                  refine xi_iload (pc' := 701) (x := x4) kc_195_699 rfl rfl ?_
                  refine xi_iconst (pc' := 702) (v := 4) kc_195_701 rfl rfl ?_
                  refine xi_iadd (pc' := 703) (v := v24) kc_195_702 rfl ev24 ?_
                  refine xi_ialoadO (pc' := 704) (v := a25) kc_195_703 rfl (by decide) hov0 (xi_in (by omega) (by omega)) ea25 ?_
                  have A538 := ((eh536.2.1 115 (by decide)).trans A17)
                  refine xi_virtual (mj := 32) (as := [.int a19, .int a21, .int a23, .int a25]) (st1 := [.int (-4)]) (lv0 := [(0, .ref 115), (1, .int a19), (2, .int a21), (3, .int a23), (4, .int a25)]) kc_195_704 rfl rfl rfl rfl rfl A538 (Nat.le_of_ble_eq_true rfl) (hJ _ _ _ _ (by decide)) (xm_le ml_32 rfl) rfl ?_
                  refine xi_aload_n (pc' := 1) (x := 115) kc_32_0 rfl rfl ?_
                  refine xi_iconst (pc' := 2) (v := 0) kc_32_1 rfl rfl ?_
                  refine xi_putfield (pc' := 5) (fs' := [.int 0, .int u5, .ref 116, .ref 117, .ref 118, .ref 119, .ref 120, .ref 121, .ref 122, .ref 123, .ref 124, .ref 125, .ref 126, .ref 127, .ref 128, .ref 129, .int u6, .ref 130, .int u7, .ref 131, .ref 132, .ref 133, .ref 134, .int u1, .ref 135, .ref 136, .ref 137, .ref 138, .ref 139, .ref 140, .ref 141, .ref 142, .int u9, .int u10, .int u11, .ref 143, .ref 144, .ref 145, .ref 146, .ref 147, .ref 148, .int u12, .ref 149, .ref 150, .ref 151, .int u13, .ref 152, .ref 153, .ref 154, .ref 155, .ref 156, .ref 157, .ref 158, .ref 159, .int u14, .ref 160, .int u15, .ref 161, .ref 162, .ref 163, .ref 164, .int u16, .ref 165, .ref 166]) kc_32_2 rfl rfl rfl A538 rfl rfl rfl (Nat.le_of_ble_eq_true rfl) rfl (fun hh540 eh539 => ?_)
                  have K541 := xk_pf (k := 0) (v := 0) K537 (xk_wf rfl) xD_115 A538 rfl (by first | omega | decide) (by first | omega | decide) eh539 rfl
                  refine xi_iload_n (pc' := 6) (x := a19) kc_32_5 rfl rfl ?_
                  refine xi_iconst (pc' := 7) (v := 0) kc_32_6 rfl rfl ?_
                  refine xi_iconst (pc' := 8) (v := 3) kc_32_7 rfl rfl ?_
                  refine xi_static (mj := 11) (as := [.int a19, .int 0, .int 3]) (st1 := []) (lv0 := [(0, .int a19), (1, .int 0), (2, .int 3)]) kc_32_8 rfl rfl (Nat.le_of_ble_eq_true rfl) rfl rfl (Nat.le_of_ble_eq_true rfl) (hJ _ _ _ _ (by decide)) (xm_le ml_11 rfl) rfl ?_
                  refine xi_iload_n (pc' := 1) (x := a19) kc_11_0 rfl rfl ?_
                  refine xi_iload_n (pc' := 2) (x := 0) kc_11_1 rfl rfl ?_
                  refine xi_cmf (pc' := 5) kc_11_2 rfl (xc_lt_f (X := a19.toInt) (Y := 0) rfl (by decide) (by omega)) ?_
                  refine xi_iload_n (pc' := 6) (x := a19) kc_11_5 rfl rfl ?_
                  refine xi_iload_n (pc' := 7) (x := 3) kc_11_6 rfl rfl ?_
                  refine xi_cmf (pc' := 10) kc_11_7 rfl (xc_gt_f (X := a19.toInt) (Y := 3) rfl (by decide) (by omega)) ?_
                  refine xi_iconst (pc' := 11) (v := 1) kc_11_10 rfl rfl ?_
                  refine xi_goto (pc' := 15) kc_11_11 rfl ?_
                  refine xi_ireturn kc_11_15 mr_11 rfl ?_
                  show xw J ov 99 32 (11, [(0, .ref 115), (1, .int a19), (2, .int a21), (3, .int a23), (4, .int a25)], [.int 1], hh540) _
                  refine xi_ift (pc' := 21) kc_32_11 rfl rfl ?_
                  refine xi_iload_n (pc' := 22) (x := a19) kc_32_21 rfl rfl ?_
                  refine xi_iconst (pc' := 23) (v := 3) kc_32_22 rfl rfl ?_
                  refine xi_cmt (pc' := 36) kc_32_23 rfl (xc_ne_t (X := a19.toInt) (Y := 3) rfl (by decide) (by omega)) ?_
                  refine xi_aload_n (pc' := 37) (x := 115) kc_32_36 rfl rfl ?_
                  refine xi_iload_n (pc' := 38) (x := a21) kc_32_37 rfl rfl ?_
                  refine xi_virtual (mj := 31) (as := [.int a21]) (st1 := []) (lv0 := [(0, .ref 115), (1, .int a21)]) kc_32_38 rfl rfl rfl rfl rfl eh539.1 (Nat.le_of_ble_eq_true rfl) (hJ _ _ _ _ (by decide)) (xm_le ml_31 rfl) rfl ?_
                  refine xi_iload_n (pc' := 1) (x := a21) kc_31_0 rfl rfl ?_
                  refine xi_static (mj := 24) (as := [.int a21]) (st1 := []) (lv0 := [(0, .int a21)]) kc_31_1 rfl rfl (Nat.le_of_ble_eq_true rfl) rfl rfl (Nat.le_of_ble_eq_true rfl) (hJ _ _ _ _ (by decide)) (xm_le ml_24 rfl) rfl ?_
                  refine xi_iload_n (pc' := 1) (x := a21) kc_24_0 rfl rfl ?_
                  refine xi_iconst (pc' := 2) (v := 0) kc_24_1 rfl rfl ?_
                  refine xi_bipush (pc' := 4) (v := 11) kc_24_2 rfl rfl ?_
                  refine xi_static (mj := 11) (as := [.int a21, .int 0, .int 11]) (st1 := []) (lv0 := [(0, .int a21), (1, .int 0), (2, .int 11)]) kc_24_4 rfl rfl (Nat.le_of_ble_eq_true rfl) rfl rfl (Nat.le_of_ble_eq_true rfl) (hJ _ _ _ _ (by decide)) (xm_le ml_11 rfl) rfl ?_
                  refine xi_iload_n (pc' := 1) (x := a21) kc_11_0 rfl rfl ?_
                  refine xi_iload_n (pc' := 2) (x := 0) kc_11_1 rfl rfl ?_
                  refine xi_cmf (pc' := 5) kc_11_2 rfl (xc_lt_f (X := a21.toInt) (Y := 0) rfl (by decide) (by omega)) ?_
                  refine xi_iload_n (pc' := 6) (x := a21) kc_11_5 rfl rfl ?_
                  refine xi_iload_n (pc' := 7) (x := 11) kc_11_6 rfl rfl ?_
                  refine xi_cmf (pc' := 10) kc_11_7 rfl (xc_gt_f (X := a21.toInt) (Y := 11) rfl (by decide) (by omega)) ?_
                  refine xi_iconst (pc' := 11) (v := 1) kc_11_10 rfl rfl ?_
                  refine xi_goto (pc' := 15) kc_11_11 rfl ?_
                  refine xi_ireturn kc_11_15 mr_11 rfl ?_
                  show xw J ov 97 24 (7, [(0, .int a21)], [.int 1], hh540) _
                  refine xi_ireturn kc_24_7 mr_24 rfl ?_
                  show xw J ov 98 31 (4, [(0, .ref 115), (1, .int a21)], [.int 1], hh540) _
                  refine xi_iff (pc' := 7) kc_31_4 rfl rfl ?_
                  refine xi_aload_n (pc' := 8) (x := 115) kc_31_7 rfl rfl ?_
                  refine xi_getfield (pc' := 11) (v := .ref 125) kc_31_8 rfl rfl rfl eh539.1 rfl ?_
                  refine xi_iload_n (pc' := 12) (x := a21) kc_31_11 rfl rfl ?_
                  have A542 := ((eh539.2.1 125 (by decide)).trans ((eh536.2.1 125 (by decide)).trans A313))
                  refine xi_iaload (pc' := 13) (v := u307) kc_31_12 rfl A542 (by decide) rfl (xi_in (by omega) (by rw [hy313]; omega)) HG314 ?_
                  refine xi_iff (pc' := 16) kc_31_13 rfl (xc_lt_f (X := u307.toInt) (Y := 0) rfl (by decide) (by omega)) ?_
                  refine xi_iconst (pc' := 17) (v := 1) kc_31_16 rfl rfl ?_
                  refine xi_goto (pc' := 21) kc_31_17 rfl ?_
                  refine xi_ireturn kc_31_21 mr_31 rfl ?_
                  show xw J ov 99 32 (41, [(0, .ref 115), (1, .int a19), (2, .int a21), (3, .int a23), (4, .int a25)], [.int 1], hh540) _
                  refine xi_iff (pc' := 44) kc_32_41 rfl rfl ?_
                  refine xi_iload_n (pc' := 45) (x := a19) kc_32_44 rfl rfl ?_
                  refine xi_ift (pc' := 63) kc_32_45 rfl (xc_ne_t (X := a19.toInt) (Y := 0) rfl (by decide) (by omega)) ?_
                  refine xi_iload_n (pc' := 64) (x := a23) kc_32_63 rfl rfl ?_
                  refine xi_iconst (pc' := 65) (v := 1) kc_32_64 rfl rfl ?_
                  refine xi_cmt (pc' := 73) kc_32_65 rfl (xc_lt_t (X := a23.toInt) (Y := 1) rfl (by decide) (by omega)) ?_
                  refine xi_aload_n (pc' := 74) (x := 115) kc_32_73 rfl rfl ?_
                  refine xi_bipush (pc' := 76) (v := (-4)) kc_32_74 rfl rfl ?_
                  refine xi_virtual (mj := 12) (as := [.int (-4)]) (st1 := []) (lv0 := [(0, .ref 115), (1, .int (-4))]) kc_32_76 rfl rfl rfl rfl rfl eh539.1 (Nat.le_of_ble_eq_true rfl) (hJ _ _ _ _ (by decide)) (xm_le ml_12 rfl) rfl ?_
                  refine xi_aload_n (pc' := 1) (x := 115) kc_12_0 rfl rfl ?_
                  refine xi_getfield (pc' := 4) (v := .ref 140) kc_12_1 rfl rfl rfl eh539.1 rfl ?_
                  refine xi_iload_n (pc' := 5) (x := (-4)) kc_12_4 rfl rfl ?_
                  refine xi_ineg (pc' := 6) (v := 4) kc_12_5 rfl rfl ?_
                  refine xi_dup2 (pc' := 7) kc_12_6 rfl ⟨rfl, rfl⟩ ?_
                  obtain ⟨y543, A543, hy543, ry543⟩ := xk_arr K.1 xD_140
                  obtain ⟨v544, ev544, bv544, dv544⟩ := xj_get hy543 ry543 (i := 4) (by decide) (by decide)
                  have A545 := ((eh539.2.1 140 (by decide)).trans ((eh536.2.1 140 (by decide)).trans A543))
                  refine xi_iaload (pc' := 8) (v := v544) kc_12_7 rfl A545 (by decide) rfl (xi_in (by decide) (by rw [hy543]; decide)) ev544 ?_
                  refine xi_iconst (pc' := 9) (v := 1) kc_12_8 rfl rfl ?_
                  obtain ⟨v546, ev546⟩ : ∃ q : Int32, (v544 : Int32) + 1 = q := ⟨_, rfl⟩
                  have rv546 := xc_rng v546
                  refine xi_iadd (pc' := 10) (v := v546) kc_12_9 rfl ev546 ?_
                  obtain ⟨y547, s547, hy547, ry547⟩ := xj_set (v := v546) hy543 ry543 4 (by first | omega | decide) (by first | omega | decide)
                  refine xi_iastore (pc' := 11) (x' := y547) kc_12_10 rfl A545 rfl (xi_in (by decide) (by rw [hy543]; decide)) s547 (fun hh547 eh547 => ?_)
                  have K548 := xk_pa K541 (xk_wa rfl) xD_140 hy547 ry547 eh547
                  refine xi_iload_n (pc' := 12) (x := (-4)) kc_12_11 rfl rfl ?_
                  refine xi_ireturn kc_12_12 mr_12 rfl ?_
                  show xw J ov 99 32 (79, [(0, .ref 115), (1, .int a19), (2, .int a21), (3, .int a23), (4, .int a25)], [.int (-4)], hh547) _
                  refine xi_ireturn kc_32_79 mr_32 rfl ?_
                  show xw J ov 100 195 (707, [(4, .int x4), (3, .ref 167), (2, .ref 115), (1, .ref 0), (0, .ref 1000000)], [.int (-4), .int (-4)], hh547) _
                  refine xi_cmt (pc' := 1501) kc_195_707 rfl rfl ?_
                  obtain ⟨v549, ev549⟩ : ∃ q : Int32, x4 + 6 = q := ⟨_, rfl⟩
                  have zv549 : v549.toInt = (x4.toInt + 6) := by rw [← ev549]; exact (xz_add (X := x4.toInt) (Y := 6) rfl (by decide) (by omega) (by omega)).trans (by omega)
                  refine xi_iinc (pc' := 1504) (x := x4) (v := v549) (lv' := [(4, .int v549), (3, .ref 167), (2, .ref 115), (1, .ref 0), (0, .ref 1000000)]) kc_195_1501 rfl rfl ev549 rfl (xm_lt ml_195 rfl) ?_
                  refine xi_goto (pc' := 23) kc_195_1504 rfl ?_
                  have A550 := ((eh547.2.1 1 (by decide)).trans ((eh539.2.1 1 (by decide)).trans ((eh536.2.1 1 (by decide)).trans A3)))
                  have A551 := ((eh547.2.1 115 (by decide)).trans eh539.1)
                  exact kk v549 hh547 (by omega) K548 ⟨(xGR_kept I.1 (fun c hc => ((eh547.2.1 c (Ne.symm (xk_nc hc rfl))).trans ((eh539.2.1 c (Ne.symm (xk_nc hc rfl))).trans (eh536.2.1 c (Ne.symm (xk_nc hc rfl)))))) ((eh547.2.1 125 (by decide)).trans ((eh539.2.1 125 (by decide)).trans (eh536.2.1 125 (by decide))))), (xGR_kept I.2.1 (fun c hc => ((eh547.2.1 c (Ne.symm (xk_nc hc rfl))).trans ((eh539.2.1 c (Ne.symm (xk_nc hc rfl))).trans (eh536.2.1 c (Ne.symm (xk_nc hc rfl)))))) ((eh547.2.1 127 (by decide)).trans ((eh539.2.1 127 (by decide)).trans (eh536.2.1 127 (by decide))))), ((xl_of A550 rfl).trans (xl_of A551 rfl).symm)⟩
                · refine xi_cmf (pc' := 37) kc_116_34 rfl (xc_lt_f (X := a23.toInt) (Y := 1) rfl (by decide) (by omega)) ?_
                  refine xi_iload (pc' := 39) (x := a25) kc_116_37 rfl rfl ?_
                  by_cases c552 : 0 ≤ a25.toInt
                  · refine xi_ift (pc' := 49) kc_116_39 rfl (xc_ge_t (X := a25.toInt) (Y := 0) rfl (by decide) (by omega)) ?_
                    refine xi_iload_n (pc' := 50) (x := a23) kc_116_49 rfl rfl ?_
                    refine xi_bipush (pc' := 52) (v := 99) kc_116_50 rfl rfl ?_
                    by_cases c553 : 99 < a23.toInt
                    · refine xi_cmt (pc' := 75) kc_116_52 rfl (xc_gt_t (X := a23.toInt) (Y := 99) rfl (by decide) (by omega)) ?_
                      refine xi_aload_n (pc' := 76) (x := 0) kc_116_75 rfl rfl ?_
                      refine xi_bipush (pc' := 78) (v := (-6)) kc_116_76 rfl rfl ?_
                      refine xi_virtual (mj := 90) (as := [.int (-6)]) (st1 := []) (lv0 := [(0, .ref 0), (1, .int (-6))]) kc_116_78 rfl rfl rfl rfl rfl A28 (Nat.le_of_ble_eq_true rfl) (hJ _ _ _ _ (by decide)) (xm_le ml_90 rfl) rfl ?_
                      refine xi_iload_n (pc' := 1) (x := (-6)) kc_90_0 rfl rfl ?_
                      refine xi_ineg (pc' := 2) (v := 6) kc_90_1 rfl rfl ?_
                      refine xi_istore_n (pc' := 3) (lv' := [(2, .int 6), (0, .ref 0), (1, .int (-6))]) kc_90_2 rfl rfl (xm_lt ml_90 rfl) ?_
                      refine xi_iload_n (pc' := 4) (x := 6) kc_90_3 rfl rfl ?_
                      refine xi_iff (pc' := 7) kc_90_4 rfl rfl ?_
                      refine xi_iload_n (pc' := 8) (x := 6) kc_90_7 rfl rfl ?_
                      refine xi_aload_n (pc' := 9) (x := 0) kc_90_8 rfl rfl ?_
                      refine xi_getfield (pc' := 12) (v := .ref 94) kc_90_9 rfl rfl rfl A28 rfl ?_
                      obtain ⟨y554, A554, hy554, ry554⟩ := xk_arr K.1 xD_94
                      refine xi_arraylength (pc' := 13) (n := 7) (v := 7) kc_90_12 rfl (xl_lenI (by decide) (by decide) A554 hy554) rfl ?_
                      refine xi_cmf (pc' := 16) kc_90_13 rfl rfl ?_
                      refine xi_aload_n (pc' := 17) (x := 0) kc_90_16 rfl rfl ?_
                      refine xi_getfield (pc' := 20) (v := .ref 94) kc_90_17 rfl rfl rfl A28 rfl ?_
                      refine xi_iload_n (pc' := 21) (x := 6) kc_90_20 rfl rfl ?_
                      refine xi_dup2 (pc' := 22) kc_90_21 rfl ⟨rfl, rfl⟩ ?_
                      obtain ⟨v555, ev555, bv555, dv555⟩ := xj_get hy554 ry554 (i := 6) (by decide) (by decide)
                      refine xi_iaload (pc' := 23) (v := v555) kc_90_22 rfl A554 (by decide) rfl (xi_in (by decide) (by rw [hy554]; decide)) ev555 ?_
                      refine xi_iconst (pc' := 24) (v := 1) kc_90_23 rfl rfl ?_
                      obtain ⟨v556, ev556⟩ : ∃ q : Int32, (v555 : Int32) + 1 = q := ⟨_, rfl⟩
                      have rv556 := xc_rng v556
                      refine xi_iadd (pc' := 25) (v := v556) kc_90_24 rfl ev556 ?_
                      obtain ⟨y557, s557, hy557, ry557⟩ := xj_set (v := v556) hy554 ry554 6 (by first | omega | decide) (by first | omega | decide)
                      refine xi_iastore (pc' := 26) (x' := y557) kc_90_25 rfl A554 rfl (xi_in (by decide) (by rw [hy554]; decide)) s557 (fun hh557 eh557 => ?_)
                      have K558 := xk_pa K (xk_wa rfl) xD_94 hy557 ry557 eh557
                      refine xi_iload_n (pc' := 27) (x := (-6)) kc_90_26 rfl rfl ?_
                      refine xi_ireturn kc_90_27 mr_90 rfl ?_
                      show xw J ov 99 116 (81, [(0, .ref 0), (1, .int a19), (2, .int a21), (3, .int a23), (4, .int a25)], [.int (-6)], hh557) _
                      refine xi_ireturn kc_116_81 mr_116 rfl ?_
                      show xw J ov 100 195 (679, [(4, .int x4), (3, .ref 167), (2, .ref 115), (1, .ref 0), (0, .ref 1000000)], [.int (-6)], hh557) _
                      refine xi_aload_n (pc' := 680) (x := 115) kc_195_679 rfl rfl ?_
                      refine xi_aload_n (pc' := 681) (x := 1000000) kc_195_680 rfl rfl ?_
                      refine xi_iload (pc' := 683) (x := x4) kc_195_681 rfl rfl ?_
                      refine xi_iconst (pc' := 684) (v := 1) kc_195_683 rfl rfl ?_
                      refine xi_iadd (pc' := 685) (v := v18) kc_195_684 rfl ev18 ?_
                      refine xi_ialoadO (pc' := 686) (v := a19) kc_195_685 rfl (by decide) hov0 (xi_in (by omega) (by omega)) ea19 ?_
                      refine xi_aload_n (pc' := 687) (x := 1000000) kc_195_686 rfl rfl ?_
                      refine xi_iload (pc' := 689) (x := x4) kc_195_687 rfl rfl ?_
                      refine xi_iconst (pc' := 690) (v := 2) kc_195_689 rfl rfl ?_
                      refine xi_iadd (pc' := 691) (v := v20) kc_195_690 rfl ev20 ?_
                      refine xi_ialoadO (pc' := 692) (v := a21) kc_195_691 rfl (by decide) hov0 (xi_in (by omega) (by omega)) ea21 ?_
                      refine xi_aload_n (pc' := 693) (x := 1000000) kc_195_692 rfl rfl ?_
                      refine xi_iload (pc' := 695) (x := x4) kc_195_693 rfl rfl ?_
                      refine xi_iconst (pc' := 696) (v := 3) kc_195_695 rfl rfl ?_
                      refine xi_iadd (pc' := 697) (v := v22) kc_195_696 rfl ev22 ?_
                      refine xi_ialoadO (pc' := 698) (v := a23) kc_195_697 rfl (by decide) hov0 (xi_in (by omega) (by omega)) ea23 ?_
                      refine xi_aload_n (pc' := 699) (x := 1000000) kc_195_698 rfl rfl ?_
                      refine xi_iload (pc' := 701) (x := x4) kc_195_699 rfl rfl ?_
                      refine xi_iconst (pc' := 702) (v := 4) kc_195_701 rfl rfl ?_
                      refine xi_iadd (pc' := 703) (v := v24) kc_195_702 rfl ev24 ?_
                      refine xi_ialoadO (pc' := 704) (v := a25) kc_195_703 rfl (by decide) hov0 (xi_in (by omega) (by omega)) ea25 ?_
                      have A559 := ((eh557.2.1 115 (by decide)).trans A17)
                      refine xi_virtual (mj := 32) (as := [.int a19, .int a21, .int a23, .int a25]) (st1 := [.int (-6)]) (lv0 := [(0, .ref 115), (1, .int a19), (2, .int a21), (3, .int a23), (4, .int a25)]) kc_195_704 rfl rfl rfl rfl rfl A559 (Nat.le_of_ble_eq_true rfl) (hJ _ _ _ _ (by decide)) (xm_le ml_32 rfl) rfl ?_
                      refine xi_aload_n (pc' := 1) (x := 115) kc_32_0 rfl rfl ?_
                      refine xi_iconst (pc' := 2) (v := 0) kc_32_1 rfl rfl ?_
                      refine xi_putfield (pc' := 5) (fs' := [.int 0, .int u5, .ref 116, .ref 117, .ref 118, .ref 119, .ref 120, .ref 121, .ref 122, .ref 123, .ref 124, .ref 125, .ref 126, .ref 127, .ref 128, .ref 129, .int u6, .ref 130, .int u7, .ref 131, .ref 132, .ref 133, .ref 134, .int u1, .ref 135, .ref 136, .ref 137, .ref 138, .ref 139, .ref 140, .ref 141, .ref 142, .int u9, .int u10, .int u11, .ref 143, .ref 144, .ref 145, .ref 146, .ref 147, .ref 148, .int u12, .ref 149, .ref 150, .ref 151, .int u13, .ref 152, .ref 153, .ref 154, .ref 155, .ref 156, .ref 157, .ref 158, .ref 159, .int u14, .ref 160, .int u15, .ref 161, .ref 162, .ref 163, .ref 164, .int u16, .ref 165, .ref 166]) kc_32_2 rfl rfl rfl A559 rfl rfl rfl (Nat.le_of_ble_eq_true rfl) rfl (fun hh561 eh560 => ?_)
                      have K562 := xk_pf (k := 0) (v := 0) K558 (xk_wf rfl) xD_115 A559 rfl (by first | omega | decide) (by first | omega | decide) eh560 rfl
                      refine xi_iload_n (pc' := 6) (x := a19) kc_32_5 rfl rfl ?_
                      refine xi_iconst (pc' := 7) (v := 0) kc_32_6 rfl rfl ?_
                      refine xi_iconst (pc' := 8) (v := 3) kc_32_7 rfl rfl ?_
                      refine xi_static (mj := 11) (as := [.int a19, .int 0, .int 3]) (st1 := []) (lv0 := [(0, .int a19), (1, .int 0), (2, .int 3)]) kc_32_8 rfl rfl (Nat.le_of_ble_eq_true rfl) rfl rfl (Nat.le_of_ble_eq_true rfl) (hJ _ _ _ _ (by decide)) (xm_le ml_11 rfl) rfl ?_
                      refine xi_iload_n (pc' := 1) (x := a19) kc_11_0 rfl rfl ?_
                      refine xi_iload_n (pc' := 2) (x := 0) kc_11_1 rfl rfl ?_
                      refine xi_cmf (pc' := 5) kc_11_2 rfl (xc_lt_f (X := a19.toInt) (Y := 0) rfl (by decide) (by omega)) ?_
                      refine xi_iload_n (pc' := 6) (x := a19) kc_11_5 rfl rfl ?_
                      refine xi_iload_n (pc' := 7) (x := 3) kc_11_6 rfl rfl ?_
                      refine xi_cmf (pc' := 10) kc_11_7 rfl (xc_gt_f (X := a19.toInt) (Y := 3) rfl (by decide) (by omega)) ?_
                      refine xi_iconst (pc' := 11) (v := 1) kc_11_10 rfl rfl ?_
                      refine xi_goto (pc' := 15) kc_11_11 rfl ?_
                      refine xi_ireturn kc_11_15 mr_11 rfl ?_
                      show xw J ov 99 32 (11, [(0, .ref 115), (1, .int a19), (2, .int a21), (3, .int a23), (4, .int a25)], [.int 1], hh561) _
                      refine xi_ift (pc' := 21) kc_32_11 rfl rfl ?_
                      refine xi_iload_n (pc' := 22) (x := a19) kc_32_21 rfl rfl ?_
                      refine xi_iconst (pc' := 23) (v := 3) kc_32_22 rfl rfl ?_
                      refine xi_cmt (pc' := 36) kc_32_23 rfl (xc_ne_t (X := a19.toInt) (Y := 3) rfl (by decide) (by omega)) ?_
                      refine xi_aload_n (pc' := 37) (x := 115) kc_32_36 rfl rfl ?_
                      refine xi_iload_n (pc' := 38) (x := a21) kc_32_37 rfl rfl ?_
                      refine xi_virtual (mj := 31) (as := [.int a21]) (st1 := []) (lv0 := [(0, .ref 115), (1, .int a21)]) kc_32_38 rfl rfl rfl rfl rfl eh560.1 (Nat.le_of_ble_eq_true rfl) (hJ _ _ _ _ (by decide)) (xm_le ml_31 rfl) rfl ?_
                      refine xi_iload_n (pc' := 1) (x := a21) kc_31_0 rfl rfl ?_
                      refine xi_static (mj := 24) (as := [.int a21]) (st1 := []) (lv0 := [(0, .int a21)]) kc_31_1 rfl rfl (Nat.le_of_ble_eq_true rfl) rfl rfl (Nat.le_of_ble_eq_true rfl) (hJ _ _ _ _ (by decide)) (xm_le ml_24 rfl) rfl ?_
                      refine xi_iload_n (pc' := 1) (x := a21) kc_24_0 rfl rfl ?_
                      refine xi_iconst (pc' := 2) (v := 0) kc_24_1 rfl rfl ?_
                      refine xi_bipush (pc' := 4) (v := 11) kc_24_2 rfl rfl ?_
                      refine xi_static (mj := 11) (as := [.int a21, .int 0, .int 11]) (st1 := []) (lv0 := [(0, .int a21), (1, .int 0), (2, .int 11)]) kc_24_4 rfl rfl (Nat.le_of_ble_eq_true rfl) rfl rfl (Nat.le_of_ble_eq_true rfl) (hJ _ _ _ _ (by decide)) (xm_le ml_11 rfl) rfl ?_
                      refine xi_iload_n (pc' := 1) (x := a21) kc_11_0 rfl rfl ?_
                      refine xi_iload_n (pc' := 2) (x := 0) kc_11_1 rfl rfl ?_
                      refine xi_cmf (pc' := 5) kc_11_2 rfl (xc_lt_f (X := a21.toInt) (Y := 0) rfl (by decide) (by omega)) ?_
                      refine xi_iload_n (pc' := 6) (x := a21) kc_11_5 rfl rfl ?_
                      refine xi_iload_n (pc' := 7) (x := 11) kc_11_6 rfl rfl ?_
                      refine xi_cmf (pc' := 10) kc_11_7 rfl (xc_gt_f (X := a21.toInt) (Y := 11) rfl (by decide) (by omega)) ?_
                      refine xi_iconst (pc' := 11) (v := 1) kc_11_10 rfl rfl ?_
                      refine xi_goto (pc' := 15) kc_11_11 rfl ?_
                      refine xi_ireturn kc_11_15 mr_11 rfl ?_
                      show xw J ov 97 24 (7, [(0, .int a21)], [.int 1], hh561) _
                      refine xi_ireturn kc_24_7 mr_24 rfl ?_
                      show xw J ov 98 31 (4, [(0, .ref 115), (1, .int a21)], [.int 1], hh561) _
                      refine xi_iff (pc' := 7) kc_31_4 rfl rfl ?_
                      refine xi_aload_n (pc' := 8) (x := 115) kc_31_7 rfl rfl ?_
                      refine xi_getfield (pc' := 11) (v := .ref 125) kc_31_8 rfl rfl rfl eh560.1 rfl ?_
                      refine xi_iload_n (pc' := 12) (x := a21) kc_31_11 rfl rfl ?_
                      have A563 := ((eh560.2.1 125 (by decide)).trans ((eh557.2.1 125 (by decide)).trans A313))
                      refine xi_iaload (pc' := 13) (v := u307) kc_31_12 rfl A563 (by decide) rfl (xi_in (by omega) (by rw [hy313]; omega)) HG314 ?_
                      refine xi_iff (pc' := 16) kc_31_13 rfl (xc_lt_f (X := u307.toInt) (Y := 0) rfl (by decide) (by omega)) ?_
                      refine xi_iconst (pc' := 17) (v := 1) kc_31_16 rfl rfl ?_
                      refine xi_goto (pc' := 21) kc_31_17 rfl ?_
                      refine xi_ireturn kc_31_21 mr_31 rfl ?_
                      show xw J ov 99 32 (41, [(0, .ref 115), (1, .int a19), (2, .int a21), (3, .int a23), (4, .int a25)], [.int 1], hh561) _
                      refine xi_iff (pc' := 44) kc_32_41 rfl rfl ?_
                      refine xi_iload_n (pc' := 45) (x := a19) kc_32_44 rfl rfl ?_
                      refine xi_ift (pc' := 63) kc_32_45 rfl (xc_ne_t (X := a19.toInt) (Y := 0) rfl (by decide) (by omega)) ?_
                      refine xi_iload_n (pc' := 64) (x := a23) kc_32_63 rfl rfl ?_
                      refine xi_iconst (pc' := 65) (v := 1) kc_32_64 rfl rfl ?_
                      refine xi_cmf (pc' := 68) kc_32_65 rfl (xc_lt_f (X := a23.toInt) (Y := 1) rfl (by decide) (by omega)) ?_
                      refine xi_iload (pc' := 70) (x := a25) kc_32_68 rfl rfl ?_
                      refine xi_ift (pc' := 80) kc_32_70 rfl (xc_ge_t (X := a25.toInt) (Y := 0) rfl (by decide) (by omega)) ?_
                      refine xi_iload_n (pc' := 81) (x := a23) kc_32_80 rfl rfl ?_
                      refine xi_bipush (pc' := 83) (v := 99) kc_32_81 rfl rfl ?_
                      refine xi_cmt (pc' := 103) kc_32_83 rfl (xc_gt_t (X := a23.toInt) (Y := 99) rfl (by decide) (by omega)) ?_
                      refine xi_aload_n (pc' := 104) (x := 115) kc_32_103 rfl rfl ?_
                      refine xi_bipush (pc' := 106) (v := (-6)) kc_32_104 rfl rfl ?_
                      refine xi_virtual (mj := 12) (as := [.int (-6)]) (st1 := []) (lv0 := [(0, .ref 115), (1, .int (-6))]) kc_32_106 rfl rfl rfl rfl rfl eh560.1 (Nat.le_of_ble_eq_true rfl) (hJ _ _ _ _ (by decide)) (xm_le ml_12 rfl) rfl ?_
                      refine xi_aload_n (pc' := 1) (x := 115) kc_12_0 rfl rfl ?_
                      refine xi_getfield (pc' := 4) (v := .ref 140) kc_12_1 rfl rfl rfl eh560.1 rfl ?_
                      refine xi_iload_n (pc' := 5) (x := (-6)) kc_12_4 rfl rfl ?_
                      refine xi_ineg (pc' := 6) (v := 6) kc_12_5 rfl rfl ?_
                      refine xi_dup2 (pc' := 7) kc_12_6 rfl ⟨rfl, rfl⟩ ?_
                      obtain ⟨y564, A564, hy564, ry564⟩ := xk_arr K.1 xD_140
                      obtain ⟨v565, ev565, bv565, dv565⟩ := xj_get hy564 ry564 (i := 6) (by decide) (by decide)
                      have A566 := ((eh560.2.1 140 (by decide)).trans ((eh557.2.1 140 (by decide)).trans A564))
                      refine xi_iaload (pc' := 8) (v := v565) kc_12_7 rfl A566 (by decide) rfl (xi_in (by decide) (by rw [hy564]; decide)) ev565 ?_
                      refine xi_iconst (pc' := 9) (v := 1) kc_12_8 rfl rfl ?_
                      obtain ⟨v567, ev567⟩ : ∃ q : Int32, (v565 : Int32) + 1 = q := ⟨_, rfl⟩
                      have rv567 := xc_rng v567
                      refine xi_iadd (pc' := 10) (v := v567) kc_12_9 rfl ev567 ?_
                      obtain ⟨y568, s568, hy568, ry568⟩ := xj_set (v := v567) hy564 ry564 6 (by first | omega | decide) (by first | omega | decide)
                      refine xi_iastore (pc' := 11) (x' := y568) kc_12_10 rfl A566 rfl (xi_in (by decide) (by rw [hy564]; decide)) s568 (fun hh568 eh568 => ?_)
                      have K569 := xk_pa K562 (xk_wa rfl) xD_140 hy568 ry568 eh568
                      refine xi_iload_n (pc' := 12) (x := (-6)) kc_12_11 rfl rfl ?_
                      refine xi_ireturn kc_12_12 mr_12 rfl ?_
                      show xw J ov 99 32 (109, [(0, .ref 115), (1, .int a19), (2, .int a21), (3, .int a23), (4, .int a25)], [.int (-6)], hh568) _
                      refine xi_ireturn kc_32_109 mr_32 rfl ?_
                      show xw J ov 100 195 (707, [(4, .int x4), (3, .ref 167), (2, .ref 115), (1, .ref 0), (0, .ref 1000000)], [.int (-6), .int (-6)], hh568) _
                      refine xi_cmt (pc' := 1501) kc_195_707 rfl rfl ?_
                      obtain ⟨v570, ev570⟩ : ∃ q : Int32, x4 + 6 = q := ⟨_, rfl⟩
                      have zv570 : v570.toInt = (x4.toInt + 6) := by rw [← ev570]; exact (xz_add (X := x4.toInt) (Y := 6) rfl (by decide) (by omega) (by omega)).trans (by omega)
                      refine xi_iinc (pc' := 1504) (x := x4) (v := v570) (lv' := [(4, .int v570), (3, .ref 167), (2, .ref 115), (1, .ref 0), (0, .ref 1000000)]) kc_195_1501 rfl rfl ev570 rfl (xm_lt ml_195 rfl) ?_
                      refine xi_goto (pc' := 23) kc_195_1504 rfl ?_
                      have A571 := ((eh568.2.1 1 (by decide)).trans ((eh560.2.1 1 (by decide)).trans ((eh557.2.1 1 (by decide)).trans A3)))
                      have A572 := ((eh568.2.1 115 (by decide)).trans eh560.1)
                      exact kk v570 hh568 (by omega) K569 ⟨(xGR_kept I.1 (fun c hc => ((eh568.2.1 c (Ne.symm (xk_nc hc rfl))).trans ((eh560.2.1 c (Ne.symm (xk_nc hc rfl))).trans (eh557.2.1 c (Ne.symm (xk_nc hc rfl)))))) ((eh568.2.1 125 (by decide)).trans ((eh560.2.1 125 (by decide)).trans (eh557.2.1 125 (by decide))))), (xGR_kept I.2.1 (fun c hc => ((eh568.2.1 c (Ne.symm (xk_nc hc rfl))).trans ((eh560.2.1 c (Ne.symm (xk_nc hc rfl))).trans (eh557.2.1 c (Ne.symm (xk_nc hc rfl)))))) ((eh568.2.1 127 (by decide)).trans ((eh560.2.1 127 (by decide)).trans (eh557.2.1 127 (by decide))))), ((xl_of A571 rfl).trans (xl_of A572 rfl).symm)⟩
                    · refine xi_cmf (pc' := 55) kc_116_52 rfl (xc_gt_f (X := a23.toInt) (Y := 99) rfl (by decide) (by omega)) ?_
                      refine xi_iload (pc' := 57) (x := a25) kc_116_55 rfl rfl ?_
                      refine xi_sipush (pc' := 60) (v := 600) kc_116_57 rfl rfl ?_
                      by_cases c573 : 600 < a25.toInt
                      · refine xi_cmt (pc' := 75) kc_116_60 rfl (xc_gt_t (X := a25.toInt) (Y := 600) rfl (by decide) (by omega)) ?_
                        refine xi_aload_n (pc' := 76) (x := 0) kc_116_75 rfl rfl ?_
                        refine xi_bipush (pc' := 78) (v := (-6)) kc_116_76 rfl rfl ?_
                        refine xi_virtual (mj := 90) (as := [.int (-6)]) (st1 := []) (lv0 := [(0, .ref 0), (1, .int (-6))]) kc_116_78 rfl rfl rfl rfl rfl A28 (Nat.le_of_ble_eq_true rfl) (hJ _ _ _ _ (by decide)) (xm_le ml_90 rfl) rfl ?_
                        refine xi_iload_n (pc' := 1) (x := (-6)) kc_90_0 rfl rfl ?_
                        refine xi_ineg (pc' := 2) (v := 6) kc_90_1 rfl rfl ?_
                        refine xi_istore_n (pc' := 3) (lv' := [(2, .int 6), (0, .ref 0), (1, .int (-6))]) kc_90_2 rfl rfl (xm_lt ml_90 rfl) ?_
                        refine xi_iload_n (pc' := 4) (x := 6) kc_90_3 rfl rfl ?_
                        refine xi_iff (pc' := 7) kc_90_4 rfl rfl ?_
                        refine xi_iload_n (pc' := 8) (x := 6) kc_90_7 rfl rfl ?_
                        refine xi_aload_n (pc' := 9) (x := 0) kc_90_8 rfl rfl ?_
                        refine xi_getfield (pc' := 12) (v := .ref 94) kc_90_9 rfl rfl rfl A28 rfl ?_
                        obtain ⟨y574, A574, hy574, ry574⟩ := xk_arr K.1 xD_94
                        refine xi_arraylength (pc' := 13) (n := 7) (v := 7) kc_90_12 rfl (xl_lenI (by decide) (by decide) A574 hy574) rfl ?_
                        refine xi_cmf (pc' := 16) kc_90_13 rfl rfl ?_
                        refine xi_aload_n (pc' := 17) (x := 0) kc_90_16 rfl rfl ?_
                        refine xi_getfield (pc' := 20) (v := .ref 94) kc_90_17 rfl rfl rfl A28 rfl ?_
                        refine xi_iload_n (pc' := 21) (x := 6) kc_90_20 rfl rfl ?_
                        refine xi_dup2 (pc' := 22) kc_90_21 rfl ⟨rfl, rfl⟩ ?_
                        obtain ⟨v575, ev575, bv575, dv575⟩ := xj_get hy574 ry574 (i := 6) (by decide) (by decide)
                        refine xi_iaload (pc' := 23) (v := v575) kc_90_22 rfl A574 (by decide) rfl (xi_in (by decide) (by rw [hy574]; decide)) ev575 ?_
                        refine xi_iconst (pc' := 24) (v := 1) kc_90_23 rfl rfl ?_
                        obtain ⟨v576, ev576⟩ : ∃ q : Int32, (v575 : Int32) + 1 = q := ⟨_, rfl⟩
                        have rv576 := xc_rng v576
                        refine xi_iadd (pc' := 25) (v := v576) kc_90_24 rfl ev576 ?_
                        obtain ⟨y577, s577, hy577, ry577⟩ := xj_set (v := v576) hy574 ry574 6 (by first | omega | decide) (by first | omega | decide)
                        refine xi_iastore (pc' := 26) (x' := y577) kc_90_25 rfl A574 rfl (xi_in (by decide) (by rw [hy574]; decide)) s577 (fun hh577 eh577 => ?_)
                        have K578 := xk_pa K (xk_wa rfl) xD_94 hy577 ry577 eh577
                        refine xi_iload_n (pc' := 27) (x := (-6)) kc_90_26 rfl rfl ?_
                        refine xi_ireturn kc_90_27 mr_90 rfl ?_
                        show xw J ov 99 116 (81, [(0, .ref 0), (1, .int a19), (2, .int a21), (3, .int a23), (4, .int a25)], [.int (-6)], hh577) _
                        refine xi_ireturn kc_116_81 mr_116 rfl ?_
                        show xw J ov 100 195 (679, [(4, .int x4), (3, .ref 167), (2, .ref 115), (1, .ref 0), (0, .ref 1000000)], [.int (-6)], hh577) _
                        refine xi_aload_n (pc' := 680) (x := 115) kc_195_679 rfl rfl ?_
                        refine xi_aload_n (pc' := 681) (x := 1000000) kc_195_680 rfl rfl ?_
                        refine xi_iload (pc' := 683) (x := x4) kc_195_681 rfl rfl ?_
                        refine xi_iconst (pc' := 684) (v := 1) kc_195_683 rfl rfl ?_
                        refine xi_iadd (pc' := 685) (v := v18) kc_195_684 rfl ev18 ?_
                        refine xi_ialoadO (pc' := 686) (v := a19) kc_195_685 rfl (by decide) hov0 (xi_in (by omega) (by omega)) ea19 ?_
                        refine xi_aload_n (pc' := 687) (x := 1000000) kc_195_686 rfl rfl ?_
                        refine xi_iload (pc' := 689) (x := x4) kc_195_687 rfl rfl ?_
                        refine xi_iconst (pc' := 690) (v := 2) kc_195_689 rfl rfl ?_
                        refine xi_iadd (pc' := 691) (v := v20) kc_195_690 rfl ev20 ?_
                        refine xi_ialoadO (pc' := 692) (v := a21) kc_195_691 rfl (by decide) hov0 (xi_in (by omega) (by omega)) ea21 ?_
                        refine xi_aload_n (pc' := 693) (x := 1000000) kc_195_692 rfl rfl ?_
                        refine xi_iload (pc' := 695) (x := x4) kc_195_693 rfl rfl ?_
                        refine xi_iconst (pc' := 696) (v := 3) kc_195_695 rfl rfl ?_
                        refine xi_iadd (pc' := 697) (v := v22) kc_195_696 rfl ev22 ?_
                        refine xi_ialoadO (pc' := 698) (v := a23) kc_195_697 rfl (by decide) hov0 (xi_in (by omega) (by omega)) ea23 ?_
                        refine xi_aload_n (pc' := 699) (x := 1000000) kc_195_698 rfl rfl ?_
                        refine xi_iload (pc' := 701) (x := x4) kc_195_699 rfl rfl ?_
                        refine xi_iconst (pc' := 702) (v := 4) kc_195_701 rfl rfl ?_
                        refine xi_iadd (pc' := 703) (v := v24) kc_195_702 rfl ev24 ?_
                        refine xi_ialoadO (pc' := 704) (v := a25) kc_195_703 rfl (by decide) hov0 (xi_in (by omega) (by omega)) ea25 ?_
                        have A579 := ((eh577.2.1 115 (by decide)).trans A17)
                        refine xi_virtual (mj := 32) (as := [.int a19, .int a21, .int a23, .int a25]) (st1 := [.int (-6)]) (lv0 := [(0, .ref 115), (1, .int a19), (2, .int a21), (3, .int a23), (4, .int a25)]) kc_195_704 rfl rfl rfl rfl rfl A579 (Nat.le_of_ble_eq_true rfl) (hJ _ _ _ _ (by decide)) (xm_le ml_32 rfl) rfl ?_
                        refine xi_aload_n (pc' := 1) (x := 115) kc_32_0 rfl rfl ?_
                        refine xi_iconst (pc' := 2) (v := 0) kc_32_1 rfl rfl ?_
                        refine xi_putfield (pc' := 5) (fs' := [.int 0, .int u5, .ref 116, .ref 117, .ref 118, .ref 119, .ref 120, .ref 121, .ref 122, .ref 123, .ref 124, .ref 125, .ref 126, .ref 127, .ref 128, .ref 129, .int u6, .ref 130, .int u7, .ref 131, .ref 132, .ref 133, .ref 134, .int u1, .ref 135, .ref 136, .ref 137, .ref 138, .ref 139, .ref 140, .ref 141, .ref 142, .int u9, .int u10, .int u11, .ref 143, .ref 144, .ref 145, .ref 146, .ref 147, .ref 148, .int u12, .ref 149, .ref 150, .ref 151, .int u13, .ref 152, .ref 153, .ref 154, .ref 155, .ref 156, .ref 157, .ref 158, .ref 159, .int u14, .ref 160, .int u15, .ref 161, .ref 162, .ref 163, .ref 164, .int u16, .ref 165, .ref 166]) kc_32_2 rfl rfl rfl A579 rfl rfl rfl (Nat.le_of_ble_eq_true rfl) rfl (fun hh581 eh580 => ?_)
                        have K582 := xk_pf (k := 0) (v := 0) K578 (xk_wf rfl) xD_115 A579 rfl (by first | omega | decide) (by first | omega | decide) eh580 rfl
                        refine xi_iload_n (pc' := 6) (x := a19) kc_32_5 rfl rfl ?_
                        refine xi_iconst (pc' := 7) (v := 0) kc_32_6 rfl rfl ?_
                        refine xi_iconst (pc' := 8) (v := 3) kc_32_7 rfl rfl ?_
                        refine xi_static (mj := 11) (as := [.int a19, .int 0, .int 3]) (st1 := []) (lv0 := [(0, .int a19), (1, .int 0), (2, .int 3)]) kc_32_8 rfl rfl (Nat.le_of_ble_eq_true rfl) rfl rfl (Nat.le_of_ble_eq_true rfl) (hJ _ _ _ _ (by decide)) (xm_le ml_11 rfl) rfl ?_
                        refine xi_iload_n (pc' := 1) (x := a19) kc_11_0 rfl rfl ?_
                        refine xi_iload_n (pc' := 2) (x := 0) kc_11_1 rfl rfl ?_
                        refine xi_cmf (pc' := 5) kc_11_2 rfl (xc_lt_f (X := a19.toInt) (Y := 0) rfl (by decide) (by omega)) ?_
                        refine xi_iload_n (pc' := 6) (x := a19) kc_11_5 rfl rfl ?_
                        refine xi_iload_n (pc' := 7) (x := 3) kc_11_6 rfl rfl ?_
                        refine xi_cmf (pc' := 10) kc_11_7 rfl (xc_gt_f (X := a19.toInt) (Y := 3) rfl (by decide) (by omega)) ?_
                        refine xi_iconst (pc' := 11) (v := 1) kc_11_10 rfl rfl ?_
                        refine xi_goto (pc' := 15) kc_11_11 rfl ?_
                        refine xi_ireturn kc_11_15 mr_11 rfl ?_
                        show xw J ov 99 32 (11, [(0, .ref 115), (1, .int a19), (2, .int a21), (3, .int a23), (4, .int a25)], [.int 1], hh581) _
                        refine xi_ift (pc' := 21) kc_32_11 rfl rfl ?_
                        refine xi_iload_n (pc' := 22) (x := a19) kc_32_21 rfl rfl ?_
                        refine xi_iconst (pc' := 23) (v := 3) kc_32_22 rfl rfl ?_
                        refine xi_cmt (pc' := 36) kc_32_23 rfl (xc_ne_t (X := a19.toInt) (Y := 3) rfl (by decide) (by omega)) ?_
                        refine xi_aload_n (pc' := 37) (x := 115) kc_32_36 rfl rfl ?_
                        refine xi_iload_n (pc' := 38) (x := a21) kc_32_37 rfl rfl ?_
                        refine xi_virtual (mj := 31) (as := [.int a21]) (st1 := []) (lv0 := [(0, .ref 115), (1, .int a21)]) kc_32_38 rfl rfl rfl rfl rfl eh580.1 (Nat.le_of_ble_eq_true rfl) (hJ _ _ _ _ (by decide)) (xm_le ml_31 rfl) rfl ?_
                        refine xi_iload_n (pc' := 1) (x := a21) kc_31_0 rfl rfl ?_
                        refine xi_static (mj := 24) (as := [.int a21]) (st1 := []) (lv0 := [(0, .int a21)]) kc_31_1 rfl rfl (Nat.le_of_ble_eq_true rfl) rfl rfl (Nat.le_of_ble_eq_true rfl) (hJ _ _ _ _ (by decide)) (xm_le ml_24 rfl) rfl ?_
                        refine xi_iload_n (pc' := 1) (x := a21) kc_24_0 rfl rfl ?_
                        refine xi_iconst (pc' := 2) (v := 0) kc_24_1 rfl rfl ?_
                        refine xi_bipush (pc' := 4) (v := 11) kc_24_2 rfl rfl ?_
                        refine xi_static (mj := 11) (as := [.int a21, .int 0, .int 11]) (st1 := []) (lv0 := [(0, .int a21), (1, .int 0), (2, .int 11)]) kc_24_4 rfl rfl (Nat.le_of_ble_eq_true rfl) rfl rfl (Nat.le_of_ble_eq_true rfl) (hJ _ _ _ _ (by decide)) (xm_le ml_11 rfl) rfl ?_
                        refine xi_iload_n (pc' := 1) (x := a21) kc_11_0 rfl rfl ?_
                        refine xi_iload_n (pc' := 2) (x := 0) kc_11_1 rfl rfl ?_
                        refine xi_cmf (pc' := 5) kc_11_2 rfl (xc_lt_f (X := a21.toInt) (Y := 0) rfl (by decide) (by omega)) ?_
                        refine xi_iload_n (pc' := 6) (x := a21) kc_11_5 rfl rfl ?_
                        refine xi_iload_n (pc' := 7) (x := 11) kc_11_6 rfl rfl ?_
                        refine xi_cmf (pc' := 10) kc_11_7 rfl (xc_gt_f (X := a21.toInt) (Y := 11) rfl (by decide) (by omega)) ?_
                        refine xi_iconst (pc' := 11) (v := 1) kc_11_10 rfl rfl ?_
                        refine xi_goto (pc' := 15) kc_11_11 rfl ?_
                        refine xi_ireturn kc_11_15 mr_11 rfl ?_
                        show xw J ov 97 24 (7, [(0, .int a21)], [.int 1], hh581) _
                        refine xi_ireturn kc_24_7 mr_24 rfl ?_
                        show xw J ov 98 31 (4, [(0, .ref 115), (1, .int a21)], [.int 1], hh581) _
                        refine xi_iff (pc' := 7) kc_31_4 rfl rfl ?_
                        refine xi_aload_n (pc' := 8) (x := 115) kc_31_7 rfl rfl ?_
                        refine xi_getfield (pc' := 11) (v := .ref 125) kc_31_8 rfl rfl rfl eh580.1 rfl ?_
                        refine xi_iload_n (pc' := 12) (x := a21) kc_31_11 rfl rfl ?_
                        have A583 := ((eh580.2.1 125 (by decide)).trans ((eh577.2.1 125 (by decide)).trans A313))
                        refine xi_iaload (pc' := 13) (v := u307) kc_31_12 rfl A583 (by decide) rfl (xi_in (by omega) (by rw [hy313]; omega)) HG314 ?_
                        refine xi_iff (pc' := 16) kc_31_13 rfl (xc_lt_f (X := u307.toInt) (Y := 0) rfl (by decide) (by omega)) ?_
                        refine xi_iconst (pc' := 17) (v := 1) kc_31_16 rfl rfl ?_
                        refine xi_goto (pc' := 21) kc_31_17 rfl ?_
                        refine xi_ireturn kc_31_21 mr_31 rfl ?_
                        show xw J ov 99 32 (41, [(0, .ref 115), (1, .int a19), (2, .int a21), (3, .int a23), (4, .int a25)], [.int 1], hh581) _
                        refine xi_iff (pc' := 44) kc_32_41 rfl rfl ?_
                        refine xi_iload_n (pc' := 45) (x := a19) kc_32_44 rfl rfl ?_
                        refine xi_ift (pc' := 63) kc_32_45 rfl (xc_ne_t (X := a19.toInt) (Y := 0) rfl (by decide) (by omega)) ?_
                        refine xi_iload_n (pc' := 64) (x := a23) kc_32_63 rfl rfl ?_
                        refine xi_iconst (pc' := 65) (v := 1) kc_32_64 rfl rfl ?_
                        refine xi_cmf (pc' := 68) kc_32_65 rfl (xc_lt_f (X := a23.toInt) (Y := 1) rfl (by decide) (by omega)) ?_
                        refine xi_iload (pc' := 70) (x := a25) kc_32_68 rfl rfl ?_
                        refine xi_ift (pc' := 80) kc_32_70 rfl (xc_ge_t (X := a25.toInt) (Y := 0) rfl (by decide) (by omega)) ?_
                        refine xi_iload_n (pc' := 81) (x := a23) kc_32_80 rfl rfl ?_
                        refine xi_bipush (pc' := 83) (v := 99) kc_32_81 rfl rfl ?_
                        refine xi_cmf (pc' := 86) kc_32_83 rfl (xc_gt_f (X := a23.toInt) (Y := 99) rfl (by decide) (by omega)) ?_
                        refine xi_iload (pc' := 88) (x := a25) kc_32_86 rfl rfl ?_
                        refine xi_sipush (pc' := 91) (v := 600) kc_32_88 rfl rfl ?_
                        refine xi_cmt (pc' := 103) kc_32_91 rfl (xc_gt_t (X := a25.toInt) (Y := 600) rfl (by decide) (by omega)) ?_
                        refine xi_aload_n (pc' := 104) (x := 115) kc_32_103 rfl rfl ?_
                        refine xi_bipush (pc' := 106) (v := (-6)) kc_32_104 rfl rfl ?_
                        refine xi_virtual (mj := 12) (as := [.int (-6)]) (st1 := []) (lv0 := [(0, .ref 115), (1, .int (-6))]) kc_32_106 rfl rfl rfl rfl rfl eh580.1 (Nat.le_of_ble_eq_true rfl) (hJ _ _ _ _ (by decide)) (xm_le ml_12 rfl) rfl ?_
                        refine xi_aload_n (pc' := 1) (x := 115) kc_12_0 rfl rfl ?_
                        refine xi_getfield (pc' := 4) (v := .ref 140) kc_12_1 rfl rfl rfl eh580.1 rfl ?_
                        refine xi_iload_n (pc' := 5) (x := (-6)) kc_12_4 rfl rfl ?_
                        refine xi_ineg (pc' := 6) (v := 6) kc_12_5 rfl rfl ?_
                        refine xi_dup2 (pc' := 7) kc_12_6 rfl ⟨rfl, rfl⟩ ?_
                        obtain ⟨y584, A584, hy584, ry584⟩ := xk_arr K.1 xD_140
                        obtain ⟨v585, ev585, bv585, dv585⟩ := xj_get hy584 ry584 (i := 6) (by decide) (by decide)
                        have A586 := ((eh580.2.1 140 (by decide)).trans ((eh577.2.1 140 (by decide)).trans A584))
                        refine xi_iaload (pc' := 8) (v := v585) kc_12_7 rfl A586 (by decide) rfl (xi_in (by decide) (by rw [hy584]; decide)) ev585 ?_
                        refine xi_iconst (pc' := 9) (v := 1) kc_12_8 rfl rfl ?_
                        obtain ⟨v587, ev587⟩ : ∃ q : Int32, (v585 : Int32) + 1 = q := ⟨_, rfl⟩
                        have rv587 := xc_rng v587
                        refine xi_iadd (pc' := 10) (v := v587) kc_12_9 rfl ev587 ?_
                        obtain ⟨y588, s588, hy588, ry588⟩ := xj_set (v := v587) hy584 ry584 6 (by first | omega | decide) (by first | omega | decide)
                        refine xi_iastore (pc' := 11) (x' := y588) kc_12_10 rfl A586 rfl (xi_in (by decide) (by rw [hy584]; decide)) s588 (fun hh588 eh588 => ?_)
                        have K589 := xk_pa K582 (xk_wa rfl) xD_140 hy588 ry588 eh588
                        refine xi_iload_n (pc' := 12) (x := (-6)) kc_12_11 rfl rfl ?_
                        refine xi_ireturn kc_12_12 mr_12 rfl ?_
                        show xw J ov 99 32 (109, [(0, .ref 115), (1, .int a19), (2, .int a21), (3, .int a23), (4, .int a25)], [.int (-6)], hh588) _
                        refine xi_ireturn kc_32_109 mr_32 rfl ?_
                        show xw J ov 100 195 (707, [(4, .int x4), (3, .ref 167), (2, .ref 115), (1, .ref 0), (0, .ref 1000000)], [.int (-6), .int (-6)], hh588) _
                        refine xi_cmt (pc' := 1501) kc_195_707 rfl rfl ?_
                        obtain ⟨v590, ev590⟩ : ∃ q : Int32, x4 + 6 = q := ⟨_, rfl⟩
                        have zv590 : v590.toInt = (x4.toInt + 6) := by rw [← ev590]; exact (xz_add (X := x4.toInt) (Y := 6) rfl (by decide) (by omega) (by omega)).trans (by omega)
                        refine xi_iinc (pc' := 1504) (x := x4) (v := v590) (lv' := [(4, .int v590), (3, .ref 167), (2, .ref 115), (1, .ref 0), (0, .ref 1000000)]) kc_195_1501 rfl rfl ev590 rfl (xm_lt ml_195 rfl) ?_
                        refine xi_goto (pc' := 23) kc_195_1504 rfl ?_
                        have A591 := ((eh588.2.1 1 (by decide)).trans ((eh580.2.1 1 (by decide)).trans ((eh577.2.1 1 (by decide)).trans A3)))
                        have A592 := ((eh588.2.1 115 (by decide)).trans eh580.1)
                        exact kk v590 hh588 (by omega) K589 ⟨(xGR_kept I.1 (fun c hc => ((eh588.2.1 c (Ne.symm (xk_nc hc rfl))).trans ((eh580.2.1 c (Ne.symm (xk_nc hc rfl))).trans (eh577.2.1 c (Ne.symm (xk_nc hc rfl)))))) ((eh588.2.1 125 (by decide)).trans ((eh580.2.1 125 (by decide)).trans (eh577.2.1 125 (by decide))))), (xGR_kept I.2.1 (fun c hc => ((eh588.2.1 c (Ne.symm (xk_nc hc rfl))).trans ((eh580.2.1 c (Ne.symm (xk_nc hc rfl))).trans (eh577.2.1 c (Ne.symm (xk_nc hc rfl)))))) ((eh588.2.1 127 (by decide)).trans ((eh580.2.1 127 (by decide)).trans (eh577.2.1 127 (by decide))))), ((xl_of A591 rfl).trans (xl_of A592 rfl).symm)⟩
                      · refine xi_cmf (pc' := 63) kc_116_60 rfl (xc_gt_f (X := a25.toInt) (Y := 600) rfl (by decide) (by omega)) ?_
                        refine xi_aload_n (pc' := 64) (x := 0) kc_116_63 rfl rfl ?_
                        refine xi_getfield (pc' := 67) (v := .ref 1) kc_116_64 rfl rfl rfl A28 rfl ?_
                        refine xi_getfield (pc' := 70) (v := .int u1) kc_116_67 rfl rfl rfl A3 rfl ?_
                        refine xi_bipush (pc' := 72) (v := 10) kc_116_70 rfl rfl ?_
                        by_cases c593 : u1.toInt < 10
                        · refine xi_cmt (pc' := 82) kc_116_72 rfl (xc_lt_t (X := u1.toInt) (Y := 10) rfl (by decide) (by omega)) ?_
                          refine xi_aload_n (pc' := 83) (x := 0) kc_116_82 rfl rfl ?_
                          refine xi_getfield (pc' := 86) (v := .ref 1) kc_116_83 rfl rfl rfl A28 rfl ?_
                          refine xi_iload_n (pc' := 87) (x := a19) kc_116_86 rfl rfl ?_
                          refine xi_iload_n (pc' := 88) (x := a21) kc_116_87 rfl rfl ?_
                          refine xi_iload_n (pc' := 89) (x := a23) kc_116_88 rfl rfl ?_
                          refine xi_iload (pc' := 91) (x := a25) kc_116_89 rfl rfl ?_
                          refine xi_virtual (mj := 119) (as := [.int a19, .int a21, .int a23, .int a25]) (st1 := []) (lv0 := [(0, .ref 1), (1, .int a19), (2, .int a21), (3, .int a23), (4, .int a25)]) kc_116_91 rfl rfl rfl rfl rfl A3 (Nat.le_of_ble_eq_true rfl) (hJ _ _ _ _ (by decide)) (xm_le ml_119 rfl) rfl ?_
                          refine xi_aload_n (pc' := 1) (x := 1) kc_119_0 rfl rfl ?_
                          refine xi_getfield (pc' := 4) (v := .int u1) kc_119_1 rfl rfl rfl A3 rfl ?_
                          refine xi_bipush (pc' := 6) (v := 10) kc_119_4 rfl rfl ?_
                          refine xi_cmt (pc' := 12) kc_119_6 rfl (xc_lt_t (X := u1.toInt) (Y := 10) rfl (by decide) (by omega)) ?_
                          refine xi_aload_n (pc' := 13) (x := 1) kc_119_12 rfl rfl ?_
                          refine xi_getfield (pc' := 16) (v := .ref 4) kc_119_13 rfl rfl rfl A3 rfl ?_
                          refine xi_aload_n (pc' := 17) (x := 1) kc_119_16 rfl rfl ?_
                          refine xi_getfield (pc' := 20) (v := .int u1) kc_119_17 rfl rfl rfl A3 rfl ?_
                          have A594 := xk_ex K.1 xD_4
                          obtain ⟨pt595, ept595, mpt595⟩ := xR_4 (i := u1) (by omega) (by omega)
                          refine xj_aaload (pc' := 21) (b := pt595) kc_119_20 rfl A594 rfl (xi_in (n := 10) (by omega) (by omega)) ept595 ?_
                          refine xi_astore (pc' := 23) (lv' := [(5, .ref pt595), (0, .ref 1), (1, .int a19), (2, .int a21), (3, .int a23), (4, .int a25)]) kc_119_21 rfl rfl (xm_lt ml_119 rfl) ?_
                          refine xi_aload (pc' := 25) (x := pt595) kc_119_23 rfl rfl ?_
                          refine xi_iload_n (pc' := 26) (x := a19) kc_119_25 rfl rfl ?_
                          obtain ⟨u596, u597, u598, u599, bu596, bu597, bu598, bu599, A600⟩ := xg_cause K.1 mpt595
                          refine xi_putfield (pc' := 29) (fs' := [.int a19, .int u597, .int u598, .int u599]) kc_119_26 rfl rfl rfl A600 rfl rfl rfl (Nat.le_of_ble_eq_true rfl) rfl (fun hh602 eh601 => ?_)
                          obtain ⟨ds603, Dds603, dds603_0, dds603_1, dds603_2, dds603_3⟩ := xGo_cause mpt595
                          have K604 := xk_pf (k := 0) (v := a19) K (xk_gf mpt595 rfl) Dds603 A600 dds603_0 (by first | omega | decide) (by first | omega | decide) eh601 rfl
                          refine xi_aload (pc' := 31) (x := pt595) kc_119_29 rfl rfl ?_
                          refine xi_iload_n (pc' := 32) (x := a21) kc_119_31 rfl rfl ?_
                          refine xi_putfield (pc' := 35) (fs' := [.int a19, .int a21, .int u598, .int u599]) kc_119_32 rfl rfl rfl eh601.1 rfl rfl rfl (Nat.le_of_ble_eq_true rfl) rfl (fun hh606 eh605 => ?_)
                          obtain ⟨ds607, Dds607, dds607_0, dds607_1, dds607_2, dds607_3⟩ := xGo_cause mpt595
                          have K608 := xk_pf (k := 1) (v := a21) K604 (xk_gf mpt595 rfl) Dds607 eh601.1 dds607_1 (by first | omega | decide) (by first | omega | decide) eh605 rfl
                          refine xi_aload (pc' := 37) (x := pt595) kc_119_35 rfl rfl ?_
                          refine xi_iload_n (pc' := 38) (x := a23) kc_119_37 rfl rfl ?_
                          refine xi_putfield (pc' := 41) (fs' := [.int a19, .int a21, .int a23, .int u599]) kc_119_38 rfl rfl rfl eh605.1 rfl rfl rfl (Nat.le_of_ble_eq_true rfl) rfl (fun hh610 eh609 => ?_)
                          obtain ⟨ds611, Dds611, dds611_0, dds611_1, dds611_2, dds611_3⟩ := xGo_cause mpt595
                          have K612 := xk_pf (k := 2) (v := a23) K608 (xk_gf mpt595 rfl) Dds611 eh605.1 dds611_2 (by first | omega | decide) (by first | omega | decide) eh609 rfl
                          refine xi_aload (pc' := 43) (x := pt595) kc_119_41 rfl rfl ?_
                          refine xi_iload (pc' := 45) (x := a25) kc_119_43 rfl rfl ?_
                          refine xi_putfield (pc' := 48) (fs' := [.int a19, .int a21, .int a23, .int a25]) kc_119_45 rfl rfl rfl eh609.1 rfl rfl rfl (Nat.le_of_ble_eq_true rfl) rfl (fun hh614 eh613 => ?_)
                          obtain ⟨ds615, Dds615, dds615_0, dds615_1, dds615_2, dds615_3⟩ := xGo_cause mpt595
                          have K616 := xk_pf (k := 3) (v := a25) K612 (xk_gf mpt595 rfl) Dds615 eh609.1 dds615_3 (by first | omega | decide) (by first | omega | decide) eh613 rfl
                          refine xi_aload_n (pc' := 49) (x := 1) kc_119_48 rfl rfl ?_
                          refine xi_dup (pc' := 50) kc_119_49 rfl rfl ?_
                          have A617 := ((eh613.2.1 1 (xk_nc mpt595 rfl)).trans ((eh609.2.1 1 (xk_nc mpt595 rfl)).trans ((eh605.2.1 1 (xk_nc mpt595 rfl)).trans ((eh601.2.1 1 (xk_nc mpt595 rfl)).trans A3))))
                          refine xi_getfield (pc' := 53) (v := .int u1) kc_119_50 rfl rfl rfl A617 rfl ?_
                          refine xi_iconst (pc' := 54) (v := 1) kc_119_53 rfl rfl ?_
                          obtain ⟨v618, ev618⟩ : ∃ q : Int32, u1 + 1 = q := ⟨_, rfl⟩
                          have zv618 : v618.toInt = (u1.toInt + 1) := by rw [← ev618]; exact (xz_add (X := u1.toInt) (Y := 1) rfl (by decide) (by omega) (by omega)).trans (by omega)
                          refine xi_iadd (pc' := 55) (v := v618) kc_119_54 rfl ev618 ?_
                          refine xi_putfield (pc' := 58) (fs' := [.ref 2, .ref 3, .ref 4, .ref 5, .ref 8, .int v618, .int u2]) kc_119_55 rfl rfl rfl A617 rfl rfl rfl (Nat.le_of_ble_eq_true rfl) rfl (fun hh620 eh619 => ?_)
                          have K621 := xk_pf (k := 5) (v := v618) K616 (xk_wf rfl) xD_1 A617 rfl (by first | omega | decide) (by first | omega | decide) eh619 rfl
                          refine xi_aload_n (pc' := 59) (x := 1) kc_119_58 rfl rfl ?_
                          refine xi_getfield (pc' := 62) (v := .int v618) kc_119_59 rfl rfl rfl eh619.1 rfl ?_
                          refine xi_iconst (pc' := 63) (v := 1) kc_119_62 rfl rfl ?_
                          obtain ⟨v622, ev622⟩ : ∃ q : Int32, v618 - 1 = q := ⟨_, rfl⟩
                          have zv622 : v622.toInt = u1.toInt := by rw [← ev622]; exact (xz_sub (X := (u1.toInt + 1)) (Y := 1) zv618 (by decide) (by omega) (by omega)).trans (by omega)
                          refine xi_isub (pc' := 64) (v := v622) kc_119_63 rfl ev622 ?_
                          refine xi_ireturn kc_119_64 mr_119 rfl ?_
                          show xw J ov 99 116 (94, [(0, .ref 0), (1, .int a19), (2, .int a21), (3, .int a23), (4, .int a25)], [.int v622], hh620) _
                          refine xi_ireturn kc_116_94 mr_116 rfl ?_
                          show xw J ov 100 195 (679, [(4, .int x4), (3, .ref 167), (2, .ref 115), (1, .ref 0), (0, .ref 1000000)], [.int v622], hh620) _
                          refine xi_aload_n (pc' := 680) (x := 115) kc_195_679 rfl rfl ?_
                          refine xi_aload_n (pc' := 681) (x := 1000000) kc_195_680 rfl rfl ?_
                          refine xi_iload (pc' := 683) (x := x4) kc_195_681 rfl rfl ?_
                          refine xi_iconst (pc' := 684) (v := 1) kc_195_683 rfl rfl ?_
                          refine xi_iadd (pc' := 685) (v := v18) kc_195_684 rfl ev18 ?_
                          refine xi_ialoadO (pc' := 686) (v := a19) kc_195_685 rfl (by decide) hov0 (xi_in (by omega) (by omega)) ea19 ?_
                          refine xi_aload_n (pc' := 687) (x := 1000000) kc_195_686 rfl rfl ?_
                          refine xi_iload (pc' := 689) (x := x4) kc_195_687 rfl rfl ?_
                          refine xi_iconst (pc' := 690) (v := 2) kc_195_689 rfl rfl ?_
                          refine xi_iadd (pc' := 691) (v := v20) kc_195_690 rfl ev20 ?_
                          refine xi_ialoadO (pc' := 692) (v := a21) kc_195_691 rfl (by decide) hov0 (xi_in (by omega) (by omega)) ea21 ?_
                          refine xi_aload_n (pc' := 693) (x := 1000000) kc_195_692 rfl rfl ?_
                          refine xi_iload (pc' := 695) (x := x4) kc_195_693 rfl rfl ?_
                          refine xi_iconst (pc' := 696) (v := 3) kc_195_695 rfl rfl ?_
                          refine xi_iadd (pc' := 697) (v := v22) kc_195_696 rfl ev22 ?_
                          refine xi_ialoadO (pc' := 698) (v := a23) kc_195_697 rfl (by decide) hov0 (xi_in (by omega) (by omega)) ea23 ?_
                          refine xi_aload_n (pc' := 699) (x := 1000000) kc_195_698 rfl rfl ?_
                          refine xi_iload (pc' := 701) (x := x4) kc_195_699 rfl rfl ?_
                          refine xi_iconst (pc' := 702) (v := 4) kc_195_701 rfl rfl ?_
                          refine xi_iadd (pc' := 703) (v := v24) kc_195_702 rfl ev24 ?_
                          refine xi_ialoadO (pc' := 704) (v := a25) kc_195_703 rfl (by decide) hov0 (xi_in (by omega) (by omega)) ea25 ?_
                          have A623 := ((eh619.2.1 115 (by decide)).trans ((eh613.2.1 115 (xk_nc mpt595 rfl)).trans ((eh609.2.1 115 (xk_nc mpt595 rfl)).trans ((eh605.2.1 115 (xk_nc mpt595 rfl)).trans ((eh601.2.1 115 (xk_nc mpt595 rfl)).trans A17)))))
                          refine xi_virtual (mj := 32) (as := [.int a19, .int a21, .int a23, .int a25]) (st1 := [.int v622]) (lv0 := [(0, .ref 115), (1, .int a19), (2, .int a21), (3, .int a23), (4, .int a25)]) kc_195_704 rfl rfl rfl rfl rfl A623 (Nat.le_of_ble_eq_true rfl) (hJ _ _ _ _ (by decide)) (xm_le ml_32 rfl) rfl ?_
                          refine xi_aload_n (pc' := 1) (x := 115) kc_32_0 rfl rfl ?_
                          refine xi_iconst (pc' := 2) (v := 0) kc_32_1 rfl rfl ?_
                          refine xi_putfield (pc' := 5) (fs' := [.int 0, .int u5, .ref 116, .ref 117, .ref 118, .ref 119, .ref 120, .ref 121, .ref 122, .ref 123, .ref 124, .ref 125, .ref 126, .ref 127, .ref 128, .ref 129, .int u6, .ref 130, .int u7, .ref 131, .ref 132, .ref 133, .ref 134, .int u1, .ref 135, .ref 136, .ref 137, .ref 138, .ref 139, .ref 140, .ref 141, .ref 142, .int u9, .int u10, .int u11, .ref 143, .ref 144, .ref 145, .ref 146, .ref 147, .ref 148, .int u12, .ref 149, .ref 150, .ref 151, .int u13, .ref 152, .ref 153, .ref 154, .ref 155, .ref 156, .ref 157, .ref 158, .ref 159, .int u14, .ref 160, .int u15, .ref 161, .ref 162, .ref 163, .ref 164, .int u16, .ref 165, .ref 166]) kc_32_2 rfl rfl rfl A623 rfl rfl rfl (Nat.le_of_ble_eq_true rfl) rfl (fun hh625 eh624 => ?_)
                          have K626 := xk_pf (k := 0) (v := 0) K621 (xk_wf rfl) xD_115 A623 rfl (by first | omega | decide) (by first | omega | decide) eh624 rfl
                          refine xi_iload_n (pc' := 6) (x := a19) kc_32_5 rfl rfl ?_
                          refine xi_iconst (pc' := 7) (v := 0) kc_32_6 rfl rfl ?_
                          refine xi_iconst (pc' := 8) (v := 3) kc_32_7 rfl rfl ?_
                          refine xi_static (mj := 11) (as := [.int a19, .int 0, .int 3]) (st1 := []) (lv0 := [(0, .int a19), (1, .int 0), (2, .int 3)]) kc_32_8 rfl rfl (Nat.le_of_ble_eq_true rfl) rfl rfl (Nat.le_of_ble_eq_true rfl) (hJ _ _ _ _ (by decide)) (xm_le ml_11 rfl) rfl ?_
                          refine xi_iload_n (pc' := 1) (x := a19) kc_11_0 rfl rfl ?_
                          refine xi_iload_n (pc' := 2) (x := 0) kc_11_1 rfl rfl ?_
                          refine xi_cmf (pc' := 5) kc_11_2 rfl (xc_lt_f (X := a19.toInt) (Y := 0) rfl (by decide) (by omega)) ?_
                          refine xi_iload_n (pc' := 6) (x := a19) kc_11_5 rfl rfl ?_
                          refine xi_iload_n (pc' := 7) (x := 3) kc_11_6 rfl rfl ?_
                          refine xi_cmf (pc' := 10) kc_11_7 rfl (xc_gt_f (X := a19.toInt) (Y := 3) rfl (by decide) (by omega)) ?_
                          refine xi_iconst (pc' := 11) (v := 1) kc_11_10 rfl rfl ?_
                          refine xi_goto (pc' := 15) kc_11_11 rfl ?_
                          refine xi_ireturn kc_11_15 mr_11 rfl ?_
                          show xw J ov 99 32 (11, [(0, .ref 115), (1, .int a19), (2, .int a21), (3, .int a23), (4, .int a25)], [.int 1], hh625) _
                          refine xi_ift (pc' := 21) kc_32_11 rfl rfl ?_
                          refine xi_iload_n (pc' := 22) (x := a19) kc_32_21 rfl rfl ?_
                          refine xi_iconst (pc' := 23) (v := 3) kc_32_22 rfl rfl ?_
                          refine xi_cmt (pc' := 36) kc_32_23 rfl (xc_ne_t (X := a19.toInt) (Y := 3) rfl (by decide) (by omega)) ?_
                          refine xi_aload_n (pc' := 37) (x := 115) kc_32_36 rfl rfl ?_
                          refine xi_iload_n (pc' := 38) (x := a21) kc_32_37 rfl rfl ?_
                          refine xi_virtual (mj := 31) (as := [.int a21]) (st1 := []) (lv0 := [(0, .ref 115), (1, .int a21)]) kc_32_38 rfl rfl rfl rfl rfl eh624.1 (Nat.le_of_ble_eq_true rfl) (hJ _ _ _ _ (by decide)) (xm_le ml_31 rfl) rfl ?_
                          refine xi_iload_n (pc' := 1) (x := a21) kc_31_0 rfl rfl ?_
                          refine xi_static (mj := 24) (as := [.int a21]) (st1 := []) (lv0 := [(0, .int a21)]) kc_31_1 rfl rfl (Nat.le_of_ble_eq_true rfl) rfl rfl (Nat.le_of_ble_eq_true rfl) (hJ _ _ _ _ (by decide)) (xm_le ml_24 rfl) rfl ?_
                          refine xi_iload_n (pc' := 1) (x := a21) kc_24_0 rfl rfl ?_
                          refine xi_iconst (pc' := 2) (v := 0) kc_24_1 rfl rfl ?_
                          refine xi_bipush (pc' := 4) (v := 11) kc_24_2 rfl rfl ?_
                          refine xi_static (mj := 11) (as := [.int a21, .int 0, .int 11]) (st1 := []) (lv0 := [(0, .int a21), (1, .int 0), (2, .int 11)]) kc_24_4 rfl rfl (Nat.le_of_ble_eq_true rfl) rfl rfl (Nat.le_of_ble_eq_true rfl) (hJ _ _ _ _ (by decide)) (xm_le ml_11 rfl) rfl ?_
                          refine xi_iload_n (pc' := 1) (x := a21) kc_11_0 rfl rfl ?_
                          refine xi_iload_n (pc' := 2) (x := 0) kc_11_1 rfl rfl ?_
                          refine xi_cmf (pc' := 5) kc_11_2 rfl (xc_lt_f (X := a21.toInt) (Y := 0) rfl (by decide) (by omega)) ?_
                          refine xi_iload_n (pc' := 6) (x := a21) kc_11_5 rfl rfl ?_
                          refine xi_iload_n (pc' := 7) (x := 11) kc_11_6 rfl rfl ?_
                          refine xi_cmf (pc' := 10) kc_11_7 rfl (xc_gt_f (X := a21.toInt) (Y := 11) rfl (by decide) (by omega)) ?_
                          refine xi_iconst (pc' := 11) (v := 1) kc_11_10 rfl rfl ?_
                          refine xi_goto (pc' := 15) kc_11_11 rfl ?_
                          refine xi_ireturn kc_11_15 mr_11 rfl ?_
                          show xw J ov 97 24 (7, [(0, .int a21)], [.int 1], hh625) _
                          refine xi_ireturn kc_24_7 mr_24 rfl ?_
                          show xw J ov 98 31 (4, [(0, .ref 115), (1, .int a21)], [.int 1], hh625) _
                          refine xi_iff (pc' := 7) kc_31_4 rfl rfl ?_
                          refine xi_aload_n (pc' := 8) (x := 115) kc_31_7 rfl rfl ?_
                          refine xi_getfield (pc' := 11) (v := .ref 125) kc_31_8 rfl rfl rfl eh624.1 rfl ?_
                          refine xi_iload_n (pc' := 12) (x := a21) kc_31_11 rfl rfl ?_
                          have A627 := ((eh624.2.1 125 (by decide)).trans ((eh619.2.1 125 (by decide)).trans ((eh613.2.1 125 (xk_nc mpt595 rfl)).trans ((eh609.2.1 125 (xk_nc mpt595 rfl)).trans ((eh605.2.1 125 (xk_nc mpt595 rfl)).trans ((eh601.2.1 125 (xk_nc mpt595 rfl)).trans A313))))))
                          refine xi_iaload (pc' := 13) (v := u307) kc_31_12 rfl A627 (by decide) rfl (xi_in (by omega) (by rw [hy313]; omega)) HG314 ?_
                          refine xi_iff (pc' := 16) kc_31_13 rfl (xc_lt_f (X := u307.toInt) (Y := 0) rfl (by decide) (by omega)) ?_
                          refine xi_iconst (pc' := 17) (v := 1) kc_31_16 rfl rfl ?_
                          refine xi_goto (pc' := 21) kc_31_17 rfl ?_
                          refine xi_ireturn kc_31_21 mr_31 rfl ?_
                          show xw J ov 99 32 (41, [(0, .ref 115), (1, .int a19), (2, .int a21), (3, .int a23), (4, .int a25)], [.int 1], hh625) _
                          refine xi_iff (pc' := 44) kc_32_41 rfl rfl ?_
                          refine xi_iload_n (pc' := 45) (x := a19) kc_32_44 rfl rfl ?_
                          refine xi_ift (pc' := 63) kc_32_45 rfl (xc_ne_t (X := a19.toInt) (Y := 0) rfl (by decide) (by omega)) ?_
                          refine xi_iload_n (pc' := 64) (x := a23) kc_32_63 rfl rfl ?_
                          refine xi_iconst (pc' := 65) (v := 1) kc_32_64 rfl rfl ?_
                          refine xi_cmf (pc' := 68) kc_32_65 rfl (xc_lt_f (X := a23.toInt) (Y := 1) rfl (by decide) (by omega)) ?_
                          refine xi_iload (pc' := 70) (x := a25) kc_32_68 rfl rfl ?_
                          refine xi_ift (pc' := 80) kc_32_70 rfl (xc_ge_t (X := a25.toInt) (Y := 0) rfl (by decide) (by omega)) ?_
                          refine xi_iload_n (pc' := 81) (x := a23) kc_32_80 rfl rfl ?_
                          refine xi_bipush (pc' := 83) (v := 99) kc_32_81 rfl rfl ?_
                          refine xi_cmf (pc' := 86) kc_32_83 rfl (xc_gt_f (X := a23.toInt) (Y := 99) rfl (by decide) (by omega)) ?_
                          refine xi_iload (pc' := 88) (x := a25) kc_32_86 rfl rfl ?_
                          refine xi_sipush (pc' := 91) (v := 600) kc_32_88 rfl rfl ?_
                          refine xi_cmf (pc' := 94) kc_32_91 rfl (xc_gt_f (X := a25.toInt) (Y := 600) rfl (by decide) (by omega)) ?_
                          refine xi_aload_n (pc' := 95) (x := 115) kc_32_94 rfl rfl ?_
                          refine xi_getfield (pc' := 98) (v := .int u1) kc_32_95 rfl rfl rfl eh624.1 rfl ?_
                          refine xi_bipush (pc' := 100) (v := 10) kc_32_98 rfl rfl ?_
                          refine xi_cmt (pc' := 110) kc_32_100 rfl (xc_ne_t (X := u1.toInt) (Y := 10) rfl (by decide) (by omega)) ?_
                          refine xi_aload_n (pc' := 111) (x := 115) kc_32_110 rfl rfl ?_
                          refine xi_getfield (pc' := 114) (v := .ref 135) kc_32_111 rfl rfl rfl eh624.1 rfl ?_
                          refine xi_aload_n (pc' := 115) (x := 115) kc_32_114 rfl rfl ?_
                          refine xi_getfield (pc' := 118) (v := .int u1) kc_32_115 rfl rfl rfl eh624.1 rfl ?_
                          refine xi_iload_n (pc' := 119) (x := a19) kc_32_118 rfl rfl ?_
                          obtain ⟨y628, A628, hy628, ry628⟩ := xk_arr K.1 xD_135
                          have A629 := ((eh624.2.1 135 (by decide)).trans ((eh619.2.1 135 (by decide)).trans ((eh613.2.1 135 (xk_nc mpt595 rfl)).trans ((eh609.2.1 135 (xk_nc mpt595 rfl)).trans ((eh605.2.1 135 (xk_nc mpt595 rfl)).trans ((eh601.2.1 135 (xk_nc mpt595 rfl)).trans A628))))))
                          obtain ⟨y630, s630, hy630, ry630⟩ := xj_set (v := a19) hy628 ry628 u1 (by first | omega | decide) (by first | omega | decide)
                          refine xi_iastore (pc' := 120) (x' := y630) kc_32_119 rfl A629 rfl (xi_in (by omega) (by rw [hy628]; omega)) s630 (fun hh630 eh630 => ?_)
                          have K631 := xk_pa K626 (xk_wa rfl) xD_135 hy630 ry630 eh630
                          refine xi_aload_n (pc' := 121) (x := 115) kc_32_120 rfl rfl ?_
                          have A632 := ((eh630.2.1 115 (by decide)).trans eh624.1)
                          refine xi_getfield (pc' := 124) (v := .ref 136) kc_32_121 rfl rfl rfl A632 rfl ?_
                          refine xi_aload_n (pc' := 125) (x := 115) kc_32_124 rfl rfl ?_
                          refine xi_getfield (pc' := 128) (v := .int u1) kc_32_125 rfl rfl rfl A632 rfl ?_
                          refine xi_iload_n (pc' := 129) (x := a21) kc_32_128 rfl rfl ?_
                          obtain ⟨y633, A633, hy633, ry633⟩ := xk_arr K.1 xD_136
                          have A634 := ((eh630.2.1 136 (by decide)).trans ((eh624.2.1 136 (by decide)).trans ((eh619.2.1 136 (by decide)).trans ((eh613.2.1 136 (xk_nc mpt595 rfl)).trans ((eh609.2.1 136 (xk_nc mpt595 rfl)).trans ((eh605.2.1 136 (xk_nc mpt595 rfl)).trans ((eh601.2.1 136 (xk_nc mpt595 rfl)).trans A633)))))))
                          obtain ⟨y635, s635, hy635, ry635⟩ := xj_set (v := a21) hy633 ry633 u1 (by first | omega | decide) (by first | omega | decide)
                          refine xi_iastore (pc' := 130) (x' := y635) kc_32_129 rfl A634 rfl (xi_in (by omega) (by rw [hy633]; omega)) s635 (fun hh635 eh635 => ?_)
                          have K636 := xk_pa K631 (xk_wa rfl) xD_136 hy635 ry635 eh635
                          refine xi_aload_n (pc' := 131) (x := 115) kc_32_130 rfl rfl ?_
                          have A637 := ((eh635.2.1 115 (by decide)).trans A632)
                          refine xi_getfield (pc' := 134) (v := .ref 137) kc_32_131 rfl rfl rfl A637 rfl ?_
                          refine xi_aload_n (pc' := 135) (x := 115) kc_32_134 rfl rfl ?_
                          refine xi_getfield (pc' := 138) (v := .int u1) kc_32_135 rfl rfl rfl A637 rfl ?_
                          refine xi_iload_n (pc' := 139) (x := a23) kc_32_138 rfl rfl ?_
                          obtain ⟨y638, A638, hy638, ry638⟩ := xk_arr K.1 xD_137
                          have A639 := ((eh635.2.1 137 (by decide)).trans ((eh630.2.1 137 (by decide)).trans ((eh624.2.1 137 (by decide)).trans ((eh619.2.1 137 (by decide)).trans ((eh613.2.1 137 (xk_nc mpt595 rfl)).trans ((eh609.2.1 137 (xk_nc mpt595 rfl)).trans ((eh605.2.1 137 (xk_nc mpt595 rfl)).trans ((eh601.2.1 137 (xk_nc mpt595 rfl)).trans A638))))))))
                          obtain ⟨y640, s640, hy640, ry640⟩ := xj_set (v := a23) hy638 ry638 u1 (by first | omega | decide) (by first | omega | decide)
                          refine xi_iastore (pc' := 140) (x' := y640) kc_32_139 rfl A639 rfl (xi_in (by omega) (by rw [hy638]; omega)) s640 (fun hh640 eh640 => ?_)
                          have K641 := xk_pa K636 (xk_wa rfl) xD_137 hy640 ry640 eh640
                          refine xi_aload_n (pc' := 141) (x := 115) kc_32_140 rfl rfl ?_
                          have A642 := ((eh640.2.1 115 (by decide)).trans A637)
                          refine xi_getfield (pc' := 144) (v := .ref 138) kc_32_141 rfl rfl rfl A642 rfl ?_
                          refine xi_aload_n (pc' := 145) (x := 115) kc_32_144 rfl rfl ?_
                          refine xi_getfield (pc' := 148) (v := .int u1) kc_32_145 rfl rfl rfl A642 rfl ?_
                          refine xi_iload (pc' := 150) (x := a25) kc_32_148 rfl rfl ?_
                          obtain ⟨y643, A643, hy643, ry643⟩ := xk_arr K.1 xD_138
                          have A644 := ((eh640.2.1 138 (by decide)).trans ((eh635.2.1 138 (by decide)).trans ((eh630.2.1 138 (by decide)).trans ((eh624.2.1 138 (by decide)).trans ((eh619.2.1 138 (by decide)).trans ((eh613.2.1 138 (xk_nc mpt595 rfl)).trans ((eh609.2.1 138 (xk_nc mpt595 rfl)).trans ((eh605.2.1 138 (xk_nc mpt595 rfl)).trans ((eh601.2.1 138 (xk_nc mpt595 rfl)).trans A643)))))))))
                          obtain ⟨y645, s645, hy645, ry645⟩ := xj_set (v := a25) hy643 ry643 u1 (by first | omega | decide) (by first | omega | decide)
                          refine xi_iastore (pc' := 151) (x' := y645) kc_32_150 rfl A644 rfl (xi_in (by omega) (by rw [hy643]; omega)) s645 (fun hh645 eh645 => ?_)
                          have K646 := xk_pa K641 (xk_wa rfl) xD_138 hy645 ry645 eh645
                          refine xi_aload_n (pc' := 152) (x := 115) kc_32_151 rfl rfl ?_
                          have A647 := ((eh645.2.1 115 (by decide)).trans A642)
                          refine xi_getfield (pc' := 155) (v := .ref 139) kc_32_152 rfl rfl rfl A647 rfl ?_
                          refine xi_aload_n (pc' := 156) (x := 115) kc_32_155 rfl rfl ?_
                          refine xi_getfield (pc' := 159) (v := .int u1) kc_32_156 rfl rfl rfl A647 rfl ?_
                          refine xi_iconst (pc' := 160) (v := 0) kc_32_159 rfl rfl ?_
                          obtain ⟨y648, A648, hy648, ry648⟩ := xk_arr K.1 xD_139
                          have A649 := ((eh645.2.1 139 (by decide)).trans ((eh640.2.1 139 (by decide)).trans ((eh635.2.1 139 (by decide)).trans ((eh630.2.1 139 (by decide)).trans ((eh624.2.1 139 (by decide)).trans ((eh619.2.1 139 (by decide)).trans ((eh613.2.1 139 (xk_nc mpt595 rfl)).trans ((eh609.2.1 139 (xk_nc mpt595 rfl)).trans ((eh605.2.1 139 (xk_nc mpt595 rfl)).trans ((eh601.2.1 139 (xk_nc mpt595 rfl)).trans A648))))))))))
                          obtain ⟨y650, s650, hy650, ry650⟩ := xj_set (v := 0) hy648 ry648 u1 (by first | omega | decide) (by first | omega | decide)
                          refine xi_bastore (pc' := 161) (x' := y650) kc_32_160 rfl A649 rfl (xi_in (by omega) (by rw [hy648]; omega)) s650 (fun hh650 eh650 => ?_)
                          have K651 := xk_pa K646 (xk_wa rfl) xD_139 hy650 ry650 eh650
                          refine xi_aload_n (pc' := 162) (x := 115) kc_32_161 rfl rfl ?_
                          refine xi_dup (pc' := 163) kc_32_162 rfl rfl ?_
                          have A652 := ((eh650.2.1 115 (by decide)).trans A647)
                          refine xi_getfield (pc' := 166) (v := .int u1) kc_32_163 rfl rfl rfl A652 rfl ?_
                          refine xi_iconst (pc' := 167) (v := 1) kc_32_166 rfl rfl ?_
                          refine xi_iadd (pc' := 168) (v := v618) kc_32_167 rfl ev618 ?_
                          refine xi_putfield (pc' := 171) (fs' := [.int 0, .int u5, .ref 116, .ref 117, .ref 118, .ref 119, .ref 120, .ref 121, .ref 122, .ref 123, .ref 124, .ref 125, .ref 126, .ref 127, .ref 128, .ref 129, .int u6, .ref 130, .int u7, .ref 131, .ref 132, .ref 133, .ref 134, .int v618, .ref 135, .ref 136, .ref 137, .ref 138, .ref 139, .ref 140, .ref 141, .ref 142, .int u9, .int u10, .int u11, .ref 143, .ref 144, .ref 145, .ref 146, .ref 147, .ref 148, .int u12, .ref 149, .ref 150, .ref 151, .int u13, .ref 152, .ref 153, .ref 154, .ref 155, .ref 156, .ref 157, .ref 158, .ref 159, .int u14, .ref 160, .int u15, .ref 161, .ref 162, .ref 163, .ref 164, .int u16, .ref 165, .ref 166]) kc_32_168 rfl rfl rfl A652 rfl rfl rfl (Nat.le_of_ble_eq_true rfl) rfl (fun hh654 eh653 => ?_)
                          have K655 := xk_pf (k := 23) (v := v618) K651 (xk_wf rfl) xD_115 A652 rfl (by first | omega | decide) (by first | omega | decide) eh653 rfl
                          refine xi_aload_n (pc' := 172) (x := 115) kc_32_171 rfl rfl ?_
                          refine xi_iconst (pc' := 173) (v := 0) kc_32_172 rfl rfl ?_
                          refine xi_putfield (pc' := 176) (fs' := [.int 0, .int u5, .ref 116, .ref 117, .ref 118, .ref 119, .ref 120, .ref 121, .ref 122, .ref 123, .ref 124, .ref 125, .ref 126, .ref 127, .ref 128, .ref 129, .int u6, .ref 130, .int u7, .ref 131, .ref 132, .ref 133, .ref 134, .int v618, .ref 135, .ref 136, .ref 137, .ref 138, .ref 139, .ref 140, .ref 141, .ref 142, .int u9, .int u10, .int u11, .ref 143, .ref 144, .ref 145, .ref 146, .ref 147, .ref 148, .int 0, .ref 149, .ref 150, .ref 151, .int u13, .ref 152, .ref 153, .ref 154, .ref 155, .ref 156, .ref 157, .ref 158, .ref 159, .int u14, .ref 160, .int u15, .ref 161, .ref 162, .ref 163, .ref 164, .int u16, .ref 165, .ref 166]) kc_32_173 rfl rfl rfl eh653.1 rfl rfl rfl (Nat.le_of_ble_eq_true rfl) rfl (fun hh657 eh656 => ?_)
                          have K658 := xk_pf (k := 41) (v := 0) K655 (xk_wf rfl) xD_115 eh653.1 rfl (by first | omega | decide) (by first | omega | decide) eh656 rfl
                          refine xi_aload_n (pc' := 177) (x := 115) kc_32_176 rfl rfl ?_
                          refine xi_getfield (pc' := 180) (v := .int v618) kc_32_177 rfl rfl rfl eh656.1 rfl ?_
                          refine xi_iconst (pc' := 181) (v := 1) kc_32_180 rfl rfl ?_
                          refine xi_isub (pc' := 182) (v := v622) kc_32_181 rfl ev622 ?_
                          refine xi_ireturn kc_32_182 mr_32 rfl ?_
                          show xw J ov 100 195 (707, [(4, .int x4), (3, .ref 167), (2, .ref 115), (1, .ref 0), (0, .ref 1000000)], [.int v622, .int v622], hh657) _
                          refine xi_cmt (pc' := 1501) kc_195_707 rfl (xc_eq_t (X := u1.toInt) (Y := u1.toInt) zv622 zv622 (by omega)) ?_
                          obtain ⟨v659, ev659⟩ : ∃ q : Int32, x4 + 6 = q := ⟨_, rfl⟩
                          have zv659 : v659.toInt = (x4.toInt + 6) := by rw [← ev659]; exact (xz_add (X := x4.toInt) (Y := 6) rfl (by decide) (by omega) (by omega)).trans (by omega)
                          refine xi_iinc (pc' := 1504) (x := x4) (v := v659) (lv' := [(4, .int v659), (3, .ref 167), (2, .ref 115), (1, .ref 0), (0, .ref 1000000)]) kc_195_1501 rfl rfl ev659 rfl (xm_lt ml_195 rfl) ?_
                          refine xi_goto (pc' := 23) kc_195_1504 rfl ?_
                          have A660 := ((eh656.2.1 1 (by decide)).trans ((eh653.2.1 1 (by decide)).trans ((eh650.2.1 1 (by decide)).trans ((eh645.2.1 1 (by decide)).trans ((eh640.2.1 1 (by decide)).trans ((eh635.2.1 1 (by decide)).trans ((eh630.2.1 1 (by decide)).trans ((eh624.2.1 1 (by decide)).trans eh619.1))))))))
                          exact kk v659 hh657 (by omega) K658 ⟨(xGR_kept I.1 (fun c hc => ((eh656.2.1 c (Ne.symm (xk_nc hc rfl))).trans ((eh653.2.1 c (Ne.symm (xk_nc hc rfl))).trans ((eh650.2.1 c (Ne.symm (xk_nc hc rfl))).trans ((eh645.2.1 c (Ne.symm (xk_nc hc rfl))).trans ((eh640.2.1 c (Ne.symm (xk_nc hc rfl))).trans ((eh635.2.1 c (Ne.symm (xk_nc hc rfl))).trans ((eh630.2.1 c (Ne.symm (xk_nc hc rfl))).trans ((eh624.2.1 c (Ne.symm (xk_nc hc rfl))).trans ((eh619.2.1 c (Ne.symm (xk_nc hc rfl))).trans ((eh613.2.1 c (xk_nn hc mpt595 rfl)).trans ((eh609.2.1 c (xk_nn hc mpt595 rfl)).trans ((eh605.2.1 c (xk_nn hc mpt595 rfl)).trans (eh601.2.1 c (xk_nn hc mpt595 rfl))))))))))))))) ((eh656.2.1 125 (by decide)).trans ((eh653.2.1 125 (by decide)).trans ((eh650.2.1 125 (by decide)).trans ((eh645.2.1 125 (by decide)).trans ((eh640.2.1 125 (by decide)).trans ((eh635.2.1 125 (by decide)).trans ((eh630.2.1 125 (by decide)).trans ((eh624.2.1 125 (by decide)).trans ((eh619.2.1 125 (by decide)).trans ((eh613.2.1 125 (xk_nc mpt595 rfl)).trans ((eh609.2.1 125 (xk_nc mpt595 rfl)).trans ((eh605.2.1 125 (xk_nc mpt595 rfl)).trans (eh601.2.1 125 (xk_nc mpt595 rfl))))))))))))))), (xGR_kept I.2.1 (fun c hc => ((eh656.2.1 c (Ne.symm (xk_nc hc rfl))).trans ((eh653.2.1 c (Ne.symm (xk_nc hc rfl))).trans ((eh650.2.1 c (Ne.symm (xk_nc hc rfl))).trans ((eh645.2.1 c (Ne.symm (xk_nc hc rfl))).trans ((eh640.2.1 c (Ne.symm (xk_nc hc rfl))).trans ((eh635.2.1 c (Ne.symm (xk_nc hc rfl))).trans ((eh630.2.1 c (Ne.symm (xk_nc hc rfl))).trans ((eh624.2.1 c (Ne.symm (xk_nc hc rfl))).trans ((eh619.2.1 c (Ne.symm (xk_nc hc rfl))).trans ((eh613.2.1 c (xk_nn hc mpt595 rfl)).trans ((eh609.2.1 c (xk_nn hc mpt595 rfl)).trans ((eh605.2.1 c (xk_nn hc mpt595 rfl)).trans (eh601.2.1 c (xk_nn hc mpt595 rfl))))))))))))))) ((eh656.2.1 127 (by decide)).trans ((eh653.2.1 127 (by decide)).trans ((eh650.2.1 127 (by decide)).trans ((eh645.2.1 127 (by decide)).trans ((eh640.2.1 127 (by decide)).trans ((eh635.2.1 127 (by decide)).trans ((eh630.2.1 127 (by decide)).trans ((eh624.2.1 127 (by decide)).trans ((eh619.2.1 127 (by decide)).trans ((eh613.2.1 127 (xk_nc mpt595 rfl)).trans ((eh609.2.1 127 (xk_nc mpt595 rfl)).trans ((eh605.2.1 127 (xk_nc mpt595 rfl)).trans (eh601.2.1 127 (xk_nc mpt595 rfl))))))))))))))), ((xl_of A660 rfl).trans (xl_of eh656.1 rfl).symm)⟩
                        · refine xi_cmf (pc' := 75) kc_116_72 rfl (xc_lt_f (X := u1.toInt) (Y := 10) rfl (by decide) (by omega)) ?_
                          refine xi_aload_n (pc' := 76) (x := 0) kc_116_75 rfl rfl ?_
                          refine xi_bipush (pc' := 78) (v := (-6)) kc_116_76 rfl rfl ?_
                          refine xi_virtual (mj := 90) (as := [.int (-6)]) (st1 := []) (lv0 := [(0, .ref 0), (1, .int (-6))]) kc_116_78 rfl rfl rfl rfl rfl A28 (Nat.le_of_ble_eq_true rfl) (hJ _ _ _ _ (by decide)) (xm_le ml_90 rfl) rfl ?_
                          refine xi_iload_n (pc' := 1) (x := (-6)) kc_90_0 rfl rfl ?_
                          refine xi_ineg (pc' := 2) (v := 6) kc_90_1 rfl rfl ?_
                          refine xi_istore_n (pc' := 3) (lv' := [(2, .int 6), (0, .ref 0), (1, .int (-6))]) kc_90_2 rfl rfl (xm_lt ml_90 rfl) ?_
                          refine xi_iload_n (pc' := 4) (x := 6) kc_90_3 rfl rfl ?_
                          refine xi_iff (pc' := 7) kc_90_4 rfl rfl ?_
                          refine xi_iload_n (pc' := 8) (x := 6) kc_90_7 rfl rfl ?_
                          refine xi_aload_n (pc' := 9) (x := 0) kc_90_8 rfl rfl ?_
                          refine xi_getfield (pc' := 12) (v := .ref 94) kc_90_9 rfl rfl rfl A28 rfl ?_
                          obtain ⟨y661, A661, hy661, ry661⟩ := xk_arr K.1 xD_94
                          refine xi_arraylength (pc' := 13) (n := 7) (v := 7) kc_90_12 rfl (xl_lenI (by decide) (by decide) A661 hy661) rfl ?_
                          refine xi_cmf (pc' := 16) kc_90_13 rfl rfl ?_
                          refine xi_aload_n (pc' := 17) (x := 0) kc_90_16 rfl rfl ?_
                          refine xi_getfield (pc' := 20) (v := .ref 94) kc_90_17 rfl rfl rfl A28 rfl ?_
                          refine xi_iload_n (pc' := 21) (x := 6) kc_90_20 rfl rfl ?_
                          refine xi_dup2 (pc' := 22) kc_90_21 rfl ⟨rfl, rfl⟩ ?_
                          obtain ⟨v662, ev662, bv662, dv662⟩ := xj_get hy661 ry661 (i := 6) (by decide) (by decide)
                          refine xi_iaload (pc' := 23) (v := v662) kc_90_22 rfl A661 (by decide) rfl (xi_in (by decide) (by rw [hy661]; decide)) ev662 ?_
                          refine xi_iconst (pc' := 24) (v := 1) kc_90_23 rfl rfl ?_
                          obtain ⟨v663, ev663⟩ : ∃ q : Int32, (v662 : Int32) + 1 = q := ⟨_, rfl⟩
                          have rv663 := xc_rng v663
                          refine xi_iadd (pc' := 25) (v := v663) kc_90_24 rfl ev663 ?_
                          obtain ⟨y664, s664, hy664, ry664⟩ := xj_set (v := v663) hy661 ry661 6 (by first | omega | decide) (by first | omega | decide)
                          refine xi_iastore (pc' := 26) (x' := y664) kc_90_25 rfl A661 rfl (xi_in (by decide) (by rw [hy661]; decide)) s664 (fun hh664 eh664 => ?_)
                          have K665 := xk_pa K (xk_wa rfl) xD_94 hy664 ry664 eh664
                          refine xi_iload_n (pc' := 27) (x := (-6)) kc_90_26 rfl rfl ?_
                          refine xi_ireturn kc_90_27 mr_90 rfl ?_
                          show xw J ov 99 116 (81, [(0, .ref 0), (1, .int a19), (2, .int a21), (3, .int a23), (4, .int a25)], [.int (-6)], hh664) _
                          refine xi_ireturn kc_116_81 mr_116 rfl ?_
                          show xw J ov 100 195 (679, [(4, .int x4), (3, .ref 167), (2, .ref 115), (1, .ref 0), (0, .ref 1000000)], [.int (-6)], hh664) _
                          refine xi_aload_n (pc' := 680) (x := 115) kc_195_679 rfl rfl ?_
                          refine xi_aload_n (pc' := 681) (x := 1000000) kc_195_680 rfl rfl ?_
                          refine xi_iload (pc' := 683) (x := x4) kc_195_681 rfl rfl ?_
                          refine xi_iconst (pc' := 684) (v := 1) kc_195_683 rfl rfl ?_
                          refine xi_iadd (pc' := 685) (v := v18) kc_195_684 rfl ev18 ?_
                          refine xi_ialoadO (pc' := 686) (v := a19) kc_195_685 rfl (by decide) hov0 (xi_in (by omega) (by omega)) ea19 ?_
                          refine xi_aload_n (pc' := 687) (x := 1000000) kc_195_686 rfl rfl ?_
                          refine xi_iload (pc' := 689) (x := x4) kc_195_687 rfl rfl ?_
                          refine xi_iconst (pc' := 690) (v := 2) kc_195_689 rfl rfl ?_
                          refine xi_iadd (pc' := 691) (v := v20) kc_195_690 rfl ev20 ?_
                          refine xi_ialoadO (pc' := 692) (v := a21) kc_195_691 rfl (by decide) hov0 (xi_in (by omega) (by omega)) ea21 ?_
                          refine xi_aload_n (pc' := 693) (x := 1000000) kc_195_692 rfl rfl ?_
                          refine xi_iload (pc' := 695) (x := x4) kc_195_693 rfl rfl ?_
                          refine xi_iconst (pc' := 696) (v := 3) kc_195_695 rfl rfl ?_
                          refine xi_iadd (pc' := 697) (v := v22) kc_195_696 rfl ev22 ?_
                          refine xi_ialoadO (pc' := 698) (v := a23) kc_195_697 rfl (by decide) hov0 (xi_in (by omega) (by omega)) ea23 ?_
                          refine xi_aload_n (pc' := 699) (x := 1000000) kc_195_698 rfl rfl ?_
                          refine xi_iload (pc' := 701) (x := x4) kc_195_699 rfl rfl ?_
                          refine xi_iconst (pc' := 702) (v := 4) kc_195_701 rfl rfl ?_
                          refine xi_iadd (pc' := 703) (v := v24) kc_195_702 rfl ev24 ?_
                          refine xi_ialoadO (pc' := 704) (v := a25) kc_195_703 rfl (by decide) hov0 (xi_in (by omega) (by omega)) ea25 ?_
                          have A666 := ((eh664.2.1 115 (by decide)).trans A17)
                          refine xi_virtual (mj := 32) (as := [.int a19, .int a21, .int a23, .int a25]) (st1 := [.int (-6)]) (lv0 := [(0, .ref 115), (1, .int a19), (2, .int a21), (3, .int a23), (4, .int a25)]) kc_195_704 rfl rfl rfl rfl rfl A666 (Nat.le_of_ble_eq_true rfl) (hJ _ _ _ _ (by decide)) (xm_le ml_32 rfl) rfl ?_
                          refine xi_aload_n (pc' := 1) (x := 115) kc_32_0 rfl rfl ?_
                          refine xi_iconst (pc' := 2) (v := 0) kc_32_1 rfl rfl ?_
                          refine xi_putfield (pc' := 5) (fs' := [.int 0, .int u5, .ref 116, .ref 117, .ref 118, .ref 119, .ref 120, .ref 121, .ref 122, .ref 123, .ref 124, .ref 125, .ref 126, .ref 127, .ref 128, .ref 129, .int u6, .ref 130, .int u7, .ref 131, .ref 132, .ref 133, .ref 134, .int u1, .ref 135, .ref 136, .ref 137, .ref 138, .ref 139, .ref 140, .ref 141, .ref 142, .int u9, .int u10, .int u11, .ref 143, .ref 144, .ref 145, .ref 146, .ref 147, .ref 148, .int u12, .ref 149, .ref 150, .ref 151, .int u13, .ref 152, .ref 153, .ref 154, .ref 155, .ref 156, .ref 157, .ref 158, .ref 159, .int u14, .ref 160, .int u15, .ref 161, .ref 162, .ref 163, .ref 164, .int u16, .ref 165, .ref 166]) kc_32_2 rfl rfl rfl A666 rfl rfl rfl (Nat.le_of_ble_eq_true rfl) rfl (fun hh668 eh667 => ?_)
                          have K669 := xk_pf (k := 0) (v := 0) K665 (xk_wf rfl) xD_115 A666 rfl (by first | omega | decide) (by first | omega | decide) eh667 rfl
                          refine xi_iload_n (pc' := 6) (x := a19) kc_32_5 rfl rfl ?_
                          refine xi_iconst (pc' := 7) (v := 0) kc_32_6 rfl rfl ?_
                          refine xi_iconst (pc' := 8) (v := 3) kc_32_7 rfl rfl ?_
                          refine xi_static (mj := 11) (as := [.int a19, .int 0, .int 3]) (st1 := []) (lv0 := [(0, .int a19), (1, .int 0), (2, .int 3)]) kc_32_8 rfl rfl (Nat.le_of_ble_eq_true rfl) rfl rfl (Nat.le_of_ble_eq_true rfl) (hJ _ _ _ _ (by decide)) (xm_le ml_11 rfl) rfl ?_
                          refine xi_iload_n (pc' := 1) (x := a19) kc_11_0 rfl rfl ?_
                          refine xi_iload_n (pc' := 2) (x := 0) kc_11_1 rfl rfl ?_
                          refine xi_cmf (pc' := 5) kc_11_2 rfl (xc_lt_f (X := a19.toInt) (Y := 0) rfl (by decide) (by omega)) ?_
                          refine xi_iload_n (pc' := 6) (x := a19) kc_11_5 rfl rfl ?_
                          refine xi_iload_n (pc' := 7) (x := 3) kc_11_6 rfl rfl ?_
                          refine xi_cmf (pc' := 10) kc_11_7 rfl (xc_gt_f (X := a19.toInt) (Y := 3) rfl (by decide) (by omega)) ?_
                          refine xi_iconst (pc' := 11) (v := 1) kc_11_10 rfl rfl ?_
                          refine xi_goto (pc' := 15) kc_11_11 rfl ?_
                          refine xi_ireturn kc_11_15 mr_11 rfl ?_
                          show xw J ov 99 32 (11, [(0, .ref 115), (1, .int a19), (2, .int a21), (3, .int a23), (4, .int a25)], [.int 1], hh668) _
                          refine xi_ift (pc' := 21) kc_32_11 rfl rfl ?_
                          refine xi_iload_n (pc' := 22) (x := a19) kc_32_21 rfl rfl ?_
                          refine xi_iconst (pc' := 23) (v := 3) kc_32_22 rfl rfl ?_
                          refine xi_cmt (pc' := 36) kc_32_23 rfl (xc_ne_t (X := a19.toInt) (Y := 3) rfl (by decide) (by omega)) ?_
                          refine xi_aload_n (pc' := 37) (x := 115) kc_32_36 rfl rfl ?_
                          refine xi_iload_n (pc' := 38) (x := a21) kc_32_37 rfl rfl ?_
                          refine xi_virtual (mj := 31) (as := [.int a21]) (st1 := []) (lv0 := [(0, .ref 115), (1, .int a21)]) kc_32_38 rfl rfl rfl rfl rfl eh667.1 (Nat.le_of_ble_eq_true rfl) (hJ _ _ _ _ (by decide)) (xm_le ml_31 rfl) rfl ?_
                          refine xi_iload_n (pc' := 1) (x := a21) kc_31_0 rfl rfl ?_
                          refine xi_static (mj := 24) (as := [.int a21]) (st1 := []) (lv0 := [(0, .int a21)]) kc_31_1 rfl rfl (Nat.le_of_ble_eq_true rfl) rfl rfl (Nat.le_of_ble_eq_true rfl) (hJ _ _ _ _ (by decide)) (xm_le ml_24 rfl) rfl ?_
                          refine xi_iload_n (pc' := 1) (x := a21) kc_24_0 rfl rfl ?_
                          refine xi_iconst (pc' := 2) (v := 0) kc_24_1 rfl rfl ?_
                          refine xi_bipush (pc' := 4) (v := 11) kc_24_2 rfl rfl ?_
                          refine xi_static (mj := 11) (as := [.int a21, .int 0, .int 11]) (st1 := []) (lv0 := [(0, .int a21), (1, .int 0), (2, .int 11)]) kc_24_4 rfl rfl (Nat.le_of_ble_eq_true rfl) rfl rfl (Nat.le_of_ble_eq_true rfl) (hJ _ _ _ _ (by decide)) (xm_le ml_11 rfl) rfl ?_
                          refine xi_iload_n (pc' := 1) (x := a21) kc_11_0 rfl rfl ?_
                          refine xi_iload_n (pc' := 2) (x := 0) kc_11_1 rfl rfl ?_
                          refine xi_cmf (pc' := 5) kc_11_2 rfl (xc_lt_f (X := a21.toInt) (Y := 0) rfl (by decide) (by omega)) ?_
                          refine xi_iload_n (pc' := 6) (x := a21) kc_11_5 rfl rfl ?_
                          refine xi_iload_n (pc' := 7) (x := 11) kc_11_6 rfl rfl ?_
                          refine xi_cmf (pc' := 10) kc_11_7 rfl (xc_gt_f (X := a21.toInt) (Y := 11) rfl (by decide) (by omega)) ?_
                          refine xi_iconst (pc' := 11) (v := 1) kc_11_10 rfl rfl ?_
                          refine xi_goto (pc' := 15) kc_11_11 rfl ?_
                          refine xi_ireturn kc_11_15 mr_11 rfl ?_
                          show xw J ov 97 24 (7, [(0, .int a21)], [.int 1], hh668) _
                          refine xi_ireturn kc_24_7 mr_24 rfl ?_
                          show xw J ov 98 31 (4, [(0, .ref 115), (1, .int a21)], [.int 1], hh668) _
                          refine xi_iff (pc' := 7) kc_31_4 rfl rfl ?_
                          refine xi_aload_n (pc' := 8) (x := 115) kc_31_7 rfl rfl ?_
                          refine xi_getfield (pc' := 11) (v := .ref 125) kc_31_8 rfl rfl rfl eh667.1 rfl ?_
                          refine xi_iload_n (pc' := 12) (x := a21) kc_31_11 rfl rfl ?_
                          have A670 := ((eh667.2.1 125 (by decide)).trans ((eh664.2.1 125 (by decide)).trans A313))
                          refine xi_iaload (pc' := 13) (v := u307) kc_31_12 rfl A670 (by decide) rfl (xi_in (by omega) (by rw [hy313]; omega)) HG314 ?_
                          refine xi_iff (pc' := 16) kc_31_13 rfl (xc_lt_f (X := u307.toInt) (Y := 0) rfl (by decide) (by omega)) ?_
                          refine xi_iconst (pc' := 17) (v := 1) kc_31_16 rfl rfl ?_
                          refine xi_goto (pc' := 21) kc_31_17 rfl ?_
                          refine xi_ireturn kc_31_21 mr_31 rfl ?_
                          show xw J ov 99 32 (41, [(0, .ref 115), (1, .int a19), (2, .int a21), (3, .int a23), (4, .int a25)], [.int 1], hh668) _
                          refine xi_iff (pc' := 44) kc_32_41 rfl rfl ?_
                          refine xi_iload_n (pc' := 45) (x := a19) kc_32_44 rfl rfl ?_
                          refine xi_ift (pc' := 63) kc_32_45 rfl (xc_ne_t (X := a19.toInt) (Y := 0) rfl (by decide) (by omega)) ?_
                          refine xi_iload_n (pc' := 64) (x := a23) kc_32_63 rfl rfl ?_
                          refine xi_iconst (pc' := 65) (v := 1) kc_32_64 rfl rfl ?_
                          refine xi_cmf (pc' := 68) kc_32_65 rfl (xc_lt_f (X := a23.toInt) (Y := 1) rfl (by decide) (by omega)) ?_
                          refine xi_iload (pc' := 70) (x := a25) kc_32_68 rfl rfl ?_
                          refine xi_ift (pc' := 80) kc_32_70 rfl (xc_ge_t (X := a25.toInt) (Y := 0) rfl (by decide) (by omega)) ?_
                          refine xi_iload_n (pc' := 81) (x := a23) kc_32_80 rfl rfl ?_
                          refine xi_bipush (pc' := 83) (v := 99) kc_32_81 rfl rfl ?_
                          refine xi_cmf (pc' := 86) kc_32_83 rfl (xc_gt_f (X := a23.toInt) (Y := 99) rfl (by decide) (by omega)) ?_
                          refine xi_iload (pc' := 88) (x := a25) kc_32_86 rfl rfl ?_
                          refine xi_sipush (pc' := 91) (v := 600) kc_32_88 rfl rfl ?_
                          refine xi_cmf (pc' := 94) kc_32_91 rfl (xc_gt_f (X := a25.toInt) (Y := 600) rfl (by decide) (by omega)) ?_
                          refine xi_aload_n (pc' := 95) (x := 115) kc_32_94 rfl rfl ?_
                          refine xi_getfield (pc' := 98) (v := .int u1) kc_32_95 rfl rfl rfl eh667.1 rfl ?_
                          refine xi_bipush (pc' := 100) (v := 10) kc_32_98 rfl rfl ?_
                          refine xi_cmf (pc' := 103) kc_32_100 rfl (xc_ne_f (X := u1.toInt) (Y := 10) rfl (by decide) (by omega)) ?_
                          refine xi_aload_n (pc' := 104) (x := 115) kc_32_103 rfl rfl ?_
                          refine xi_bipush (pc' := 106) (v := (-6)) kc_32_104 rfl rfl ?_
                          refine xi_virtual (mj := 12) (as := [.int (-6)]) (st1 := []) (lv0 := [(0, .ref 115), (1, .int (-6))]) kc_32_106 rfl rfl rfl rfl rfl eh667.1 (Nat.le_of_ble_eq_true rfl) (hJ _ _ _ _ (by decide)) (xm_le ml_12 rfl) rfl ?_
                          refine xi_aload_n (pc' := 1) (x := 115) kc_12_0 rfl rfl ?_
                          refine xi_getfield (pc' := 4) (v := .ref 140) kc_12_1 rfl rfl rfl eh667.1 rfl ?_
                          refine xi_iload_n (pc' := 5) (x := (-6)) kc_12_4 rfl rfl ?_
                          refine xi_ineg (pc' := 6) (v := 6) kc_12_5 rfl rfl ?_
                          refine xi_dup2 (pc' := 7) kc_12_6 rfl ⟨rfl, rfl⟩ ?_
                          obtain ⟨y671, A671, hy671, ry671⟩ := xk_arr K.1 xD_140
                          obtain ⟨v672, ev672, bv672, dv672⟩ := xj_get hy671 ry671 (i := 6) (by decide) (by decide)
                          have A673 := ((eh667.2.1 140 (by decide)).trans ((eh664.2.1 140 (by decide)).trans A671))
                          refine xi_iaload (pc' := 8) (v := v672) kc_12_7 rfl A673 (by decide) rfl (xi_in (by decide) (by rw [hy671]; decide)) ev672 ?_
                          refine xi_iconst (pc' := 9) (v := 1) kc_12_8 rfl rfl ?_
                          obtain ⟨v674, ev674⟩ : ∃ q : Int32, (v672 : Int32) + 1 = q := ⟨_, rfl⟩
                          have rv674 := xc_rng v674
                          refine xi_iadd (pc' := 10) (v := v674) kc_12_9 rfl ev674 ?_
                          obtain ⟨y675, s675, hy675, ry675⟩ := xj_set (v := v674) hy671 ry671 6 (by first | omega | decide) (by first | omega | decide)
                          refine xi_iastore (pc' := 11) (x' := y675) kc_12_10 rfl A673 rfl (xi_in (by decide) (by rw [hy671]; decide)) s675 (fun hh675 eh675 => ?_)
                          have K676 := xk_pa K669 (xk_wa rfl) xD_140 hy675 ry675 eh675
                          refine xi_iload_n (pc' := 12) (x := (-6)) kc_12_11 rfl rfl ?_
                          refine xi_ireturn kc_12_12 mr_12 rfl ?_
                          show xw J ov 99 32 (109, [(0, .ref 115), (1, .int a19), (2, .int a21), (3, .int a23), (4, .int a25)], [.int (-6)], hh675) _
                          refine xi_ireturn kc_32_109 mr_32 rfl ?_
                          show xw J ov 100 195 (707, [(4, .int x4), (3, .ref 167), (2, .ref 115), (1, .ref 0), (0, .ref 1000000)], [.int (-6), .int (-6)], hh675) _
                          refine xi_cmt (pc' := 1501) kc_195_707 rfl rfl ?_
                          obtain ⟨v677, ev677⟩ : ∃ q : Int32, x4 + 6 = q := ⟨_, rfl⟩
                          have zv677 : v677.toInt = (x4.toInt + 6) := by rw [← ev677]; exact (xz_add (X := x4.toInt) (Y := 6) rfl (by decide) (by omega) (by omega)).trans (by omega)
                          refine xi_iinc (pc' := 1504) (x := x4) (v := v677) (lv' := [(4, .int v677), (3, .ref 167), (2, .ref 115), (1, .ref 0), (0, .ref 1000000)]) kc_195_1501 rfl rfl ev677 rfl (xm_lt ml_195 rfl) ?_
                          refine xi_goto (pc' := 23) kc_195_1504 rfl ?_
                          have A678 := ((eh675.2.1 1 (by decide)).trans ((eh667.2.1 1 (by decide)).trans ((eh664.2.1 1 (by decide)).trans A3)))
                          have A679 := ((eh675.2.1 115 (by decide)).trans eh667.1)
                          exact kk v677 hh675 (by omega) K676 ⟨(xGR_kept I.1 (fun c hc => ((eh675.2.1 c (Ne.symm (xk_nc hc rfl))).trans ((eh667.2.1 c (Ne.symm (xk_nc hc rfl))).trans (eh664.2.1 c (Ne.symm (xk_nc hc rfl)))))) ((eh675.2.1 125 (by decide)).trans ((eh667.2.1 125 (by decide)).trans (eh664.2.1 125 (by decide))))), (xGR_kept I.2.1 (fun c hc => ((eh675.2.1 c (Ne.symm (xk_nc hc rfl))).trans ((eh667.2.1 c (Ne.symm (xk_nc hc rfl))).trans (eh664.2.1 c (Ne.symm (xk_nc hc rfl)))))) ((eh675.2.1 127 (by decide)).trans ((eh667.2.1 127 (by decide)).trans (eh664.2.1 127 (by decide))))), ((xl_of A678 rfl).trans (xl_of A679 rfl).symm)⟩
                  · refine xi_iff (pc' := 42) kc_116_39 rfl (xc_ge_f (X := a25.toInt) (Y := 0) rfl (by decide) (by omega)) ?_
                    refine xi_aload_n (pc' := 43) (x := 0) kc_116_42 rfl rfl ?_
                    refine xi_bipush (pc' := 45) (v := (-4)) kc_116_43 rfl rfl ?_
                    refine xi_virtual (mj := 90) (as := [.int (-4)]) (st1 := []) (lv0 := [(0, .ref 0), (1, .int (-4))]) kc_116_45 rfl rfl rfl rfl rfl A28 (Nat.le_of_ble_eq_true rfl) (hJ _ _ _ _ (by decide)) (xm_le ml_90 rfl) rfl ?_
                    refine xi_iload_n (pc' := 1) (x := (-4)) kc_90_0 rfl rfl ?_
                    refine xi_ineg (pc' := 2) (v := 4) kc_90_1 rfl rfl ?_
                    refine xi_istore_n (pc' := 3) (lv' := [(2, .int 4), (0, .ref 0), (1, .int (-4))]) kc_90_2 rfl rfl (xm_lt ml_90 rfl) ?_
                    refine xi_iload_n (pc' := 4) (x := 4) kc_90_3 rfl rfl ?_
                    refine xi_iff (pc' := 7) kc_90_4 rfl rfl ?_
                    refine xi_iload_n (pc' := 8) (x := 4) kc_90_7 rfl rfl ?_
                    refine xi_aload_n (pc' := 9) (x := 0) kc_90_8 rfl rfl ?_
                    refine xi_getfield (pc' := 12) (v := .ref 94) kc_90_9 rfl rfl rfl A28 rfl ?_
                    obtain ⟨y680, A680, hy680, ry680⟩ := xk_arr K.1 xD_94
                    refine xi_arraylength (pc' := 13) (n := 7) (v := 7) kc_90_12 rfl (xl_lenI (by decide) (by decide) A680 hy680) rfl ?_
                    refine xi_cmf (pc' := 16) kc_90_13 rfl rfl ?_
                    refine xi_aload_n (pc' := 17) (x := 0) kc_90_16 rfl rfl ?_
                    refine xi_getfield (pc' := 20) (v := .ref 94) kc_90_17 rfl rfl rfl A28 rfl ?_
                    refine xi_iload_n (pc' := 21) (x := 4) kc_90_20 rfl rfl ?_
                    refine xi_dup2 (pc' := 22) kc_90_21 rfl ⟨rfl, rfl⟩ ?_
                    obtain ⟨v681, ev681, bv681, dv681⟩ := xj_get hy680 ry680 (i := 4) (by decide) (by decide)
                    refine xi_iaload (pc' := 23) (v := v681) kc_90_22 rfl A680 (by decide) rfl (xi_in (by decide) (by rw [hy680]; decide)) ev681 ?_
                    refine xi_iconst (pc' := 24) (v := 1) kc_90_23 rfl rfl ?_
                    obtain ⟨v682, ev682⟩ : ∃ q : Int32, (v681 : Int32) + 1 = q := ⟨_, rfl⟩
                    have rv682 := xc_rng v682
                    refine xi_iadd (pc' := 25) (v := v682) kc_90_24 rfl ev682 ?_
                    obtain ⟨y683, s683, hy683, ry683⟩ := xj_set (v := v682) hy680 ry680 4 (by first | omega | decide) (by first | omega | decide)
                    refine xi_iastore (pc' := 26) (x' := y683) kc_90_25 rfl A680 rfl (xi_in (by decide) (by rw [hy680]; decide)) s683 (fun hh683 eh683 => ?_)
                    have K684 := xk_pa K (xk_wa rfl) xD_94 hy683 ry683 eh683
                    refine xi_iload_n (pc' := 27) (x := (-4)) kc_90_26 rfl rfl ?_
                    refine xi_ireturn kc_90_27 mr_90 rfl ?_
                    show xw J ov 99 116 (48, [(0, .ref 0), (1, .int a19), (2, .int a21), (3, .int a23), (4, .int a25)], [.int (-4)], hh683) _
                    refine xi_ireturn kc_116_48 mr_116 rfl ?_
                    show xw J ov 100 195 (679, [(4, .int x4), (3, .ref 167), (2, .ref 115), (1, .ref 0), (0, .ref 1000000)], [.int (-4)], hh683) _
                    refine xi_aload_n (pc' := 680) (x := 115) kc_195_679 rfl rfl ?_
                    refine xi_aload_n (pc' := 681) (x := 1000000) kc_195_680 rfl rfl ?_
                    refine xi_iload (pc' := 683) (x := x4) kc_195_681 rfl rfl ?_
                    refine xi_iconst (pc' := 684) (v := 1) kc_195_683 rfl rfl ?_
                    refine xi_iadd (pc' := 685) (v := v18) kc_195_684 rfl ev18 ?_
                    refine xi_ialoadO (pc' := 686) (v := a19) kc_195_685 rfl (by decide) hov0 (xi_in (by omega) (by omega)) ea19 ?_
                    refine xi_aload_n (pc' := 687) (x := 1000000) kc_195_686 rfl rfl ?_
                    refine xi_iload (pc' := 689) (x := x4) kc_195_687 rfl rfl ?_
                    refine xi_iconst (pc' := 690) (v := 2) kc_195_689 rfl rfl ?_
                    refine xi_iadd (pc' := 691) (v := v20) kc_195_690 rfl ev20 ?_
                    refine xi_ialoadO (pc' := 692) (v := a21) kc_195_691 rfl (by decide) hov0 (xi_in (by omega) (by omega)) ea21 ?_
                    refine xi_aload_n (pc' := 693) (x := 1000000) kc_195_692 rfl rfl ?_
                    refine xi_iload (pc' := 695) (x := x4) kc_195_693 rfl rfl ?_
                    refine xi_iconst (pc' := 696) (v := 3) kc_195_695 rfl rfl ?_
                    refine xi_iadd (pc' := 697) (v := v22) kc_195_696 rfl ev22 ?_
                    refine xi_ialoadO (pc' := 698) (v := a23) kc_195_697 rfl (by decide) hov0 (xi_in (by omega) (by omega)) ea23 ?_
                    refine xi_aload_n (pc' := 699) (x := 1000000) kc_195_698 rfl rfl ?_
                    refine xi_iload (pc' := 701) (x := x4) kc_195_699 rfl rfl ?_
                    refine xi_iconst (pc' := 702) (v := 4) kc_195_701 rfl rfl ?_
                    refine xi_iadd (pc' := 703) (v := v24) kc_195_702 rfl ev24 ?_
                    refine xi_ialoadO (pc' := 704) (v := a25) kc_195_703 rfl (by decide) hov0 (xi_in (by omega) (by omega)) ea25 ?_
                    have A685 := ((eh683.2.1 115 (by decide)).trans A17)
                    refine xi_virtual (mj := 32) (as := [.int a19, .int a21, .int a23, .int a25]) (st1 := [.int (-4)]) (lv0 := [(0, .ref 115), (1, .int a19), (2, .int a21), (3, .int a23), (4, .int a25)]) kc_195_704 rfl rfl rfl rfl rfl A685 (Nat.le_of_ble_eq_true rfl) (hJ _ _ _ _ (by decide)) (xm_le ml_32 rfl) rfl ?_
                    refine xi_aload_n (pc' := 1) (x := 115) kc_32_0 rfl rfl ?_
                    refine xi_iconst (pc' := 2) (v := 0) kc_32_1 rfl rfl ?_
                    refine xi_putfield (pc' := 5) (fs' := [.int 0, .int u5, .ref 116, .ref 117, .ref 118, .ref 119, .ref 120, .ref 121, .ref 122, .ref 123, .ref 124, .ref 125, .ref 126, .ref 127, .ref 128, .ref 129, .int u6, .ref 130, .int u7, .ref 131, .ref 132, .ref 133, .ref 134, .int u1, .ref 135, .ref 136, .ref 137, .ref 138, .ref 139, .ref 140, .ref 141, .ref 142, .int u9, .int u10, .int u11, .ref 143, .ref 144, .ref 145, .ref 146, .ref 147, .ref 148, .int u12, .ref 149, .ref 150, .ref 151, .int u13, .ref 152, .ref 153, .ref 154, .ref 155, .ref 156, .ref 157, .ref 158, .ref 159, .int u14, .ref 160, .int u15, .ref 161, .ref 162, .ref 163, .ref 164, .int u16, .ref 165, .ref 166]) kc_32_2 rfl rfl rfl A685 rfl rfl rfl (Nat.le_of_ble_eq_true rfl) rfl (fun hh687 eh686 => ?_)
                    have K688 := xk_pf (k := 0) (v := 0) K684 (xk_wf rfl) xD_115 A685 rfl (by first | omega | decide) (by first | omega | decide) eh686 rfl
                    refine xi_iload_n (pc' := 6) (x := a19) kc_32_5 rfl rfl ?_
                    refine xi_iconst (pc' := 7) (v := 0) kc_32_6 rfl rfl ?_
                    refine xi_iconst (pc' := 8) (v := 3) kc_32_7 rfl rfl ?_
                    refine xi_static (mj := 11) (as := [.int a19, .int 0, .int 3]) (st1 := []) (lv0 := [(0, .int a19), (1, .int 0), (2, .int 3)]) kc_32_8 rfl rfl (Nat.le_of_ble_eq_true rfl) rfl rfl (Nat.le_of_ble_eq_true rfl) (hJ _ _ _ _ (by decide)) (xm_le ml_11 rfl) rfl ?_
                    refine xi_iload_n (pc' := 1) (x := a19) kc_11_0 rfl rfl ?_
                    refine xi_iload_n (pc' := 2) (x := 0) kc_11_1 rfl rfl ?_
                    refine xi_cmf (pc' := 5) kc_11_2 rfl (xc_lt_f (X := a19.toInt) (Y := 0) rfl (by decide) (by omega)) ?_
                    refine xi_iload_n (pc' := 6) (x := a19) kc_11_5 rfl rfl ?_
                    refine xi_iload_n (pc' := 7) (x := 3) kc_11_6 rfl rfl ?_
                    refine xi_cmf (pc' := 10) kc_11_7 rfl (xc_gt_f (X := a19.toInt) (Y := 3) rfl (by decide) (by omega)) ?_
                    refine xi_iconst (pc' := 11) (v := 1) kc_11_10 rfl rfl ?_
                    refine xi_goto (pc' := 15) kc_11_11 rfl ?_
                    refine xi_ireturn kc_11_15 mr_11 rfl ?_
                    show xw J ov 99 32 (11, [(0, .ref 115), (1, .int a19), (2, .int a21), (3, .int a23), (4, .int a25)], [.int 1], hh687) _
                    refine xi_ift (pc' := 21) kc_32_11 rfl rfl ?_
                    refine xi_iload_n (pc' := 22) (x := a19) kc_32_21 rfl rfl ?_
                    refine xi_iconst (pc' := 23) (v := 3) kc_32_22 rfl rfl ?_
                    refine xi_cmt (pc' := 36) kc_32_23 rfl (xc_ne_t (X := a19.toInt) (Y := 3) rfl (by decide) (by omega)) ?_
                    refine xi_aload_n (pc' := 37) (x := 115) kc_32_36 rfl rfl ?_
                    refine xi_iload_n (pc' := 38) (x := a21) kc_32_37 rfl rfl ?_
                    refine xi_virtual (mj := 31) (as := [.int a21]) (st1 := []) (lv0 := [(0, .ref 115), (1, .int a21)]) kc_32_38 rfl rfl rfl rfl rfl eh686.1 (Nat.le_of_ble_eq_true rfl) (hJ _ _ _ _ (by decide)) (xm_le ml_31 rfl) rfl ?_
                    refine xi_iload_n (pc' := 1) (x := a21) kc_31_0 rfl rfl ?_
                    refine xi_static (mj := 24) (as := [.int a21]) (st1 := []) (lv0 := [(0, .int a21)]) kc_31_1 rfl rfl (Nat.le_of_ble_eq_true rfl) rfl rfl (Nat.le_of_ble_eq_true rfl) (hJ _ _ _ _ (by decide)) (xm_le ml_24 rfl) rfl ?_
                    refine xi_iload_n (pc' := 1) (x := a21) kc_24_0 rfl rfl ?_
                    refine xi_iconst (pc' := 2) (v := 0) kc_24_1 rfl rfl ?_
                    refine xi_bipush (pc' := 4) (v := 11) kc_24_2 rfl rfl ?_
                    refine xi_static (mj := 11) (as := [.int a21, .int 0, .int 11]) (st1 := []) (lv0 := [(0, .int a21), (1, .int 0), (2, .int 11)]) kc_24_4 rfl rfl (Nat.le_of_ble_eq_true rfl) rfl rfl (Nat.le_of_ble_eq_true rfl) (hJ _ _ _ _ (by decide)) (xm_le ml_11 rfl) rfl ?_
                    refine xi_iload_n (pc' := 1) (x := a21) kc_11_0 rfl rfl ?_
                    refine xi_iload_n (pc' := 2) (x := 0) kc_11_1 rfl rfl ?_
                    refine xi_cmf (pc' := 5) kc_11_2 rfl (xc_lt_f (X := a21.toInt) (Y := 0) rfl (by decide) (by omega)) ?_
                    refine xi_iload_n (pc' := 6) (x := a21) kc_11_5 rfl rfl ?_
                    refine xi_iload_n (pc' := 7) (x := 11) kc_11_6 rfl rfl ?_
                    refine xi_cmf (pc' := 10) kc_11_7 rfl (xc_gt_f (X := a21.toInt) (Y := 11) rfl (by decide) (by omega)) ?_
                    refine xi_iconst (pc' := 11) (v := 1) kc_11_10 rfl rfl ?_
                    refine xi_goto (pc' := 15) kc_11_11 rfl ?_
                    refine xi_ireturn kc_11_15 mr_11 rfl ?_
                    show xw J ov 97 24 (7, [(0, .int a21)], [.int 1], hh687) _
                    refine xi_ireturn kc_24_7 mr_24 rfl ?_
                    show xw J ov 98 31 (4, [(0, .ref 115), (1, .int a21)], [.int 1], hh687) _
                    refine xi_iff (pc' := 7) kc_31_4 rfl rfl ?_
                    refine xi_aload_n (pc' := 8) (x := 115) kc_31_7 rfl rfl ?_
                    refine xi_getfield (pc' := 11) (v := .ref 125) kc_31_8 rfl rfl rfl eh686.1 rfl ?_
                    refine xi_iload_n (pc' := 12) (x := a21) kc_31_11 rfl rfl ?_
                    have A689 := ((eh686.2.1 125 (by decide)).trans ((eh683.2.1 125 (by decide)).trans A313))
                    refine xi_iaload (pc' := 13) (v := u307) kc_31_12 rfl A689 (by decide) rfl (xi_in (by omega) (by rw [hy313]; omega)) HG314 ?_
                    refine xi_iff (pc' := 16) kc_31_13 rfl (xc_lt_f (X := u307.toInt) (Y := 0) rfl (by decide) (by omega)) ?_
                    refine xi_iconst (pc' := 17) (v := 1) kc_31_16 rfl rfl ?_
                    refine xi_goto (pc' := 21) kc_31_17 rfl ?_
                    refine xi_ireturn kc_31_21 mr_31 rfl ?_
                    show xw J ov 99 32 (41, [(0, .ref 115), (1, .int a19), (2, .int a21), (3, .int a23), (4, .int a25)], [.int 1], hh687) _
                    refine xi_iff (pc' := 44) kc_32_41 rfl rfl ?_
                    refine xi_iload_n (pc' := 45) (x := a19) kc_32_44 rfl rfl ?_
                    refine xi_ift (pc' := 63) kc_32_45 rfl (xc_ne_t (X := a19.toInt) (Y := 0) rfl (by decide) (by omega)) ?_
                    refine xi_iload_n (pc' := 64) (x := a23) kc_32_63 rfl rfl ?_
                    refine xi_iconst (pc' := 65) (v := 1) kc_32_64 rfl rfl ?_
                    refine xi_cmf (pc' := 68) kc_32_65 rfl (xc_lt_f (X := a23.toInt) (Y := 1) rfl (by decide) (by omega)) ?_
                    refine xi_iload (pc' := 70) (x := a25) kc_32_68 rfl rfl ?_
                    refine xi_iff (pc' := 73) kc_32_70 rfl (xc_ge_f (X := a25.toInt) (Y := 0) rfl (by decide) (by omega)) ?_
                    refine xi_aload_n (pc' := 74) (x := 115) kc_32_73 rfl rfl ?_
                    refine xi_bipush (pc' := 76) (v := (-4)) kc_32_74 rfl rfl ?_
                    refine xi_virtual (mj := 12) (as := [.int (-4)]) (st1 := []) (lv0 := [(0, .ref 115), (1, .int (-4))]) kc_32_76 rfl rfl rfl rfl rfl eh686.1 (Nat.le_of_ble_eq_true rfl) (hJ _ _ _ _ (by decide)) (xm_le ml_12 rfl) rfl ?_
                    refine xi_aload_n (pc' := 1) (x := 115) kc_12_0 rfl rfl ?_
                    refine xi_getfield (pc' := 4) (v := .ref 140) kc_12_1 rfl rfl rfl eh686.1 rfl ?_
                    refine xi_iload_n (pc' := 5) (x := (-4)) kc_12_4 rfl rfl ?_
                    refine xi_ineg (pc' := 6) (v := 4) kc_12_5 rfl rfl ?_
                    refine xi_dup2 (pc' := 7) kc_12_6 rfl ⟨rfl, rfl⟩ ?_
                    obtain ⟨y690, A690, hy690, ry690⟩ := xk_arr K.1 xD_140
                    obtain ⟨v691, ev691, bv691, dv691⟩ := xj_get hy690 ry690 (i := 4) (by decide) (by decide)
                    have A692 := ((eh686.2.1 140 (by decide)).trans ((eh683.2.1 140 (by decide)).trans A690))
                    refine xi_iaload (pc' := 8) (v := v691) kc_12_7 rfl A692 (by decide) rfl (xi_in (by decide) (by rw [hy690]; decide)) ev691 ?_
                    refine xi_iconst (pc' := 9) (v := 1) kc_12_8 rfl rfl ?_
                    obtain ⟨v693, ev693⟩ : ∃ q : Int32, (v691 : Int32) + 1 = q := ⟨_, rfl⟩
                    have rv693 := xc_rng v693
                    refine xi_iadd (pc' := 10) (v := v693) kc_12_9 rfl ev693 ?_
                    obtain ⟨y694, s694, hy694, ry694⟩ := xj_set (v := v693) hy690 ry690 4 (by first | omega | decide) (by first | omega | decide)
                    refine xi_iastore (pc' := 11) (x' := y694) kc_12_10 rfl A692 rfl (xi_in (by decide) (by rw [hy690]; decide)) s694 (fun hh694 eh694 => ?_)
                    have K695 := xk_pa K688 (xk_wa rfl) xD_140 hy694 ry694 eh694
                    refine xi_iload_n (pc' := 12) (x := (-4)) kc_12_11 rfl rfl ?_
                    refine xi_ireturn kc_12_12 mr_12 rfl ?_
                    show xw J ov 99 32 (79, [(0, .ref 115), (1, .int a19), (2, .int a21), (3, .int a23), (4, .int a25)], [.int (-4)], hh694) _
                    refine xi_ireturn kc_32_79 mr_32 rfl ?_
                    show xw J ov 100 195 (707, [(4, .int x4), (3, .ref 167), (2, .ref 115), (1, .ref 0), (0, .ref 1000000)], [.int (-4), .int (-4)], hh694) _
                    refine xi_cmt (pc' := 1501) kc_195_707 rfl rfl ?_
                    obtain ⟨v696, ev696⟩ : ∃ q : Int32, x4 + 6 = q := ⟨_, rfl⟩
                    have zv696 : v696.toInt = (x4.toInt + 6) := by rw [← ev696]; exact (xz_add (X := x4.toInt) (Y := 6) rfl (by decide) (by omega) (by omega)).trans (by omega)
                    refine xi_iinc (pc' := 1504) (x := x4) (v := v696) (lv' := [(4, .int v696), (3, .ref 167), (2, .ref 115), (1, .ref 0), (0, .ref 1000000)]) kc_195_1501 rfl rfl ev696 rfl (xm_lt ml_195 rfl) ?_
                    refine xi_goto (pc' := 23) kc_195_1504 rfl ?_
                    have A697 := ((eh694.2.1 1 (by decide)).trans ((eh686.2.1 1 (by decide)).trans ((eh683.2.1 1 (by decide)).trans A3)))
                    have A698 := ((eh694.2.1 115 (by decide)).trans eh686.1)
                    exact kk v696 hh694 (by omega) K695 ⟨(xGR_kept I.1 (fun c hc => ((eh694.2.1 c (Ne.symm (xk_nc hc rfl))).trans ((eh686.2.1 c (Ne.symm (xk_nc hc rfl))).trans (eh683.2.1 c (Ne.symm (xk_nc hc rfl)))))) ((eh694.2.1 125 (by decide)).trans ((eh686.2.1 125 (by decide)).trans (eh683.2.1 125 (by decide))))), (xGR_kept I.2.1 (fun c hc => ((eh694.2.1 c (Ne.symm (xk_nc hc rfl))).trans ((eh686.2.1 c (Ne.symm (xk_nc hc rfl))).trans (eh683.2.1 c (Ne.symm (xk_nc hc rfl)))))) ((eh694.2.1 127 (by decide)).trans ((eh686.2.1 127 (by decide)).trans (eh683.2.1 127 (by decide))))), ((xl_of A697 rfl).trans (xl_of A698 rfl).symm)⟩
set_option maxHeartbeats 8000000 in
theorem lc_12 {J : xe_J} {ov : List (List Int32)} (hJ : ∀ d mj as h, mj ≠ xe_loff → J d mj as h = none) (hov1 : ov[1]? = some [10, 0, 0, 0, 0, 0]) (hov2 : ov[2]? = some [99, 30, 50, 50, 1, 99999]) {xs : List Int32} (hov0 : ov[0]? = some xs) {Q : Option Value → xe_H → Prop} {h : xe_H} {x4 : Int32} (hi0 : 0 ≤ x4.toInt) (hi1 : x4.toInt + 6 ≤ xs.length) (hi2 : x4.toInt ≤ 3066) (T : xt h) (kk : ∀ (i : Int32) (h' : xe_H), i.toInt = x4.toInt + 6 → xk [(29, 0), (31, 0), (33, 0), (35, 0), (37, 0), (39, 0), (41, 0), (43, 0), (45, 0), (47, 0), (49, 0), (51, 0), (125, 0), (29, 2), (31, 2), (33, 2), (35, 2), (37, 2), (39, 2), (41, 2), (43, 2), (45, 2), (47, 2), (49, 2), (51, 2), (127, 0), (1, 5), (115, 23)] h h' → xw J ov 100 195 (23, [(4, .int i), (3, .ref 167), (2, .ref 115), (1, .ref 0), (0, .ref 1000000)], [], h') Q) : xw J ov 100 195 (712, [(4, .int x4), (3, .ref 167), (2, .ref 115), (1, .ref 0), (0, .ref 1000000)], [], h) Q := by
  have K : xk [(29, 0), (31, 0), (33, 0), (35, 0), (37, 0), (39, 0), (41, 0), (43, 0), (45, 0), (47, 0), (49, 0), (51, 0), (125, 0), (29, 2), (31, 2), (33, 2), (35, 2), (37, 2), (39, 2), (41, 2), (43, 2), (45, 2), (47, 2), (49, 2), (51, 2), (127, 0), (1, 5), (115, 23)] h h := xk_re T
  refine xi_aload_n (pc' := 713) (x := 0) kc_195_712 rfl rfl ?_
  refine xi_aload_n (pc' := 714) (x := 1000000) kc_195_713 rfl rfl ?_
  refine xi_iload (pc' := 716) (x := x4) kc_195_714 rfl rfl ?_
  refine xi_iconst (pc' := 717) (v := 1) kc_195_716 rfl rfl ?_
  obtain ⟨v1, ev1⟩ : ∃ q : Int32, x4 + 1 = q := ⟨_, rfl⟩
  have zv1 : v1.toInt = (x4.toInt + 1) := by rw [← ev1]; exact (xz_add (X := x4.toInt) (Y := 1) rfl (by decide) (by omega) (by omega)).trans (by omega)
  refine xi_iadd (pc' := 718) (v := v1) kc_195_717 rfl ev1 ?_
  obtain ⟨a2, ea2⟩ : ∃ q : Int32, xs.getD (Int32.toNatClampNeg v1) 0 = q := ⟨_, rfl⟩
  have ra2 := xc_rng a2
  refine xi_ialoadO (pc' := 719) (v := a2) kc_195_718 rfl (by decide) hov0 (xi_in (by omega) (by omega)) ea2 ?_
  refine xi_aload_n (pc' := 720) (x := 1000000) kc_195_719 rfl rfl ?_
  refine xi_iload (pc' := 722) (x := x4) kc_195_720 rfl rfl ?_
  refine xi_iconst (pc' := 723) (v := 2) kc_195_722 rfl rfl ?_
  obtain ⟨v3, ev3⟩ : ∃ q : Int32, x4 + 2 = q := ⟨_, rfl⟩
  have zv3 : v3.toInt = (x4.toInt + 2) := by rw [← ev3]; exact (xz_add (X := x4.toInt) (Y := 2) rfl (by decide) (by omega) (by omega)).trans (by omega)
  refine xi_iadd (pc' := 724) (v := v3) kc_195_723 rfl ev3 ?_
  obtain ⟨a4, ea4⟩ : ∃ q : Int32, xs.getD (Int32.toNatClampNeg v3) 0 = q := ⟨_, rfl⟩
  have ra4 := xc_rng a4
  refine xi_ialoadO (pc' := 725) (v := a4) kc_195_724 rfl (by decide) hov0 (xi_in (by omega) (by omega)) ea4 ?_
  by_cases c5 : a4.toInt = 0
  · refine xi_ift (pc' := 732) kc_195_725 rfl (xc_eq_t (X := a4.toInt) (Y := 0) rfl (by decide) (by omega)) ?_
    refine xi_iconst (pc' := 733) (v := 0) kc_195_732 rfl rfl ?_
    obtain ⟨u6, u7, bu6, bu7, A8⟩ := xq_0 K.1
    refine xi_virtual (mj := 120) (as := [.int a2, .int 0]) (st1 := []) (lv0 := [(0, .ref 0), (1, .int a2), (2, .int 0)]) kc_195_733 rfl rfl rfl rfl rfl A8 (Nat.le_of_ble_eq_true rfl) (hJ _ _ _ _ (by decide)) (xm_le ml_120 rfl) rfl ?_
    have zc0 : (0 : Int32).toInt = 0 := by decide
    refine mt_120_0 hJ hov1 hov2 (d := 98) (x1 := a2) (x2 := 0) K.1 (by first | omega | decide) (fun r9 hh10 br9 K11 => ?_)
    have K12 := xk_tr K K11 rfl
    obtain ⟨u13, u14, bu13, bu14, A15⟩ := xq_0 K12.1
    have e16 : u7 = u14 := xk_eqi (q := 9) K11 rfl A8 A15 rfl rfl
    subst e16
    show xw J ov 100 195 (736, [(4, .int x4), (3, .ref 167), (2, .ref 115), (1, .ref 0), (0, .ref 1000000)], [.int r9], hh10) _
    refine xi_pop (pc' := 737) kc_195_736 rfl rfl ?_
    refine xi_aload_n (pc' := 738) (x := 115) kc_195_737 rfl rfl ?_
    refine xi_aload_n (pc' := 739) (x := 1000000) kc_195_738 rfl rfl ?_
    refine xi_iload (pc' := 741) (x := x4) kc_195_739 rfl rfl ?_
    refine xi_iconst (pc' := 742) (v := 1) kc_195_741 rfl rfl ?_
    refine xi_iadd (pc' := 743) (v := v1) kc_195_742 rfl ev1 ?_
    refine xi_ialoadO (pc' := 744) (v := a2) kc_195_743 rfl (by decide) hov0 (xi_in (by omega) (by omega)) ea2 ?_
    refine xi_aload_n (pc' := 745) (x := 1000000) kc_195_744 rfl rfl ?_
    refine xi_iload (pc' := 747) (x := x4) kc_195_745 rfl rfl ?_
    refine xi_iconst (pc' := 748) (v := 2) kc_195_747 rfl rfl ?_
    refine xi_iadd (pc' := 749) (v := v3) kc_195_748 rfl ev3 ?_
    refine xi_ialoadO (pc' := 750) (v := a4) kc_195_749 rfl (by decide) hov0 (xi_in (by omega) (by omega)) ea4 ?_
    refine xi_ift (pc' := 757) kc_195_750 rfl (xc_eq_t (X := a4.toInt) (Y := 0) rfl (by decide) (by omega)) ?_
    refine xi_iconst (pc' := 758) (v := 0) kc_195_757 rfl rfl ?_
    obtain ⟨u17, u18, u19, u20, u21, u22, u23, u24, u25, u26, u27, u28, u29, bu17, bu18, bu19, bu20, bu21, bu22, bu23, bu24, bu25, bu26, bu27, bu28, bu29, A30⟩ := xq_115 K12.1
    refine xi_virtual (mj := 33) (as := [.int a2, .int 0]) (st1 := []) (lv0 := [(0, .ref 115), (1, .int a2), (2, .int 0)]) kc_195_758 rfl rfl rfl rfl rfl A30 (Nat.le_of_ble_eq_true rfl) (hJ _ _ _ _ (by decide)) (xm_le ml_33 rfl) rfl ?_
    have zc0 : (0 : Int32).toInt = 0 := by decide
    refine mt_33_0 hJ hov1 hov2 (d := 98) (x1 := a2) (x2 := 0) K12.1 (by first | omega | decide) (fun r31 hh32 br31 K33 => ?_)
    have K34 := xk_tr K12 K33 rfl
    obtain ⟨u35, u36, bu35, bu36, A37⟩ := xq_0 K34.1
    have e38 : u7 = u36 := xk_eqi (q := 9) K33 rfl A15 A37 rfl rfl
    subst e38
    obtain ⟨u39, u40, u41, u42, u43, u44, u45, u46, u47, u48, u49, u50, u51, bu39, bu40, bu41, bu42, bu43, bu44, bu45, bu46, bu47, bu48, bu49, bu50, bu51, A52⟩ := xq_115 K34.1
    have e53 : u18 = u40 := xk_eqi (q := 1) K33 rfl A30 A52 rfl rfl
    subst e53
    have e54 : u21 = u43 := xk_eqi (q := 23) K33 rfl A30 A52 rfl rfl
    subst e54
    show xw J ov 100 195 (761, [(4, .int x4), (3, .ref 167), (2, .ref 115), (1, .ref 0), (0, .ref 1000000)], [.int r31], hh32) _
    refine xi_pop (pc' := 762) kc_195_761 rfl rfl ?_
    refine xi_goto (pc' := 1501) kc_195_762 rfl ?_
    obtain ⟨v55, ev55⟩ : ∃ q : Int32, x4 + 6 = q := ⟨_, rfl⟩
    have zv55 : v55.toInt = (x4.toInt + 6) := by rw [← ev55]; exact (xz_add (X := x4.toInt) (Y := 6) rfl (by decide) (by omega) (by omega)).trans (by omega)
    refine xi_iinc (pc' := 1504) (x := x4) (v := v55) (lv' := [(4, .int v55), (3, .ref 167), (2, .ref 115), (1, .ref 0), (0, .ref 1000000)]) kc_195_1501 rfl rfl ev55 rfl (xm_lt ml_195 rfl) ?_
    refine xi_goto (pc' := 23) kc_195_1504 rfl ?_
    exact kk v55 hh32 (by omega) K34
  · refine xi_iff (pc' := 728) kc_195_725 rfl (xc_eq_f (X := a4.toInt) (Y := 0) rfl (by decide) (by omega)) ?_
    refine xi_iconst (pc' := 729) (v := 1) kc_195_728 rfl rfl ?_
    refine xi_goto (pc' := 733) kc_195_729 rfl ?_
    obtain ⟨u56, u57, bu56, bu57, A58⟩ := xq_0 K.1
    refine xi_virtual (mj := 120) (as := [.int a2, .int 1]) (st1 := []) (lv0 := [(0, .ref 0), (1, .int a2), (2, .int 1)]) kc_195_733 rfl rfl rfl rfl rfl A58 (Nat.le_of_ble_eq_true rfl) (hJ _ _ _ _ (by decide)) (xm_le ml_120 rfl) rfl ?_
    have zc1 : (1 : Int32).toInt = 1 := by decide
    refine mt_120_0 hJ hov1 hov2 (d := 98) (x1 := a2) (x2 := 1) K.1 (by first | omega | decide) (fun r59 hh60 br59 K61 => ?_)
    have K62 := xk_tr K K61 rfl
    obtain ⟨u63, u64, bu63, bu64, A65⟩ := xq_0 K62.1
    have e66 : u57 = u64 := xk_eqi (q := 9) K61 rfl A58 A65 rfl rfl
    subst e66
    show xw J ov 100 195 (736, [(4, .int x4), (3, .ref 167), (2, .ref 115), (1, .ref 0), (0, .ref 1000000)], [.int r59], hh60) _
    refine xi_pop (pc' := 737) kc_195_736 rfl rfl ?_
    refine xi_aload_n (pc' := 738) (x := 115) kc_195_737 rfl rfl ?_
    refine xi_aload_n (pc' := 739) (x := 1000000) kc_195_738 rfl rfl ?_
    refine xi_iload (pc' := 741) (x := x4) kc_195_739 rfl rfl ?_
    refine xi_iconst (pc' := 742) (v := 1) kc_195_741 rfl rfl ?_
    refine xi_iadd (pc' := 743) (v := v1) kc_195_742 rfl ev1 ?_
    refine xi_ialoadO (pc' := 744) (v := a2) kc_195_743 rfl (by decide) hov0 (xi_in (by omega) (by omega)) ea2 ?_
    refine xi_aload_n (pc' := 745) (x := 1000000) kc_195_744 rfl rfl ?_
    refine xi_iload (pc' := 747) (x := x4) kc_195_745 rfl rfl ?_
    refine xi_iconst (pc' := 748) (v := 2) kc_195_747 rfl rfl ?_
    refine xi_iadd (pc' := 749) (v := v3) kc_195_748 rfl ev3 ?_
    refine xi_ialoadO (pc' := 750) (v := a4) kc_195_749 rfl (by decide) hov0 (xi_in (by omega) (by omega)) ea4 ?_
    refine xi_iff (pc' := 753) kc_195_750 rfl (xc_eq_f (X := a4.toInt) (Y := 0) rfl (by decide) (by omega)) ?_
    refine xi_iconst (pc' := 754) (v := 1) kc_195_753 rfl rfl ?_
    refine xi_goto (pc' := 758) kc_195_754 rfl ?_
    obtain ⟨u67, u68, u69, u70, u71, u72, u73, u74, u75, u76, u77, u78, u79, bu67, bu68, bu69, bu70, bu71, bu72, bu73, bu74, bu75, bu76, bu77, bu78, bu79, A80⟩ := xq_115 K62.1
    refine xi_virtual (mj := 33) (as := [.int a2, .int 1]) (st1 := []) (lv0 := [(0, .ref 115), (1, .int a2), (2, .int 1)]) kc_195_758 rfl rfl rfl rfl rfl A80 (Nat.le_of_ble_eq_true rfl) (hJ _ _ _ _ (by decide)) (xm_le ml_33 rfl) rfl ?_
    have zc1 : (1 : Int32).toInt = 1 := by decide
    refine mt_33_0 hJ hov1 hov2 (d := 98) (x1 := a2) (x2 := 1) K62.1 (by first | omega | decide) (fun r81 hh82 br81 K83 => ?_)
    have K84 := xk_tr K62 K83 rfl
    obtain ⟨u85, u86, bu85, bu86, A87⟩ := xq_0 K84.1
    have e88 : u57 = u86 := xk_eqi (q := 9) K83 rfl A65 A87 rfl rfl
    subst e88
    obtain ⟨u89, u90, u91, u92, u93, u94, u95, u96, u97, u98, u99, u100, u101, bu89, bu90, bu91, bu92, bu93, bu94, bu95, bu96, bu97, bu98, bu99, bu100, bu101, A102⟩ := xq_115 K84.1
    have e103 : u68 = u90 := xk_eqi (q := 1) K83 rfl A80 A102 rfl rfl
    subst e103
    have e104 : u71 = u93 := xk_eqi (q := 23) K83 rfl A80 A102 rfl rfl
    subst e104
    show xw J ov 100 195 (761, [(4, .int x4), (3, .ref 167), (2, .ref 115), (1, .ref 0), (0, .ref 1000000)], [.int r81], hh82) _
    refine xi_pop (pc' := 762) kc_195_761 rfl rfl ?_
    refine xi_goto (pc' := 1501) kc_195_762 rfl ?_
    obtain ⟨v105, ev105⟩ : ∃ q : Int32, x4 + 6 = q := ⟨_, rfl⟩
    have zv105 : v105.toInt = (x4.toInt + 6) := by rw [← ev105]; exact (xz_add (X := x4.toInt) (Y := 6) rfl (by decide) (by omega) (by omega)).trans (by omega)
    refine xi_iinc (pc' := 1504) (x := x4) (v := v105) (lv' := [(4, .int v105), (3, .ref 167), (2, .ref 115), (1, .ref 0), (0, .ref 1000000)]) kc_195_1501 rfl rfl ev105 rfl (xm_lt ml_195 rfl) ?_
    refine xi_goto (pc' := 23) kc_195_1504 rfl ?_
    exact kk v105 hh82 (by omega) K84
set_option maxHeartbeats 8000000 in
theorem lc_13 {J : xe_J} {ov : List (List Int32)} (hJ : ∀ d mj as h, mj ≠ xe_loff → J d mj as h = none) (hov1 : ov[1]? = some [10, 0, 0, 0, 0, 0]) (hov2 : ov[2]? = some [99, 30, 50, 50, 1, 99999]) {xs : List Int32} (hov0 : ov[0]? = some xs) {Q : Option Value → xe_H → Prop} {h : xe_H} {x4 : Int32} (hi0 : 0 ≤ x4.toInt) (hi1 : x4.toInt + 6 ≤ xs.length) (hi2 : x4.toInt ≤ 3066) (T : xt h) (kk : ∀ (i : Int32) (h' : xe_H), i.toInt = x4.toInt + 6 → xk [(29, 0), (31, 0), (33, 0), (35, 0), (37, 0), (39, 0), (41, 0), (43, 0), (45, 0), (47, 0), (49, 0), (51, 0), (125, 0), (29, 2), (31, 2), (33, 2), (35, 2), (37, 2), (39, 2), (41, 2), (43, 2), (45, 2), (47, 2), (49, 2), (51, 2), (127, 0), (1, 5), (115, 23)] h h' → xw J ov 100 195 (23, [(4, .int i), (3, .ref 167), (2, .ref 115), (1, .ref 0), (0, .ref 1000000)], [], h') Q) : xw J ov 100 195 (765, [(4, .int x4), (3, .ref 167), (2, .ref 115), (1, .ref 0), (0, .ref 1000000)], [], h) Q := by
  have K : xk [(29, 0), (31, 0), (33, 0), (35, 0), (37, 0), (39, 0), (41, 0), (43, 0), (45, 0), (47, 0), (49, 0), (51, 0), (125, 0), (29, 2), (31, 2), (33, 2), (35, 2), (37, 2), (39, 2), (41, 2), (43, 2), (45, 2), (47, 2), (49, 2), (51, 2), (127, 0), (1, 5), (115, 23)] h h := xk_re T
  refine xi_aload_n (pc' := 766) (x := 0) kc_195_765 rfl rfl ?_
  refine xi_aload_n (pc' := 767) (x := 1000000) kc_195_766 rfl rfl ?_
  refine xi_iload (pc' := 769) (x := x4) kc_195_767 rfl rfl ?_
  refine xi_iconst (pc' := 770) (v := 1) kc_195_769 rfl rfl ?_
  obtain ⟨v1, ev1⟩ : ∃ q : Int32, x4 + 1 = q := ⟨_, rfl⟩
  have zv1 : v1.toInt = (x4.toInt + 1) := by rw [← ev1]; exact (xz_add (X := x4.toInt) (Y := 1) rfl (by decide) (by omega) (by omega)).trans (by omega)
  refine xi_iadd (pc' := 771) (v := v1) kc_195_770 rfl ev1 ?_
  obtain ⟨a2, ea2⟩ : ∃ q : Int32, xs.getD (Int32.toNatClampNeg v1) 0 = q := ⟨_, rfl⟩
  have ra2 := xc_rng a2
  refine xi_ialoadO (pc' := 772) (v := a2) kc_195_771 rfl (by decide) hov0 (xi_in (by omega) (by omega)) ea2 ?_
  obtain ⟨u3, u4, bu3, bu4, A5⟩ := xq_0 K.1
  refine xi_virtual (mj := 121) (as := [.int a2]) (st1 := []) (lv0 := [(0, .ref 0), (1, .int a2)]) kc_195_772 rfl rfl rfl rfl rfl A5 (Nat.le_of_ble_eq_true rfl) (hJ _ _ _ _ (by decide)) (xm_le ml_121 rfl) rfl ?_
  refine mt_121_0 hJ hov1 hov2 (d := 93) (x1 := a2) (u0 := u4) K.1 (by omega) (fun v e => by have e2 := xl_val (u := u4) A5 rfl e; subst e2; omega) (fun r6 hh7 br6 K8 => ?_)
  have K9 := xk_tr K K8 rfl
  show xw J ov 100 195 (775, [(4, .int x4), (3, .ref 167), (2, .ref 115), (1, .ref 0), (0, .ref 1000000)], [.int r6], hh7) _
  refine xi_pop (pc' := 776) kc_195_775 rfl rfl ?_
  refine xi_aload_n (pc' := 777) (x := 115) kc_195_776 rfl rfl ?_
  refine xi_aload_n (pc' := 778) (x := 1000000) kc_195_777 rfl rfl ?_
  refine xi_iload (pc' := 780) (x := x4) kc_195_778 rfl rfl ?_
  refine xi_iconst (pc' := 781) (v := 1) kc_195_780 rfl rfl ?_
  refine xi_iadd (pc' := 782) (v := v1) kc_195_781 rfl ev1 ?_
  refine xi_ialoadO (pc' := 783) (v := a2) kc_195_782 rfl (by decide) hov0 (xi_in (by omega) (by omega)) ea2 ?_
  obtain ⟨u10, u11, u12, u13, u14, u15, u16, u17, u18, u19, u20, u21, u22, bu10, bu11, bu12, bu13, bu14, bu15, bu16, bu17, bu18, bu19, bu20, bu21, bu22, A23⟩ := xq_115 K9.1
  refine xi_virtual (mj := 34) (as := [.int a2]) (st1 := []) (lv0 := [(0, .ref 115), (1, .int a2)]) kc_195_783 rfl rfl rfl rfl rfl A23 (Nat.le_of_ble_eq_true rfl) (hJ _ _ _ _ (by decide)) (xm_le ml_34 rfl) rfl ?_
  refine mt_34_0 hJ hov1 hov2 (d := 93) (x1 := a2) (u0 := u11) K9.1 (by omega) (fun v e => by have e2 := xl_val (u := u11) A23 rfl e; subst e2; omega) (fun r24 hh25 br24 K26 => ?_)
  have K27 := xk_tr K9 K26 rfl
  obtain ⟨u28, u29, u30, u31, u32, u33, u34, u35, u36, u37, u38, u39, u40, bu28, bu29, bu30, bu31, bu32, bu33, bu34, bu35, bu36, bu37, bu38, bu39, bu40, A41⟩ := xq_115 K27.1
  have e42 : u14 = u32 := xk_eqi (q := 23) K26 rfl A23 A41 rfl rfl
  subst e42
  show xw J ov 100 195 (786, [(4, .int x4), (3, .ref 167), (2, .ref 115), (1, .ref 0), (0, .ref 1000000)], [.int r24], hh25) _
  refine xi_pop (pc' := 787) kc_195_786 rfl rfl ?_
  refine xi_goto (pc' := 1501) kc_195_787 rfl ?_
  obtain ⟨v43, ev43⟩ : ∃ q : Int32, x4 + 6 = q := ⟨_, rfl⟩
  have zv43 : v43.toInt = (x4.toInt + 6) := by rw [← ev43]; exact (xz_add (X := x4.toInt) (Y := 6) rfl (by decide) (by omega) (by omega)).trans (by omega)
  refine xi_iinc (pc' := 1504) (x := x4) (v := v43) (lv' := [(4, .int v43), (3, .ref 167), (2, .ref 115), (1, .ref 0), (0, .ref 1000000)]) kc_195_1501 rfl rfl ev43 rfl (xm_lt ml_195 rfl) ?_
  refine xi_goto (pc' := 23) kc_195_1504 rfl ?_
  exact kk v43 hh25 (by omega) K27
set_option maxHeartbeats 8000000 in
theorem lc_14 {J : xe_J} {ov : List (List Int32)} (hJ : ∀ d mj as h, mj ≠ xe_loff → J d mj as h = none) (hov1 : ov[1]? = some [10, 0, 0, 0, 0, 0]) (hov2 : ov[2]? = some [99, 30, 50, 50, 1, 99999]) {xs : List Int32} (hov0 : ov[0]? = some xs) (hoff : ∀ (v : Int32) (h : xe_H), xt h → h.length < xe_o → ∃ (r : Int32) (h' : xe_H), J 99 194 [.ref 0, .int v, .ref 167] h = some (some (.int r), h') ∧ xt h' ∧ (∀ l : Nat × Nat, List.elem l [(29, 0), (31, 0), (33, 0), (35, 0), (37, 0), (39, 0), (41, 0), (43, 0), (45, 0), (47, 0), (49, 0), (51, 0), (125, 0), (29, 2), (31, 2), (33, 2), (35, 2), (37, 2), (39, 2), (41, 2), (43, 2), (45, 2), (47, 2), (49, 2), (51, 2), (127, 0), (1, 5), (115, 23)] = true → xl h' l = xl h l) ∧ h'.length ≤ h.length + 1 ∧ xe_sz h' ≤ xe_sz h + 6) {Q : Option Value → xe_H → Prop} {h : xe_H} {x4 : Int32} (hi0 : 0 ≤ x4.toInt) (hi1 : x4.toInt + 6 ≤ xs.length) (hi2 : x4.toInt ≤ 3066) (T : xt h) (hn : h.length < xe_o) (kk : ∀ (i : Int32) (h' : xe_H), i.toInt = x4.toInt + 6 → xt h' → (∀ l : Nat × Nat, List.elem l [(29, 0), (31, 0), (33, 0), (35, 0), (37, 0), (39, 0), (41, 0), (43, 0), (45, 0), (47, 0), (49, 0), (51, 0), (125, 0), (29, 2), (31, 2), (33, 2), (35, 2), (37, 2), (39, 2), (41, 2), (43, 2), (45, 2), (47, 2), (49, 2), (51, 2), (127, 0), (1, 5), (115, 23)] = true → xl h' l = xl h l) → h'.length ≤ h.length + 1 → xe_sz h' ≤ xe_sz h + 6 → xw J ov 100 195 (23, [(4, .int i), (3, .ref 167), (2, .ref 115), (1, .ref 0), (0, .ref 1000000)], [], h') Q) : xw J ov 100 195 (790, [(4, .int x4), (3, .ref 167), (2, .ref 115), (1, .ref 0), (0, .ref 1000000)], [], h) Q := by
  have K : xk [(29, 0), (31, 0), (33, 0), (35, 0), (37, 0), (39, 0), (41, 0), (43, 0), (45, 0), (47, 0), (49, 0), (51, 0), (125, 0), (29, 2), (31, 2), (33, 2), (35, 2), (37, 2), (39, 2), (41, 2), (43, 2), (45, 2), (47, 2), (49, 2), (51, 2), (127, 0), (1, 5), (115, 23)] h h := xk_re T
  refine xi_aload_n (pc' := 791) (x := 0) kc_195_790 rfl rfl ?_
  refine xi_aload_n (pc' := 792) (x := 1000000) kc_195_791 rfl rfl ?_
  refine xi_iload (pc' := 794) (x := x4) kc_195_792 rfl rfl ?_
  refine xi_iconst (pc' := 795) (v := 1) kc_195_794 rfl rfl ?_
  obtain ⟨v1, ev1⟩ : ∃ q : Int32, x4 + 1 = q := ⟨_, rfl⟩
  have zv1 : v1.toInt = (x4.toInt + 1) := by rw [← ev1]; exact (xz_add (X := x4.toInt) (Y := 1) rfl (by decide) (by omega) (by omega)).trans (by omega)
  refine xi_iadd (pc' := 796) (v := v1) kc_195_795 rfl ev1 ?_
  obtain ⟨a2, ea2⟩ : ∃ q : Int32, xs.getD (Int32.toNatClampNeg v1) 0 = q := ⟨_, rfl⟩
  have ra2 := xc_rng a2
  refine xi_ialoadO (pc' := 797) (v := a2) kc_195_796 rfl (by decide) hov0 (xi_in (by omega) (by omega)) ea2 ?_
  refine xi_aload_n (pc' := 798) (x := 167) kc_195_797 rfl rfl ?_
  obtain ⟨r9, h9, j9, T9, f9, l9, z9⟩ := hoff a2 h T hn
  refine xi_staticJ (mj := 194) (as := [.ref 0, .int a2, .ref 167]) (st1 := []) (r := some (.int r9)) (h' := h9) kc_195_798 rfl rfl (Nat.le_of_ble_eq_true rfl) rfl rfl (Nat.le_of_ble_eq_true rfl) j9 ?_
  have K9 : xk [(29, 0), (31, 0), (33, 0), (35, 0), (37, 0), (39, 0), (41, 0), (43, 0), (45, 0), (47, 0), (49, 0), (51, 0), (125, 0), (29, 2), (31, 2), (33, 2), (35, 2), (37, 2), (39, 2), (41, 2), (43, 2), (45, 2), (47, 2), (49, 2), (51, 2), (127, 0), (1, 5), (115, 23)] h9 h9 := xk_re T9
  have rr9 := xc_rng r9
  show xw J ov 100 195 (801, [(4, .int x4), (3, .ref 167), (2, .ref 115), (1, .ref 0), (0, .ref 1000000)], [.int r9], h9) _
  refine xi_istore (pc' := 803) (lv' := [(5, .int r9), (4, .int x4), (3, .ref 167), (2, .ref 115), (1, .ref 0), (0, .ref 1000000)]) kc_195_801 rfl rfl (xm_lt ml_195 rfl) ?_
  refine xi_aload_n (pc' := 804) (x := 115) kc_195_803 rfl rfl ?_
  refine xi_aload_n (pc' := 805) (x := 1000000) kc_195_804 rfl rfl ?_
  refine xi_iload (pc' := 807) (x := x4) kc_195_805 rfl rfl ?_
  refine xi_iconst (pc' := 808) (v := 1) kc_195_807 rfl rfl ?_
  refine xi_iadd (pc' := 809) (v := v1) kc_195_808 rfl ev1 ?_
  refine xi_ialoadO (pc' := 810) (v := a2) kc_195_809 rfl (by decide) hov0 (xi_in (by omega) (by omega)) ea2 ?_
  obtain ⟨u101, u102, u103, u104, u105, u106, u107, u108, u109, u110, u111, u112, u113, bu101, bu102, bu103, bu104, bu105, bu106, bu107, bu108, bu109, bu110, bu111, bu112, bu113, A114⟩ := xq_115 K9.1
  refine xi_virtual (mj := 41) (as := [.int a2]) (st1 := []) (lv0 := [(0, .ref 115), (1, .int a2)]) kc_195_810 rfl rfl rfl rfl rfl A114 (Nat.le_of_ble_eq_true rfl) (hJ _ _ _ _ (by decide)) (xm_le ml_41 rfl) rfl ?_
  refine mt_41_0 hJ hov1 hov2 (d := 92) (x1 := a2) K9.1 (fun r115 hh116 K117 => ?_)
  have K118 := xk_tr K9 K117 rfl
  obtain ⟨u119, u120, u121, u122, u123, u124, u125, u126, u127, u128, u129, u130, u131, bu119, bu120, bu121, bu122, bu123, bu124, bu125, bu126, bu127, bu128, bu129, bu130, bu131, A132⟩ := xq_115 K118.1
  have e133 : u102 = u120 := xk_eqi (q := 1) K117 rfl A114 A132 rfl rfl
  subst e133
  have e134 : u105 = u123 := xk_eqi (q := 23) K117 rfl A114 A132 rfl rfl
  subst e134
  show xw J ov 100 195 (813, [(5, .int r9), (4, .int x4), (3, .ref 167), (2, .ref 115), (1, .ref 0), (0, .ref 1000000)], [.long r115], hh116) _
  refine xi_lstore (pc' := 815) (lv' := [(6, .long r115), (5, .int r9), (4, .int x4), (3, .ref 167), (2, .ref 115), (1, .ref 0), (0, .ref 1000000)]) kc_195_813 rfl rfl (xm_lt ml_195 rfl) ?_
  refine xi_goto (pc' := 1501) kc_195_815 rfl ?_
  obtain ⟨v135, ev135⟩ : ∃ q : Int32, x4 + 6 = q := ⟨_, rfl⟩
  have zv135 : v135.toInt = (x4.toInt + 6) := by rw [← ev135]; exact (xz_add (X := x4.toInt) (Y := 6) rfl (by decide) (by omega) (by omega)).trans (by omega)
  refine xi_iinc (pc' := 1504) (x := x4) (v := v135) (lv' := [(4, .int v135), (6, .long r115), (5, .int r9), (3, .ref 167), (2, .ref 115), (1, .ref 0), (0, .ref 1000000)]) kc_195_1501 rfl rfl ev135 rfl (xm_lt ml_195 rfl) ?_
  refine xi_goto (pc' := 23) kc_195_1504 rfl ?_
  refine xw_lv (b := [(4, .int v135), (3, .ref 167), (2, .ref 115), (1, .ref 0), (0, .ref 1000000)]) (lvS_cons (lvS_cons (lvS_cons (lvS_cons (lvS_cons (lvS_nil (show ([4, 6, 5, 3, 2, 1, 0] : List Nat).Nodup by decide)) rfl) rfl) rfl) rfl) rfl) ?_
  exact kk v135 hh116 (by omega) K118.1 (fun l hl => (K118.2.1 l hl).trans (f9 l hl)) (by rw [K118.2.2.1]; exact l9) (by rw [K118.2.2.2]; exact z9)
set_option maxHeartbeats 8000000 in
theorem lc_15 {J : xe_J} {ov : List (List Int32)} (hJ : ∀ d mj as h, mj ≠ xe_loff → J d mj as h = none) (hov1 : ov[1]? = some [10, 0, 0, 0, 0, 0]) (hov2 : ov[2]? = some [99, 30, 50, 50, 1, 99999]) {xs : List Int32} (hov0 : ov[0]? = some xs) {Q : Option Value → xe_H → Prop} {h : xe_H} {x4 : Int32} (hi0 : 0 ≤ x4.toInt) (hi1 : x4.toInt + 6 ≤ xs.length) (hi2 : x4.toInt ≤ 3066) (T : xt h) (kk : ∀ (i : Int32) (h' : xe_H), i.toInt = x4.toInt + 6 → xk [(29, 0), (31, 0), (33, 0), (35, 0), (37, 0), (39, 0), (41, 0), (43, 0), (45, 0), (47, 0), (49, 0), (51, 0), (125, 0), (29, 2), (31, 2), (33, 2), (35, 2), (37, 2), (39, 2), (41, 2), (43, 2), (45, 2), (47, 2), (49, 2), (51, 2), (127, 0), (1, 5), (115, 23)] h h' → xw J ov 100 195 (23, [(4, .int i), (3, .ref 167), (2, .ref 115), (1, .ref 0), (0, .ref 1000000)], [], h') Q) : xw J ov 100 195 (818, [(4, .int x4), (3, .ref 167), (2, .ref 115), (1, .ref 0), (0, .ref 1000000)], [], h) Q := by
  have K : xk [(29, 0), (31, 0), (33, 0), (35, 0), (37, 0), (39, 0), (41, 0), (43, 0), (45, 0), (47, 0), (49, 0), (51, 0), (125, 0), (29, 2), (31, 2), (33, 2), (35, 2), (37, 2), (39, 2), (41, 2), (43, 2), (45, 2), (47, 2), (49, 2), (51, 2), (127, 0), (1, 5), (115, 23)] h h := xk_re T
  refine xi_aload_n (pc' := 819) (x := 0) kc_195_818 rfl rfl ?_
  refine xi_aload_n (pc' := 820) (x := 1000000) kc_195_819 rfl rfl ?_
  refine xi_iload (pc' := 822) (x := x4) kc_195_820 rfl rfl ?_
  refine xi_iconst (pc' := 823) (v := 1) kc_195_822 rfl rfl ?_
  obtain ⟨v1, ev1⟩ : ∃ q : Int32, x4 + 1 = q := ⟨_, rfl⟩
  have zv1 : v1.toInt = (x4.toInt + 1) := by rw [← ev1]; exact (xz_add (X := x4.toInt) (Y := 1) rfl (by decide) (by omega) (by omega)).trans (by omega)
  refine xi_iadd (pc' := 824) (v := v1) kc_195_823 rfl ev1 ?_
  obtain ⟨a2, ea2⟩ : ∃ q : Int32, xs.getD (Int32.toNatClampNeg v1) 0 = q := ⟨_, rfl⟩
  have ra2 := xc_rng a2
  refine xi_ialoadO (pc' := 825) (v := a2) kc_195_824 rfl (by decide) hov0 (xi_in (by omega) (by omega)) ea2 ?_
  refine xi_aload_n (pc' := 826) (x := 1000000) kc_195_825 rfl rfl ?_
  refine xi_iload (pc' := 828) (x := x4) kc_195_826 rfl rfl ?_
  refine xi_iconst (pc' := 829) (v := 2) kc_195_828 rfl rfl ?_
  obtain ⟨v3, ev3⟩ : ∃ q : Int32, x4 + 2 = q := ⟨_, rfl⟩
  have zv3 : v3.toInt = (x4.toInt + 2) := by rw [← ev3]; exact (xz_add (X := x4.toInt) (Y := 2) rfl (by decide) (by omega) (by omega)).trans (by omega)
  refine xi_iadd (pc' := 830) (v := v3) kc_195_829 rfl ev3 ?_
  obtain ⟨a4, ea4⟩ : ∃ q : Int32, xs.getD (Int32.toNatClampNeg v3) 0 = q := ⟨_, rfl⟩
  have ra4 := xc_rng a4
  refine xi_ialoadO (pc' := 831) (v := a4) kc_195_830 rfl (by decide) hov0 (xi_in (by omega) (by omega)) ea4 ?_
  obtain ⟨u5, u6, bu5, bu6, A7⟩ := xq_0 K.1
  refine xi_virtual (mj := 137) (as := [.int a2, .int a4]) (st1 := []) (lv0 := [(0, .ref 0), (1, .int a2), (2, .int a4)]) kc_195_831 rfl rfl rfl rfl rfl A7 (Nat.le_of_ble_eq_true rfl) (hJ _ _ _ _ (by decide)) (xm_le ml_137 rfl) rfl ?_
  refine mt_137_0 hJ hov1 hov2 (d := 93) (x1 := a2) (x2 := a4) K.1 (fun r8 hh9 K10 => ?_)
  have br8 := xc_rng r8
  have K11 := xk_tr K K10 rfl
  obtain ⟨u12, u13, bu12, bu13, A14⟩ := xq_0 K11.1
  have e15 : u6 = u13 := xk_eqi (q := 9) K10 rfl A7 A14 rfl rfl
  subst e15
  show xw J ov 100 195 (834, [(4, .int x4), (3, .ref 167), (2, .ref 115), (1, .ref 0), (0, .ref 1000000)], [.int r8], hh9) _
  refine xi_pop (pc' := 835) kc_195_834 rfl rfl ?_
  refine xi_aload_n (pc' := 836) (x := 115) kc_195_835 rfl rfl ?_
  refine xi_aload_n (pc' := 837) (x := 1000000) kc_195_836 rfl rfl ?_
  refine xi_iload (pc' := 839) (x := x4) kc_195_837 rfl rfl ?_
  refine xi_iconst (pc' := 840) (v := 1) kc_195_839 rfl rfl ?_
  refine xi_iadd (pc' := 841) (v := v1) kc_195_840 rfl ev1 ?_
  refine xi_ialoadO (pc' := 842) (v := a2) kc_195_841 rfl (by decide) hov0 (xi_in (by omega) (by omega)) ea2 ?_
  refine xi_aload_n (pc' := 843) (x := 1000000) kc_195_842 rfl rfl ?_
  refine xi_iload (pc' := 845) (x := x4) kc_195_843 rfl rfl ?_
  refine xi_iconst (pc' := 846) (v := 2) kc_195_845 rfl rfl ?_
  refine xi_iadd (pc' := 847) (v := v3) kc_195_846 rfl ev3 ?_
  refine xi_ialoadO (pc' := 848) (v := a4) kc_195_847 rfl (by decide) hov0 (xi_in (by omega) (by omega)) ea4 ?_
  obtain ⟨u16, u17, u18, u19, u20, u21, u22, u23, u24, u25, u26, u27, u28, bu16, bu17, bu18, bu19, bu20, bu21, bu22, bu23, bu24, bu25, bu26, bu27, bu28, A29⟩ := xq_115 K11.1
  refine xi_virtual (mj := 46) (as := [.int a2, .int a4]) (st1 := []) (lv0 := [(0, .ref 115), (1, .int a2), (2, .int a4)]) kc_195_848 rfl rfl rfl rfl rfl A29 (Nat.le_of_ble_eq_true rfl) (hJ _ _ _ _ (by decide)) (xm_le ml_46 rfl) rfl ?_
  refine mt_46_0 hJ hov1 hov2 (d := 93) (x1 := a2) (x2 := a4) K11.1 (fun r30 hh31 K32 => ?_)
  have br30 := xc_rng r30
  have K33 := xk_tr K11 K32 rfl
  obtain ⟨u34, u35, bu34, bu35, A36⟩ := xq_0 K33.1
  have e37 : u6 = u35 := xk_eqi (q := 9) K32 rfl A14 A36 rfl rfl
  subst e37
  obtain ⟨u38, u39, u40, u41, u42, u43, u44, u45, u46, u47, u48, u49, u50, bu38, bu39, bu40, bu41, bu42, bu43, bu44, bu45, bu46, bu47, bu48, bu49, bu50, A51⟩ := xq_115 K33.1
  have e52 : u17 = u39 := xk_eqi (q := 1) K32 rfl A29 A51 rfl rfl
  subst e52
  have e53 : u20 = u42 := xk_eqi (q := 23) K32 rfl A29 A51 rfl rfl
  subst e53
  show xw J ov 100 195 (851, [(4, .int x4), (3, .ref 167), (2, .ref 115), (1, .ref 0), (0, .ref 1000000)], [.int r30], hh31) _
  refine xi_pop (pc' := 852) kc_195_851 rfl rfl ?_
  refine xi_goto (pc' := 1501) kc_195_852 rfl ?_
  obtain ⟨v54, ev54⟩ : ∃ q : Int32, x4 + 6 = q := ⟨_, rfl⟩
  have zv54 : v54.toInt = (x4.toInt + 6) := by rw [← ev54]; exact (xz_add (X := x4.toInt) (Y := 6) rfl (by decide) (by omega) (by omega)).trans (by omega)
  refine xi_iinc (pc' := 1504) (x := x4) (v := v54) (lv' := [(4, .int v54), (3, .ref 167), (2, .ref 115), (1, .ref 0), (0, .ref 1000000)]) kc_195_1501 rfl rfl ev54 rfl (xm_lt ml_195 rfl) ?_
  refine xi_goto (pc' := 23) kc_195_1504 rfl ?_
  exact kk v54 hh31 (by omega) K33
set_option maxHeartbeats 8000000 in
theorem lc_16 {J : xe_J} {ov : List (List Int32)} (hJ : ∀ d mj as h, mj ≠ xe_loff → J d mj as h = none) (hov1 : ov[1]? = some [10, 0, 0, 0, 0, 0]) (hov2 : ov[2]? = some [99, 30, 50, 50, 1, 99999]) {xs : List Int32} (hov0 : ov[0]? = some xs) {Q : Option Value → xe_H → Prop} {h : xe_H} {x4 : Int32} (hi0 : 0 ≤ x4.toInt) (hi1 : x4.toInt + 6 ≤ xs.length) (hi2 : x4.toInt ≤ 3066) (T : xt h) (kk : ∀ (i : Int32) (h' : xe_H), i.toInt = x4.toInt + 6 → xk [(29, 0), (31, 0), (33, 0), (35, 0), (37, 0), (39, 0), (41, 0), (43, 0), (45, 0), (47, 0), (49, 0), (51, 0), (125, 0), (29, 2), (31, 2), (33, 2), (35, 2), (37, 2), (39, 2), (41, 2), (43, 2), (45, 2), (47, 2), (49, 2), (51, 2), (127, 0), (1, 5), (115, 23)] h h' → xw J ov 100 195 (23, [(4, .int i), (3, .ref 167), (2, .ref 115), (1, .ref 0), (0, .ref 1000000)], [], h') Q) : xw J ov 100 195 (855, [(4, .int x4), (3, .ref 167), (2, .ref 115), (1, .ref 0), (0, .ref 1000000)], [], h) Q := by
  have K : xk [(29, 0), (31, 0), (33, 0), (35, 0), (37, 0), (39, 0), (41, 0), (43, 0), (45, 0), (47, 0), (49, 0), (51, 0), (125, 0), (29, 2), (31, 2), (33, 2), (35, 2), (37, 2), (39, 2), (41, 2), (43, 2), (45, 2), (47, 2), (49, 2), (51, 2), (127, 0), (1, 5), (115, 23)] h h := xk_re T
  refine xi_aload_n (pc' := 856) (x := 0) kc_195_855 rfl rfl ?_
  obtain ⟨u1, u2, bu1, bu2, A3⟩ := xq_0 K.1
  refine xi_virtual (mj := 144) (as := []) (st1 := []) (lv0 := [(0, .ref 0)]) kc_195_856 rfl rfl rfl rfl rfl A3 (Nat.le_of_ble_eq_true rfl) (hJ _ _ _ _ (by decide)) (xm_le ml_144 rfl) rfl ?_
  refine mt_144_0 hJ hov1 hov2 (d := 92)  K.1 (fun r4 hh5 br4 K6 => ?_)
  have K7 := xk_tr K K6 rfl
  obtain ⟨u8, u9, bu8, bu9, A10⟩ := xq_0 K7.1
  have e11 : u2 = u9 := xk_eqi (q := 9) K6 rfl A3 A10 rfl rfl
  subst e11
  show xw J ov 100 195 (859, [(4, .int x4), (3, .ref 167), (2, .ref 115), (1, .ref 0), (0, .ref 1000000)], [.int r4], hh5) _
  refine xi_pop (pc' := 860) kc_195_859 rfl rfl ?_
  refine xi_aload_n (pc' := 861) (x := 115) kc_195_860 rfl rfl ?_
  obtain ⟨u12, u13, u14, u15, u16, u17, u18, u19, u20, u21, u22, u23, u24, bu12, bu13, bu14, bu15, bu16, bu17, bu18, bu19, bu20, bu21, bu22, bu23, bu24, A25⟩ := xq_115 K7.1
  refine xi_virtual (mj := 47) (as := []) (st1 := []) (lv0 := [(0, .ref 115)]) kc_195_861 rfl rfl rfl rfl rfl A25 (Nat.le_of_ble_eq_true rfl) (hJ _ _ _ _ (by decide)) (xm_le ml_47 rfl) rfl ?_
  refine mt_47_0 hJ hov1 hov2 (d := 91)  K7.1 (fun r26 hh27 br26 K28 => ?_)
  have K29 := xk_tr K7 K28 rfl
  obtain ⟨u30, u31, bu30, bu31, A32⟩ := xq_0 K29.1
  have e33 : u2 = u31 := xk_eqi (q := 9) K28 rfl A10 A32 rfl rfl
  subst e33
  obtain ⟨u34, u35, u36, u37, u38, u39, u40, u41, u42, u43, u44, u45, u46, bu34, bu35, bu36, bu37, bu38, bu39, bu40, bu41, bu42, bu43, bu44, bu45, bu46, A47⟩ := xq_115 K29.1
  have e48 : u13 = u35 := xk_eqi (q := 1) K28 rfl A25 A47 rfl rfl
  subst e48
  have e49 : u16 = u38 := xk_eqi (q := 23) K28 rfl A25 A47 rfl rfl
  subst e49
  show xw J ov 100 195 (864, [(4, .int x4), (3, .ref 167), (2, .ref 115), (1, .ref 0), (0, .ref 1000000)], [.int r26], hh27) _
  refine xi_pop (pc' := 865) kc_195_864 rfl rfl ?_
  refine xi_goto (pc' := 1501) kc_195_865 rfl ?_
  obtain ⟨v50, ev50⟩ : ∃ q : Int32, x4 + 6 = q := ⟨_, rfl⟩
  have zv50 : v50.toInt = (x4.toInt + 6) := by rw [← ev50]; exact (xz_add (X := x4.toInt) (Y := 6) rfl (by decide) (by omega) (by omega)).trans (by omega)
  refine xi_iinc (pc' := 1504) (x := x4) (v := v50) (lv' := [(4, .int v50), (3, .ref 167), (2, .ref 115), (1, .ref 0), (0, .ref 1000000)]) kc_195_1501 rfl rfl ev50 rfl (xm_lt ml_195 rfl) ?_
  refine xi_goto (pc' := 23) kc_195_1504 rfl ?_
  exact kk v50 hh27 (by omega) K29
set_option maxHeartbeats 8000000 in
theorem lc_17 {J : xe_J} {ov : List (List Int32)} (hJ : ∀ d mj as h, mj ≠ xe_loff → J d mj as h = none) (hov1 : ov[1]? = some [10, 0, 0, 0, 0, 0]) (hov2 : ov[2]? = some [99, 30, 50, 50, 1, 99999]) {xs : List Int32} (hov0 : ov[0]? = some xs) {Q : Option Value → xe_H → Prop} {h : xe_H} {x4 : Int32} (hi0 : 0 ≤ x4.toInt) (hi1 : x4.toInt + 6 ≤ xs.length) (hi2 : x4.toInt ≤ 3066) (T : xt h) (kk : ∀ (i : Int32) (h' : xe_H), i.toInt = x4.toInt + 6 → xk [(29, 0), (31, 0), (33, 0), (35, 0), (37, 0), (39, 0), (41, 0), (43, 0), (45, 0), (47, 0), (49, 0), (51, 0), (125, 0), (29, 2), (31, 2), (33, 2), (35, 2), (37, 2), (39, 2), (41, 2), (43, 2), (45, 2), (47, 2), (49, 2), (51, 2), (127, 0), (1, 5), (115, 23)] h h' → xw J ov 100 195 (23, [(4, .int i), (3, .ref 167), (2, .ref 115), (1, .ref 0), (0, .ref 1000000)], [], h') Q) : xw J ov 100 195 (868, [(4, .int x4), (3, .ref 167), (2, .ref 115), (1, .ref 0), (0, .ref 1000000)], [], h) Q := by
  have K : xk [(29, 0), (31, 0), (33, 0), (35, 0), (37, 0), (39, 0), (41, 0), (43, 0), (45, 0), (47, 0), (49, 0), (51, 0), (125, 0), (29, 2), (31, 2), (33, 2), (35, 2), (37, 2), (39, 2), (41, 2), (43, 2), (45, 2), (47, 2), (49, 2), (51, 2), (127, 0), (1, 5), (115, 23)] h h := xk_re T
  refine xi_aload_n (pc' := 869) (x := 0) kc_195_868 rfl rfl ?_
  refine xi_aload_n (pc' := 870) (x := 1000000) kc_195_869 rfl rfl ?_
  refine xi_iload (pc' := 872) (x := x4) kc_195_870 rfl rfl ?_
  refine xi_iconst (pc' := 873) (v := 1) kc_195_872 rfl rfl ?_
  obtain ⟨v1, ev1⟩ : ∃ q : Int32, x4 + 1 = q := ⟨_, rfl⟩
  have zv1 : v1.toInt = (x4.toInt + 1) := by rw [← ev1]; exact (xz_add (X := x4.toInt) (Y := 1) rfl (by decide) (by omega) (by omega)).trans (by omega)
  refine xi_iadd (pc' := 874) (v := v1) kc_195_873 rfl ev1 ?_
  obtain ⟨a2, ea2⟩ : ∃ q : Int32, xs.getD (Int32.toNatClampNeg v1) 0 = q := ⟨_, rfl⟩
  have ra2 := xc_rng a2
  refine xi_ialoadO (pc' := 875) (v := a2) kc_195_874 rfl (by decide) hov0 (xi_in (by omega) (by omega)) ea2 ?_
  obtain ⟨u3, u4, bu3, bu4, A5⟩ := xq_0 K.1
  refine xi_virtual (mj := 148) (as := [.int a2]) (st1 := []) (lv0 := [(0, .ref 0), (1, .int a2)]) kc_195_875 rfl rfl rfl rfl rfl A5 (Nat.le_of_ble_eq_true rfl) (hJ _ _ _ _ (by decide)) (xm_le ml_148 rfl) rfl ?_
  refine mt_148_0 hJ hov1 hov2 (d := 92) (x1 := a2) K.1 (fun r6 hh7 K8 => ?_)
  have br6 := xc_rng r6
  have K9 := xk_tr K K8 rfl
  obtain ⟨u10, u11, bu10, bu11, A12⟩ := xq_0 K9.1
  have e13 : u4 = u11 := xk_eqi (q := 9) K8 rfl A5 A12 rfl rfl
  subst e13
  show xw J ov 100 195 (878, [(4, .int x4), (3, .ref 167), (2, .ref 115), (1, .ref 0), (0, .ref 1000000)], [.int r6], hh7) _
  refine xi_pop (pc' := 879) kc_195_878 rfl rfl ?_
  refine xi_aload_n (pc' := 880) (x := 115) kc_195_879 rfl rfl ?_
  refine xi_aload_n (pc' := 881) (x := 1000000) kc_195_880 rfl rfl ?_
  refine xi_iload (pc' := 883) (x := x4) kc_195_881 rfl rfl ?_
  refine xi_iconst (pc' := 884) (v := 1) kc_195_883 rfl rfl ?_
  refine xi_iadd (pc' := 885) (v := v1) kc_195_884 rfl ev1 ?_
  refine xi_ialoadO (pc' := 886) (v := a2) kc_195_885 rfl (by decide) hov0 (xi_in (by omega) (by omega)) ea2 ?_
  obtain ⟨u14, u15, u16, u17, u18, u19, u20, u21, u22, u23, u24, u25, u26, bu14, bu15, bu16, bu17, bu18, bu19, bu20, bu21, bu22, bu23, bu24, bu25, bu26, A27⟩ := xq_115 K9.1
  refine xi_virtual (mj := 50) (as := [.int a2]) (st1 := []) (lv0 := [(0, .ref 115), (1, .int a2)]) kc_195_886 rfl rfl rfl rfl rfl A27 (Nat.le_of_ble_eq_true rfl) (hJ _ _ _ _ (by decide)) (xm_le ml_50 rfl) rfl ?_
  refine mt_50_0 hJ hov1 hov2 (d := 92) (x1 := a2) K9.1 (fun r28 hh29 K30 => ?_)
  have br28 := xc_rng r28
  have K31 := xk_tr K9 K30 rfl
  obtain ⟨u32, u33, bu32, bu33, A34⟩ := xq_0 K31.1
  have e35 : u4 = u33 := xk_eqi (q := 9) K30 rfl A12 A34 rfl rfl
  subst e35
  obtain ⟨u36, u37, u38, u39, u40, u41, u42, u43, u44, u45, u46, u47, u48, bu36, bu37, bu38, bu39, bu40, bu41, bu42, bu43, bu44, bu45, bu46, bu47, bu48, A49⟩ := xq_115 K31.1
  have e50 : u15 = u37 := xk_eqi (q := 1) K30 rfl A27 A49 rfl rfl
  subst e50
  have e51 : u18 = u40 := xk_eqi (q := 23) K30 rfl A27 A49 rfl rfl
  subst e51
  show xw J ov 100 195 (889, [(4, .int x4), (3, .ref 167), (2, .ref 115), (1, .ref 0), (0, .ref 1000000)], [.int r28], hh29) _
  refine xi_pop (pc' := 890) kc_195_889 rfl rfl ?_
  refine xi_goto (pc' := 1501) kc_195_890 rfl ?_
  obtain ⟨v52, ev52⟩ : ∃ q : Int32, x4 + 6 = q := ⟨_, rfl⟩
  have zv52 : v52.toInt = (x4.toInt + 6) := by rw [← ev52]; exact (xz_add (X := x4.toInt) (Y := 6) rfl (by decide) (by omega) (by omega)).trans (by omega)
  refine xi_iinc (pc' := 1504) (x := x4) (v := v52) (lv' := [(4, .int v52), (3, .ref 167), (2, .ref 115), (1, .ref 0), (0, .ref 1000000)]) kc_195_1501 rfl rfl ev52 rfl (xm_lt ml_195 rfl) ?_
  refine xi_goto (pc' := 23) kc_195_1504 rfl ?_
  exact kk v52 hh29 (by omega) K31
set_option maxHeartbeats 8000000 in
theorem lc_18 {J : xe_J} {ov : List (List Int32)} (hJ : ∀ d mj as h, mj ≠ xe_loff → J d mj as h = none) (hov1 : ov[1]? = some [10, 0, 0, 0, 0, 0]) (hov2 : ov[2]? = some [99, 30, 50, 50, 1, 99999]) {xs : List Int32} (hov0 : ov[0]? = some xs) {Q : Option Value → xe_H → Prop} {h : xe_H} {x4 : Int32} (hi0 : 0 ≤ x4.toInt) (hi1 : x4.toInt + 6 ≤ xs.length) (hi2 : x4.toInt ≤ 3066) (T : xt h) (kk : ∀ (i : Int32) (h' : xe_H), i.toInt = x4.toInt + 6 → xk [(29, 0), (31, 0), (33, 0), (35, 0), (37, 0), (39, 0), (41, 0), (43, 0), (45, 0), (47, 0), (49, 0), (51, 0), (125, 0), (29, 2), (31, 2), (33, 2), (35, 2), (37, 2), (39, 2), (41, 2), (43, 2), (45, 2), (47, 2), (49, 2), (51, 2), (127, 0), (1, 5), (115, 23)] h h' → xw J ov 100 195 (23, [(4, .int i), (3, .ref 167), (2, .ref 115), (1, .ref 0), (0, .ref 1000000)], [], h') Q) : xw J ov 100 195 (893, [(4, .int x4), (3, .ref 167), (2, .ref 115), (1, .ref 0), (0, .ref 1000000)], [], h) Q := by
  have K : xk [(29, 0), (31, 0), (33, 0), (35, 0), (37, 0), (39, 0), (41, 0), (43, 0), (45, 0), (47, 0), (49, 0), (51, 0), (125, 0), (29, 2), (31, 2), (33, 2), (35, 2), (37, 2), (39, 2), (41, 2), (43, 2), (45, 2), (47, 2), (49, 2), (51, 2), (127, 0), (1, 5), (115, 23)] h h := xk_re T
  refine xi_aload_n (pc' := 894) (x := 0) kc_195_893 rfl rfl ?_
  obtain ⟨u1, u2, bu1, bu2, A3⟩ := xq_0 K.1
  refine xi_virtual (mj := 151) (as := []) (st1 := []) (lv0 := [(0, .ref 0)]) kc_195_894 rfl rfl rfl rfl rfl A3 (Nat.le_of_ble_eq_true rfl) (hJ _ _ _ _ (by decide)) (xm_le ml_151 rfl) rfl ?_
  refine mt_151_0 hJ hov1 hov2 (d := 91)  K.1 (fun r4 hh5 K6 => ?_)
  have br4 := xc_rng r4
  have K7 := xk_tr K K6 rfl
  obtain ⟨u8, u9, bu8, bu9, A10⟩ := xq_0 K7.1
  have e11 : u2 = u9 := xk_eqi (q := 9) K6 rfl A3 A10 rfl rfl
  subst e11
  show xw J ov 100 195 (897, [(4, .int x4), (3, .ref 167), (2, .ref 115), (1, .ref 0), (0, .ref 1000000)], [.int r4], hh5) _
  refine xi_pop (pc' := 898) kc_195_897 rfl rfl ?_
  refine xi_aload_n (pc' := 899) (x := 115) kc_195_898 rfl rfl ?_
  obtain ⟨u12, u13, u14, u15, u16, u17, u18, u19, u20, u21, u22, u23, u24, bu12, bu13, bu14, bu15, bu16, bu17, bu18, bu19, bu20, bu21, bu22, bu23, bu24, A25⟩ := xq_115 K7.1
  refine xi_virtual (mj := 51) (as := []) (st1 := []) (lv0 := [(0, .ref 115)]) kc_195_899 rfl rfl rfl rfl rfl A25 (Nat.le_of_ble_eq_true rfl) (hJ _ _ _ _ (by decide)) (xm_le ml_51 rfl) rfl ?_
  refine mt_51_0 hJ hov1 hov2 (d := 91)  K7.1 (fun r26 hh27 K28 => ?_)
  have br26 := xc_rng r26
  have K29 := xk_tr K7 K28 rfl
  obtain ⟨u30, u31, bu30, bu31, A32⟩ := xq_0 K29.1
  have e33 : u2 = u31 := xk_eqi (q := 9) K28 rfl A10 A32 rfl rfl
  subst e33
  obtain ⟨u34, u35, u36, u37, u38, u39, u40, u41, u42, u43, u44, u45, u46, bu34, bu35, bu36, bu37, bu38, bu39, bu40, bu41, bu42, bu43, bu44, bu45, bu46, A47⟩ := xq_115 K29.1
  have e48 : u13 = u35 := xk_eqi (q := 1) K28 rfl A25 A47 rfl rfl
  subst e48
  have e49 : u16 = u38 := xk_eqi (q := 23) K28 rfl A25 A47 rfl rfl
  subst e49
  show xw J ov 100 195 (902, [(4, .int x4), (3, .ref 167), (2, .ref 115), (1, .ref 0), (0, .ref 1000000)], [.int r26], hh27) _
  refine xi_pop (pc' := 903) kc_195_902 rfl rfl ?_
  refine xi_goto (pc' := 1501) kc_195_903 rfl ?_
  obtain ⟨v50, ev50⟩ : ∃ q : Int32, x4 + 6 = q := ⟨_, rfl⟩
  have zv50 : v50.toInt = (x4.toInt + 6) := by rw [← ev50]; exact (xz_add (X := x4.toInt) (Y := 6) rfl (by decide) (by omega) (by omega)).trans (by omega)
  refine xi_iinc (pc' := 1504) (x := x4) (v := v50) (lv' := [(4, .int v50), (3, .ref 167), (2, .ref 115), (1, .ref 0), (0, .ref 1000000)]) kc_195_1501 rfl rfl ev50 rfl (xm_lt ml_195 rfl) ?_
  refine xi_goto (pc' := 23) kc_195_1504 rfl ?_
  exact kk v50 hh27 (by omega) K29
set_option maxHeartbeats 8000000 in
theorem lc_19 {J : xe_J} {ov : List (List Int32)} (hJ : ∀ d mj as h, mj ≠ xe_loff → J d mj as h = none) (hov1 : ov[1]? = some [10, 0, 0, 0, 0, 0]) (hov2 : ov[2]? = some [99, 30, 50, 50, 1, 99999]) {xs : List Int32} (hov0 : ov[0]? = some xs) {Q : Option Value → xe_H → Prop} {h : xe_H} {x4 : Int32} (hi0 : 0 ≤ x4.toInt) (hi1 : x4.toInt + 6 ≤ xs.length) (hi2 : x4.toInt ≤ 3066) (T : xt h) (kk : ∀ (i : Int32) (h' : xe_H), i.toInt = x4.toInt + 6 → xk [(29, 0), (31, 0), (33, 0), (35, 0), (37, 0), (39, 0), (41, 0), (43, 0), (45, 0), (47, 0), (49, 0), (51, 0), (125, 0), (29, 2), (31, 2), (33, 2), (35, 2), (37, 2), (39, 2), (41, 2), (43, 2), (45, 2), (47, 2), (49, 2), (51, 2), (127, 0), (1, 5), (115, 23)] h h' → xw J ov 100 195 (23, [(4, .int i), (3, .ref 167), (2, .ref 115), (1, .ref 0), (0, .ref 1000000)], [], h') Q) : xw J ov 100 195 (906, [(4, .int x4), (3, .ref 167), (2, .ref 115), (1, .ref 0), (0, .ref 1000000)], [], h) Q := by
  have K : xk [(29, 0), (31, 0), (33, 0), (35, 0), (37, 0), (39, 0), (41, 0), (43, 0), (45, 0), (47, 0), (49, 0), (51, 0), (125, 0), (29, 2), (31, 2), (33, 2), (35, 2), (37, 2), (39, 2), (41, 2), (43, 2), (45, 2), (47, 2), (49, 2), (51, 2), (127, 0), (1, 5), (115, 23)] h h := xk_re T
  refine xi_aload_n (pc' := 907) (x := 0) kc_195_906 rfl rfl ?_
  refine xi_aload_n (pc' := 908) (x := 1000000) kc_195_907 rfl rfl ?_
  refine xi_iload (pc' := 910) (x := x4) kc_195_908 rfl rfl ?_
  refine xi_iconst (pc' := 911) (v := 1) kc_195_910 rfl rfl ?_
  obtain ⟨v1, ev1⟩ : ∃ q : Int32, x4 + 1 = q := ⟨_, rfl⟩
  have zv1 : v1.toInt = (x4.toInt + 1) := by rw [← ev1]; exact (xz_add (X := x4.toInt) (Y := 1) rfl (by decide) (by omega) (by omega)).trans (by omega)
  refine xi_iadd (pc' := 912) (v := v1) kc_195_911 rfl ev1 ?_
  obtain ⟨a2, ea2⟩ : ∃ q : Int32, xs.getD (Int32.toNatClampNeg v1) 0 = q := ⟨_, rfl⟩
  have ra2 := xc_rng a2
  refine xi_ialoadO (pc' := 913) (v := a2) kc_195_912 rfl (by decide) hov0 (xi_in (by omega) (by omega)) ea2 ?_
  refine xi_aload_n (pc' := 914) (x := 1000000) kc_195_913 rfl rfl ?_
  refine xi_iload (pc' := 916) (x := x4) kc_195_914 rfl rfl ?_
  refine xi_iconst (pc' := 917) (v := 2) kc_195_916 rfl rfl ?_
  obtain ⟨v3, ev3⟩ : ∃ q : Int32, x4 + 2 = q := ⟨_, rfl⟩
  have zv3 : v3.toInt = (x4.toInt + 2) := by rw [← ev3]; exact (xz_add (X := x4.toInt) (Y := 2) rfl (by decide) (by omega) (by omega)).trans (by omega)
  refine xi_iadd (pc' := 918) (v := v3) kc_195_917 rfl ev3 ?_
  obtain ⟨a4, ea4⟩ : ∃ q : Int32, xs.getD (Int32.toNatClampNeg v3) 0 = q := ⟨_, rfl⟩
  have ra4 := xc_rng a4
  refine xi_ialoadO (pc' := 919) (v := a4) kc_195_918 rfl (by decide) hov0 (xi_in (by omega) (by omega)) ea4 ?_
  obtain ⟨u5, u6, bu5, bu6, A7⟩ := xq_0 K.1
  refine xi_virtual (mj := 155) (as := [.int a2, .int a4]) (st1 := []) (lv0 := [(0, .ref 0), (1, .int a2), (2, .int a4)]) kc_195_919 rfl rfl rfl rfl rfl A7 (Nat.le_of_ble_eq_true rfl) (hJ _ _ _ _ (by decide)) (xm_le ml_155 rfl) rfl ?_
  refine mt_155_0 hJ hov1 hov2 (d := 97) (x1 := a2) (x2 := a4) K.1 (fun r8 hh9 br8 K10 => ?_)
  have K11 := xk_tr K K10 rfl
  obtain ⟨u12, u13, bu12, bu13, A14⟩ := xq_0 K11.1
  have e15 : u6 = u13 := xk_eqi (q := 9) K10 rfl A7 A14 rfl rfl
  subst e15
  show xw J ov 100 195 (922, [(4, .int x4), (3, .ref 167), (2, .ref 115), (1, .ref 0), (0, .ref 1000000)], [.int r8], hh9) _
  refine xi_pop (pc' := 923) kc_195_922 rfl rfl ?_
  refine xi_aload_n (pc' := 924) (x := 115) kc_195_923 rfl rfl ?_
  refine xi_aload_n (pc' := 925) (x := 1000000) kc_195_924 rfl rfl ?_
  refine xi_iload (pc' := 927) (x := x4) kc_195_925 rfl rfl ?_
  refine xi_iconst (pc' := 928) (v := 1) kc_195_927 rfl rfl ?_
  refine xi_iadd (pc' := 929) (v := v1) kc_195_928 rfl ev1 ?_
  refine xi_ialoadO (pc' := 930) (v := a2) kc_195_929 rfl (by decide) hov0 (xi_in (by omega) (by omega)) ea2 ?_
  refine xi_aload_n (pc' := 931) (x := 1000000) kc_195_930 rfl rfl ?_
  refine xi_iload (pc' := 933) (x := x4) kc_195_931 rfl rfl ?_
  refine xi_iconst (pc' := 934) (v := 2) kc_195_933 rfl rfl ?_
  refine xi_iadd (pc' := 935) (v := v3) kc_195_934 rfl ev3 ?_
  refine xi_ialoadO (pc' := 936) (v := a4) kc_195_935 rfl (by decide) hov0 (xi_in (by omega) (by omega)) ea4 ?_
  obtain ⟨u16, u17, u18, u19, u20, u21, u22, u23, u24, u25, u26, u27, u28, bu16, bu17, bu18, bu19, bu20, bu21, bu22, bu23, bu24, bu25, bu26, bu27, bu28, A29⟩ := xq_115 K11.1
  refine xi_virtual (mj := 55) (as := [.int a2, .int a4]) (st1 := []) (lv0 := [(0, .ref 115), (1, .int a2), (2, .int a4)]) kc_195_936 rfl rfl rfl rfl rfl A29 (Nat.le_of_ble_eq_true rfl) (hJ _ _ _ _ (by decide)) (xm_le ml_55 rfl) rfl ?_
  refine mt_55_0 hJ hov1 hov2 (d := 98) (x1 := a2) (x2 := a4) K11.1 (fun r30 hh31 br30 K32 => ?_)
  have K33 := xk_tr K11 K32 rfl
  obtain ⟨u34, u35, bu34, bu35, A36⟩ := xq_0 K33.1
  have e37 : u6 = u35 := xk_eqi (q := 9) K32 rfl A14 A36 rfl rfl
  subst e37
  obtain ⟨u38, u39, u40, u41, u42, u43, u44, u45, u46, u47, u48, u49, u50, bu38, bu39, bu40, bu41, bu42, bu43, bu44, bu45, bu46, bu47, bu48, bu49, bu50, A51⟩ := xq_115 K33.1
  have e52 : u17 = u39 := xk_eqi (q := 1) K32 rfl A29 A51 rfl rfl
  subst e52
  have e53 : u20 = u42 := xk_eqi (q := 23) K32 rfl A29 A51 rfl rfl
  subst e53
  show xw J ov 100 195 (939, [(4, .int x4), (3, .ref 167), (2, .ref 115), (1, .ref 0), (0, .ref 1000000)], [.int r30], hh31) _
  refine xi_pop (pc' := 940) kc_195_939 rfl rfl ?_
  refine xi_goto (pc' := 1501) kc_195_940 rfl ?_
  obtain ⟨v54, ev54⟩ : ∃ q : Int32, x4 + 6 = q := ⟨_, rfl⟩
  have zv54 : v54.toInt = (x4.toInt + 6) := by rw [← ev54]; exact (xz_add (X := x4.toInt) (Y := 6) rfl (by decide) (by omega) (by omega)).trans (by omega)
  refine xi_iinc (pc' := 1504) (x := x4) (v := v54) (lv' := [(4, .int v54), (3, .ref 167), (2, .ref 115), (1, .ref 0), (0, .ref 1000000)]) kc_195_1501 rfl rfl ev54 rfl (xm_lt ml_195 rfl) ?_
  refine xi_goto (pc' := 23) kc_195_1504 rfl ?_
  exact kk v54 hh31 (by omega) K33
set_option maxHeartbeats 8000000 in
theorem lc_20 {J : xe_J} {ov : List (List Int32)} (hJ : ∀ d mj as h, mj ≠ xe_loff → J d mj as h = none) (hov1 : ov[1]? = some [10, 0, 0, 0, 0, 0]) (hov2 : ov[2]? = some [99, 30, 50, 50, 1, 99999]) {xs : List Int32} (hov0 : ov[0]? = some xs) {Q : Option Value → xe_H → Prop} {h : xe_H} {x4 : Int32} (hi0 : 0 ≤ x4.toInt) (hi1 : x4.toInt + 6 ≤ xs.length) (hi2 : x4.toInt ≤ 3066) (T : xt h) (kk : ∀ (i : Int32) (h' : xe_H), i.toInt = x4.toInt + 6 → xk [(29, 0), (31, 0), (33, 0), (35, 0), (37, 0), (39, 0), (41, 0), (43, 0), (45, 0), (47, 0), (49, 0), (51, 0), (125, 0), (29, 2), (31, 2), (33, 2), (35, 2), (37, 2), (39, 2), (41, 2), (43, 2), (45, 2), (47, 2), (49, 2), (51, 2), (127, 0), (1, 5), (115, 23)] h h' → xw J ov 100 195 (23, [(4, .int i), (3, .ref 167), (2, .ref 115), (1, .ref 0), (0, .ref 1000000)], [], h') Q) : xw J ov 100 195 (943, [(4, .int x4), (3, .ref 167), (2, .ref 115), (1, .ref 0), (0, .ref 1000000)], [], h) Q := by
  have K : xk [(29, 0), (31, 0), (33, 0), (35, 0), (37, 0), (39, 0), (41, 0), (43, 0), (45, 0), (47, 0), (49, 0), (51, 0), (125, 0), (29, 2), (31, 2), (33, 2), (35, 2), (37, 2), (39, 2), (41, 2), (43, 2), (45, 2), (47, 2), (49, 2), (51, 2), (127, 0), (1, 5), (115, 23)] h h := xk_re T
  refine xi_aload_n (pc' := 944) (x := 0) kc_195_943 rfl rfl ?_
  refine xi_aload_n (pc' := 945) (x := 1000000) kc_195_944 rfl rfl ?_
  refine xi_iload (pc' := 947) (x := x4) kc_195_945 rfl rfl ?_
  refine xi_iconst (pc' := 948) (v := 1) kc_195_947 rfl rfl ?_
  obtain ⟨v1, ev1⟩ : ∃ q : Int32, x4 + 1 = q := ⟨_, rfl⟩
  have zv1 : v1.toInt = (x4.toInt + 1) := by rw [← ev1]; exact (xz_add (X := x4.toInt) (Y := 1) rfl (by decide) (by omega) (by omega)).trans (by omega)
  refine xi_iadd (pc' := 949) (v := v1) kc_195_948 rfl ev1 ?_
  obtain ⟨a2, ea2⟩ : ∃ q : Int32, xs.getD (Int32.toNatClampNeg v1) 0 = q := ⟨_, rfl⟩
  have ra2 := xc_rng a2
  refine xi_ialoadO (pc' := 950) (v := a2) kc_195_949 rfl (by decide) hov0 (xi_in (by omega) (by omega)) ea2 ?_
  refine xi_aload_n (pc' := 951) (x := 1000000) kc_195_950 rfl rfl ?_
  refine xi_iload (pc' := 953) (x := x4) kc_195_951 rfl rfl ?_
  refine xi_iconst (pc' := 954) (v := 2) kc_195_953 rfl rfl ?_
  obtain ⟨v3, ev3⟩ : ∃ q : Int32, x4 + 2 = q := ⟨_, rfl⟩
  have zv3 : v3.toInt = (x4.toInt + 2) := by rw [← ev3]; exact (xz_add (X := x4.toInt) (Y := 2) rfl (by decide) (by omega) (by omega)).trans (by omega)
  refine xi_iadd (pc' := 955) (v := v3) kc_195_954 rfl ev3 ?_
  obtain ⟨a4, ea4⟩ : ∃ q : Int32, xs.getD (Int32.toNatClampNeg v3) 0 = q := ⟨_, rfl⟩
  have ra4 := xc_rng a4
  refine xi_ialoadO (pc' := 956) (v := a4) kc_195_955 rfl (by decide) hov0 (xi_in (by omega) (by omega)) ea4 ?_
  by_cases c5 : a4.toInt = 0
  · refine xi_ift (pc' := 963) kc_195_956 rfl (xc_eq_t (X := a4.toInt) (Y := 0) rfl (by decide) (by omega)) ?_
    refine xi_iconst (pc' := 964) (v := 0) kc_195_963 rfl rfl ?_
    obtain ⟨u6, u7, bu6, bu7, A8⟩ := xq_0 K.1
    refine xi_virtual (mj := 157) (as := [.int a2, .int 0]) (st1 := []) (lv0 := [(0, .ref 0), (1, .int a2), (2, .int 0)]) kc_195_964 rfl rfl rfl rfl rfl A8 (Nat.le_of_ble_eq_true rfl) (hJ _ _ _ _ (by decide)) (xm_le ml_157 rfl) rfl ?_
    have zc0 : (0 : Int32).toInt = 0 := by decide
    refine mt_157_0 hJ hov1 hov2 (d := 91) (x1 := a2) (x2 := 0) K.1 (by first | omega | decide) (fun r9 hh10 K11 => ?_)
    have br9 := xc_rng r9
    have K12 := xk_tr K K11 rfl
    obtain ⟨u13, u14, bu13, bu14, A15⟩ := xq_0 K12.1
    have e16 : u7 = u14 := xk_eqi (q := 9) K11 rfl A8 A15 rfl rfl
    subst e16
    show xw J ov 100 195 (967, [(4, .int x4), (3, .ref 167), (2, .ref 115), (1, .ref 0), (0, .ref 1000000)], [.int r9], hh10) _
    refine xi_pop (pc' := 968) kc_195_967 rfl rfl ?_
    refine xi_aload_n (pc' := 969) (x := 115) kc_195_968 rfl rfl ?_
    refine xi_aload_n (pc' := 970) (x := 1000000) kc_195_969 rfl rfl ?_
    refine xi_iload (pc' := 972) (x := x4) kc_195_970 rfl rfl ?_
    refine xi_iconst (pc' := 973) (v := 1) kc_195_972 rfl rfl ?_
    refine xi_iadd (pc' := 974) (v := v1) kc_195_973 rfl ev1 ?_
    refine xi_ialoadO (pc' := 975) (v := a2) kc_195_974 rfl (by decide) hov0 (xi_in (by omega) (by omega)) ea2 ?_
    refine xi_aload_n (pc' := 976) (x := 1000000) kc_195_975 rfl rfl ?_
    refine xi_iload (pc' := 978) (x := x4) kc_195_976 rfl rfl ?_
    refine xi_iconst (pc' := 979) (v := 2) kc_195_978 rfl rfl ?_
    refine xi_iadd (pc' := 980) (v := v3) kc_195_979 rfl ev3 ?_
    refine xi_ialoadO (pc' := 981) (v := a4) kc_195_980 rfl (by decide) hov0 (xi_in (by omega) (by omega)) ea4 ?_
    refine xi_ift (pc' := 988) kc_195_981 rfl (xc_eq_t (X := a4.toInt) (Y := 0) rfl (by decide) (by omega)) ?_
    refine xi_iconst (pc' := 989) (v := 0) kc_195_988 rfl rfl ?_
    obtain ⟨u17, u18, u19, u20, u21, u22, u23, u24, u25, u26, u27, u28, u29, bu17, bu18, bu19, bu20, bu21, bu22, bu23, bu24, bu25, bu26, bu27, bu28, bu29, A30⟩ := xq_115 K12.1
    refine xi_virtual (mj := 56) (as := [.int a2, .int 0]) (st1 := []) (lv0 := [(0, .ref 115), (1, .int a2), (2, .int 0)]) kc_195_989 rfl rfl rfl rfl rfl A30 (Nat.le_of_ble_eq_true rfl) (hJ _ _ _ _ (by decide)) (xm_le ml_56 rfl) rfl ?_
    have zc0 : (0 : Int32).toInt = 0 := by decide
    refine mt_56_0 hJ hov1 hov2 (d := 91) (x1 := a2) (x2 := 0) K12.1 (by first | omega | decide) (fun r31 hh32 K33 => ?_)
    have br31 := xc_rng r31
    have K34 := xk_tr K12 K33 rfl
    obtain ⟨u35, u36, bu35, bu36, A37⟩ := xq_0 K34.1
    have e38 : u7 = u36 := xk_eqi (q := 9) K33 rfl A15 A37 rfl rfl
    subst e38
    obtain ⟨u39, u40, u41, u42, u43, u44, u45, u46, u47, u48, u49, u50, u51, bu39, bu40, bu41, bu42, bu43, bu44, bu45, bu46, bu47, bu48, bu49, bu50, bu51, A52⟩ := xq_115 K34.1
    have e53 : u18 = u40 := xk_eqi (q := 1) K33 rfl A30 A52 rfl rfl
    subst e53
    have e54 : u21 = u43 := xk_eqi (q := 23) K33 rfl A30 A52 rfl rfl
    subst e54
    show xw J ov 100 195 (992, [(4, .int x4), (3, .ref 167), (2, .ref 115), (1, .ref 0), (0, .ref 1000000)], [.int r31], hh32) _
    refine xi_pop (pc' := 993) kc_195_992 rfl rfl ?_
    refine xi_goto (pc' := 1501) kc_195_993 rfl ?_
    obtain ⟨v55, ev55⟩ : ∃ q : Int32, x4 + 6 = q := ⟨_, rfl⟩
    have zv55 : v55.toInt = (x4.toInt + 6) := by rw [← ev55]; exact (xz_add (X := x4.toInt) (Y := 6) rfl (by decide) (by omega) (by omega)).trans (by omega)
    refine xi_iinc (pc' := 1504) (x := x4) (v := v55) (lv' := [(4, .int v55), (3, .ref 167), (2, .ref 115), (1, .ref 0), (0, .ref 1000000)]) kc_195_1501 rfl rfl ev55 rfl (xm_lt ml_195 rfl) ?_
    refine xi_goto (pc' := 23) kc_195_1504 rfl ?_
    exact kk v55 hh32 (by omega) K34
  · refine xi_iff (pc' := 959) kc_195_956 rfl (xc_eq_f (X := a4.toInt) (Y := 0) rfl (by decide) (by omega)) ?_
    refine xi_iconst (pc' := 960) (v := 1) kc_195_959 rfl rfl ?_
    refine xi_goto (pc' := 964) kc_195_960 rfl ?_
    obtain ⟨u56, u57, bu56, bu57, A58⟩ := xq_0 K.1
    refine xi_virtual (mj := 157) (as := [.int a2, .int 1]) (st1 := []) (lv0 := [(0, .ref 0), (1, .int a2), (2, .int 1)]) kc_195_964 rfl rfl rfl rfl rfl A58 (Nat.le_of_ble_eq_true rfl) (hJ _ _ _ _ (by decide)) (xm_le ml_157 rfl) rfl ?_
    have zc1 : (1 : Int32).toInt = 1 := by decide
    refine mt_157_0 hJ hov1 hov2 (d := 91) (x1 := a2) (x2 := 1) K.1 (by first | omega | decide) (fun r59 hh60 K61 => ?_)
    have br59 := xc_rng r59
    have K62 := xk_tr K K61 rfl
    obtain ⟨u63, u64, bu63, bu64, A65⟩ := xq_0 K62.1
    have e66 : u57 = u64 := xk_eqi (q := 9) K61 rfl A58 A65 rfl rfl
    subst e66
    show xw J ov 100 195 (967, [(4, .int x4), (3, .ref 167), (2, .ref 115), (1, .ref 0), (0, .ref 1000000)], [.int r59], hh60) _
    refine xi_pop (pc' := 968) kc_195_967 rfl rfl ?_
    refine xi_aload_n (pc' := 969) (x := 115) kc_195_968 rfl rfl ?_
    refine xi_aload_n (pc' := 970) (x := 1000000) kc_195_969 rfl rfl ?_
    refine xi_iload (pc' := 972) (x := x4) kc_195_970 rfl rfl ?_
    refine xi_iconst (pc' := 973) (v := 1) kc_195_972 rfl rfl ?_
    refine xi_iadd (pc' := 974) (v := v1) kc_195_973 rfl ev1 ?_
    refine xi_ialoadO (pc' := 975) (v := a2) kc_195_974 rfl (by decide) hov0 (xi_in (by omega) (by omega)) ea2 ?_
    refine xi_aload_n (pc' := 976) (x := 1000000) kc_195_975 rfl rfl ?_
    refine xi_iload (pc' := 978) (x := x4) kc_195_976 rfl rfl ?_
    refine xi_iconst (pc' := 979) (v := 2) kc_195_978 rfl rfl ?_
    refine xi_iadd (pc' := 980) (v := v3) kc_195_979 rfl ev3 ?_
    refine xi_ialoadO (pc' := 981) (v := a4) kc_195_980 rfl (by decide) hov0 (xi_in (by omega) (by omega)) ea4 ?_
    refine xi_iff (pc' := 984) kc_195_981 rfl (xc_eq_f (X := a4.toInt) (Y := 0) rfl (by decide) (by omega)) ?_
    refine xi_iconst (pc' := 985) (v := 1) kc_195_984 rfl rfl ?_
    refine xi_goto (pc' := 989) kc_195_985 rfl ?_
    obtain ⟨u67, u68, u69, u70, u71, u72, u73, u74, u75, u76, u77, u78, u79, bu67, bu68, bu69, bu70, bu71, bu72, bu73, bu74, bu75, bu76, bu77, bu78, bu79, A80⟩ := xq_115 K62.1
    refine xi_virtual (mj := 56) (as := [.int a2, .int 1]) (st1 := []) (lv0 := [(0, .ref 115), (1, .int a2), (2, .int 1)]) kc_195_989 rfl rfl rfl rfl rfl A80 (Nat.le_of_ble_eq_true rfl) (hJ _ _ _ _ (by decide)) (xm_le ml_56 rfl) rfl ?_
    have zc1 : (1 : Int32).toInt = 1 := by decide
    refine mt_56_0 hJ hov1 hov2 (d := 91) (x1 := a2) (x2 := 1) K62.1 (by first | omega | decide) (fun r81 hh82 K83 => ?_)
    have br81 := xc_rng r81
    have K84 := xk_tr K62 K83 rfl
    obtain ⟨u85, u86, bu85, bu86, A87⟩ := xq_0 K84.1
    have e88 : u57 = u86 := xk_eqi (q := 9) K83 rfl A65 A87 rfl rfl
    subst e88
    obtain ⟨u89, u90, u91, u92, u93, u94, u95, u96, u97, u98, u99, u100, u101, bu89, bu90, bu91, bu92, bu93, bu94, bu95, bu96, bu97, bu98, bu99, bu100, bu101, A102⟩ := xq_115 K84.1
    have e103 : u68 = u90 := xk_eqi (q := 1) K83 rfl A80 A102 rfl rfl
    subst e103
    have e104 : u71 = u93 := xk_eqi (q := 23) K83 rfl A80 A102 rfl rfl
    subst e104
    show xw J ov 100 195 (992, [(4, .int x4), (3, .ref 167), (2, .ref 115), (1, .ref 0), (0, .ref 1000000)], [.int r81], hh82) _
    refine xi_pop (pc' := 993) kc_195_992 rfl rfl ?_
    refine xi_goto (pc' := 1501) kc_195_993 rfl ?_
    obtain ⟨v105, ev105⟩ : ∃ q : Int32, x4 + 6 = q := ⟨_, rfl⟩
    have zv105 : v105.toInt = (x4.toInt + 6) := by rw [← ev105]; exact (xz_add (X := x4.toInt) (Y := 6) rfl (by decide) (by omega) (by omega)).trans (by omega)
    refine xi_iinc (pc' := 1504) (x := x4) (v := v105) (lv' := [(4, .int v105), (3, .ref 167), (2, .ref 115), (1, .ref 0), (0, .ref 1000000)]) kc_195_1501 rfl rfl ev105 rfl (xm_lt ml_195 rfl) ?_
    refine xi_goto (pc' := 23) kc_195_1504 rfl ?_
    exact kk v105 hh82 (by omega) K84
set_option maxHeartbeats 8000000 in
theorem lc_21 {J : xe_J} {ov : List (List Int32)} (hJ : ∀ d mj as h, mj ≠ xe_loff → J d mj as h = none) (hov1 : ov[1]? = some [10, 0, 0, 0, 0, 0]) (hov2 : ov[2]? = some [99, 30, 50, 50, 1, 99999]) {xs : List Int32} (hov0 : ov[0]? = some xs) {Q : Option Value → xe_H → Prop} {h : xe_H} {x4 : Int32} (hi0 : 0 ≤ x4.toInt) (hi1 : x4.toInt + 6 ≤ xs.length) (hi2 : x4.toInt ≤ 3066) (T : xt h) (kk : ∀ (i : Int32) (h' : xe_H), i.toInt = x4.toInt + 6 → xk [(29, 0), (31, 0), (33, 0), (35, 0), (37, 0), (39, 0), (41, 0), (43, 0), (45, 0), (47, 0), (49, 0), (51, 0), (125, 0), (29, 2), (31, 2), (33, 2), (35, 2), (37, 2), (39, 2), (41, 2), (43, 2), (45, 2), (47, 2), (49, 2), (51, 2), (127, 0), (1, 5), (115, 23)] h h' → xw J ov 100 195 (23, [(4, .int i), (3, .ref 167), (2, .ref 115), (1, .ref 0), (0, .ref 1000000)], [], h') Q) : xw J ov 100 195 (996, [(4, .int x4), (3, .ref 167), (2, .ref 115), (1, .ref 0), (0, .ref 1000000)], [], h) Q := by
  have K : xk [(29, 0), (31, 0), (33, 0), (35, 0), (37, 0), (39, 0), (41, 0), (43, 0), (45, 0), (47, 0), (49, 0), (51, 0), (125, 0), (29, 2), (31, 2), (33, 2), (35, 2), (37, 2), (39, 2), (41, 2), (43, 2), (45, 2), (47, 2), (49, 2), (51, 2), (127, 0), (1, 5), (115, 23)] h h := xk_re T
  refine xi_aload_n (pc' := 997) (x := 0) kc_195_996 rfl rfl ?_
  obtain ⟨u1, u2, bu1, bu2, A3⟩ := xq_0 K.1
  refine xi_virtual (mj := 158) (as := []) (st1 := []) (lv0 := [(0, .ref 0)]) kc_195_997 rfl rfl rfl rfl rfl A3 (Nat.le_of_ble_eq_true rfl) (hJ _ _ _ _ (by decide)) (xm_le ml_158 rfl) rfl ?_
  refine mt_158_0 hJ hov1 hov2 (d := 91)  K.1 (fun r4 hh5 br4 K6 => ?_)
  have K7 := xk_tr K K6 rfl
  obtain ⟨u8, u9, bu8, bu9, A10⟩ := xq_0 K7.1
  have e11 : u2 = u9 := xk_eqi (q := 9) K6 rfl A3 A10 rfl rfl
  subst e11
  show xw J ov 100 195 (1000, [(4, .int x4), (3, .ref 167), (2, .ref 115), (1, .ref 0), (0, .ref 1000000)], [.int r4], hh5) _
  refine xi_pop (pc' := 1001) kc_195_1000 rfl rfl ?_
  refine xi_aload_n (pc' := 1002) (x := 115) kc_195_1001 rfl rfl ?_
  obtain ⟨u12, u13, u14, u15, u16, u17, u18, u19, u20, u21, u22, u23, u24, bu12, bu13, bu14, bu15, bu16, bu17, bu18, bu19, bu20, bu21, bu22, bu23, bu24, A25⟩ := xq_115 K7.1
  refine xi_virtual (mj := 57) (as := []) (st1 := []) (lv0 := [(0, .ref 115)]) kc_195_1002 rfl rfl rfl rfl rfl A25 (Nat.le_of_ble_eq_true rfl) (hJ _ _ _ _ (by decide)) (xm_le ml_57 rfl) rfl ?_
  refine mt_57_0 hJ hov1 hov2 (d := 91)  K7.1 (fun r26 hh27 br26 K28 => ?_)
  have K29 := xk_tr K7 K28 rfl
  obtain ⟨u30, u31, bu30, bu31, A32⟩ := xq_0 K29.1
  have e33 : u2 = u31 := xk_eqi (q := 9) K28 rfl A10 A32 rfl rfl
  subst e33
  obtain ⟨u34, u35, u36, u37, u38, u39, u40, u41, u42, u43, u44, u45, u46, bu34, bu35, bu36, bu37, bu38, bu39, bu40, bu41, bu42, bu43, bu44, bu45, bu46, A47⟩ := xq_115 K29.1
  have e48 : u13 = u35 := xk_eqi (q := 1) K28 rfl A25 A47 rfl rfl
  subst e48
  have e49 : u16 = u38 := xk_eqi (q := 23) K28 rfl A25 A47 rfl rfl
  subst e49
  show xw J ov 100 195 (1005, [(4, .int x4), (3, .ref 167), (2, .ref 115), (1, .ref 0), (0, .ref 1000000)], [.int r26], hh27) _
  refine xi_pop (pc' := 1006) kc_195_1005 rfl rfl ?_
  refine xi_goto (pc' := 1501) kc_195_1006 rfl ?_
  obtain ⟨v50, ev50⟩ : ∃ q : Int32, x4 + 6 = q := ⟨_, rfl⟩
  have zv50 : v50.toInt = (x4.toInt + 6) := by rw [← ev50]; exact (xz_add (X := x4.toInt) (Y := 6) rfl (by decide) (by omega) (by omega)).trans (by omega)
  refine xi_iinc (pc' := 1504) (x := x4) (v := v50) (lv' := [(4, .int v50), (3, .ref 167), (2, .ref 115), (1, .ref 0), (0, .ref 1000000)]) kc_195_1501 rfl rfl ev50 rfl (xm_lt ml_195 rfl) ?_
  refine xi_goto (pc' := 23) kc_195_1504 rfl ?_
  exact kk v50 hh27 (by omega) K29
set_option maxHeartbeats 8000000 in
theorem lc_22 {J : xe_J} {ov : List (List Int32)} (hJ : ∀ d mj as h, mj ≠ xe_loff → J d mj as h = none) (hov1 : ov[1]? = some [10, 0, 0, 0, 0, 0]) (hov2 : ov[2]? = some [99, 30, 50, 50, 1, 99999]) {xs : List Int32} (hov0 : ov[0]? = some xs) {Q : Option Value → xe_H → Prop} {h : xe_H} {x4 : Int32} (hi0 : 0 ≤ x4.toInt) (hi1 : x4.toInt + 6 ≤ xs.length) (hi2 : x4.toInt ≤ 3066) (T : xt h) (kk : ∀ (i : Int32) (h' : xe_H), i.toInt = x4.toInt + 6 → xk [(29, 0), (31, 0), (33, 0), (35, 0), (37, 0), (39, 0), (41, 0), (43, 0), (45, 0), (47, 0), (49, 0), (51, 0), (125, 0), (29, 2), (31, 2), (33, 2), (35, 2), (37, 2), (39, 2), (41, 2), (43, 2), (45, 2), (47, 2), (49, 2), (51, 2), (127, 0), (1, 5), (115, 23)] h h' → xw J ov 100 195 (23, [(4, .int i), (3, .ref 167), (2, .ref 115), (1, .ref 0), (0, .ref 1000000)], [], h') Q) : xw J ov 100 195 (1009, [(4, .int x4), (3, .ref 167), (2, .ref 115), (1, .ref 0), (0, .ref 1000000)], [], h) Q := by
  have K : xk [(29, 0), (31, 0), (33, 0), (35, 0), (37, 0), (39, 0), (41, 0), (43, 0), (45, 0), (47, 0), (49, 0), (51, 0), (125, 0), (29, 2), (31, 2), (33, 2), (35, 2), (37, 2), (39, 2), (41, 2), (43, 2), (45, 2), (47, 2), (49, 2), (51, 2), (127, 0), (1, 5), (115, 23)] h h := xk_re T
  refine xi_aload_n (pc' := 1010) (x := 0) kc_195_1009 rfl rfl ?_
  obtain ⟨u1, u2, bu1, bu2, A3⟩ := xq_0 K.1
  refine xi_virtual (mj := 160) (as := []) (st1 := []) (lv0 := [(0, .ref 0)]) kc_195_1010 rfl rfl rfl rfl rfl A3 (Nat.le_of_ble_eq_true rfl) (hJ _ _ _ _ (by decide)) (xm_le ml_160 rfl) rfl ?_
  refine mt_160_0 hJ hov1 hov2 (d := 86)  K.1 (fun r4 hh5 K6 => ?_)
  have br4 := xc_rng r4
  have K7 := xk_tr K K6 rfl
  obtain ⟨u8, u9, bu8, bu9, A10⟩ := xq_0 K7.1
  have e11 : u2 = u9 := xk_eqi (q := 9) K6 rfl A3 A10 rfl rfl
  subst e11
  show xw J ov 100 195 (1013, [(4, .int x4), (3, .ref 167), (2, .ref 115), (1, .ref 0), (0, .ref 1000000)], [.int r4], hh5) _
  refine xi_pop (pc' := 1014) kc_195_1013 rfl rfl ?_
  refine xi_aload_n (pc' := 1015) (x := 115) kc_195_1014 rfl rfl ?_
  obtain ⟨u12, u13, u14, u15, u16, u17, u18, u19, u20, u21, u22, u23, u24, bu12, bu13, bu14, bu15, bu16, bu17, bu18, bu19, bu20, bu21, bu22, bu23, bu24, A25⟩ := xq_115 K7.1
  refine xi_virtual (mj := 58) (as := []) (st1 := []) (lv0 := [(0, .ref 115)]) kc_195_1015 rfl rfl rfl rfl rfl A25 (Nat.le_of_ble_eq_true rfl) (hJ _ _ _ _ (by decide)) (xm_le ml_58 rfl) rfl ?_
  refine mt_58_0 hJ hov1 hov2 (d := 92)  K7.1 (fun r26 hh27 K28 => ?_)
  have br26 := xc_rng r26
  have K29 := xk_tr K7 K28 rfl
  obtain ⟨u30, u31, bu30, bu31, A32⟩ := xq_0 K29.1
  have e33 : u2 = u31 := xk_eqi (q := 9) K28 rfl A10 A32 rfl rfl
  subst e33
  obtain ⟨u34, u35, u36, u37, u38, u39, u40, u41, u42, u43, u44, u45, u46, bu34, bu35, bu36, bu37, bu38, bu39, bu40, bu41, bu42, bu43, bu44, bu45, bu46, A47⟩ := xq_115 K29.1
  have e48 : u13 = u35 := xk_eqi (q := 1) K28 rfl A25 A47 rfl rfl
  subst e48
  have e49 : u16 = u38 := xk_eqi (q := 23) K28 rfl A25 A47 rfl rfl
  subst e49
  show xw J ov 100 195 (1018, [(4, .int x4), (3, .ref 167), (2, .ref 115), (1, .ref 0), (0, .ref 1000000)], [.int r26], hh27) _
  refine xi_pop (pc' := 1019) kc_195_1018 rfl rfl ?_
  refine xi_goto (pc' := 1501) kc_195_1019 rfl ?_
  obtain ⟨v50, ev50⟩ : ∃ q : Int32, x4 + 6 = q := ⟨_, rfl⟩
  have zv50 : v50.toInt = (x4.toInt + 6) := by rw [← ev50]; exact (xz_add (X := x4.toInt) (Y := 6) rfl (by decide) (by omega) (by omega)).trans (by omega)
  refine xi_iinc (pc' := 1504) (x := x4) (v := v50) (lv' := [(4, .int v50), (3, .ref 167), (2, .ref 115), (1, .ref 0), (0, .ref 1000000)]) kc_195_1501 rfl rfl ev50 rfl (xm_lt ml_195 rfl) ?_
  refine xi_goto (pc' := 23) kc_195_1504 rfl ?_
  exact kk v50 hh27 (by omega) K29
set_option maxHeartbeats 8000000 in
theorem lc_23 {J : xe_J} {ov : List (List Int32)} (hJ : ∀ d mj as h, mj ≠ xe_loff → J d mj as h = none) (hov1 : ov[1]? = some [10, 0, 0, 0, 0, 0]) (hov2 : ov[2]? = some [99, 30, 50, 50, 1, 99999]) {xs : List Int32} (hov0 : ov[0]? = some xs) {Q : Option Value → xe_H → Prop} {h : xe_H} {x4 : Int32} (hi0 : 0 ≤ x4.toInt) (hi1 : x4.toInt + 6 ≤ xs.length) (hi2 : x4.toInt ≤ 3066) (T : xt h) (kk : ∀ (i : Int32) (h' : xe_H), i.toInt = x4.toInt + 6 → xk [(29, 0), (31, 0), (33, 0), (35, 0), (37, 0), (39, 0), (41, 0), (43, 0), (45, 0), (47, 0), (49, 0), (51, 0), (125, 0), (29, 2), (31, 2), (33, 2), (35, 2), (37, 2), (39, 2), (41, 2), (43, 2), (45, 2), (47, 2), (49, 2), (51, 2), (127, 0), (1, 5), (115, 23)] h h' → xw J ov 100 195 (23, [(4, .int i), (3, .ref 167), (2, .ref 115), (1, .ref 0), (0, .ref 1000000)], [], h') Q) : xw J ov 100 195 (1022, [(4, .int x4), (3, .ref 167), (2, .ref 115), (1, .ref 0), (0, .ref 1000000)], [], h) Q := by
  have K : xk [(29, 0), (31, 0), (33, 0), (35, 0), (37, 0), (39, 0), (41, 0), (43, 0), (45, 0), (47, 0), (49, 0), (51, 0), (125, 0), (29, 2), (31, 2), (33, 2), (35, 2), (37, 2), (39, 2), (41, 2), (43, 2), (45, 2), (47, 2), (49, 2), (51, 2), (127, 0), (1, 5), (115, 23)] h h := xk_re T
  refine xi_aload_n (pc' := 1023) (x := 0) kc_195_1022 rfl rfl ?_
  refine xi_aload_n (pc' := 1024) (x := 1000000) kc_195_1023 rfl rfl ?_
  refine xi_iload (pc' := 1026) (x := x4) kc_195_1024 rfl rfl ?_
  refine xi_iconst (pc' := 1027) (v := 1) kc_195_1026 rfl rfl ?_
  obtain ⟨v1, ev1⟩ : ∃ q : Int32, x4 + 1 = q := ⟨_, rfl⟩
  have zv1 : v1.toInt = (x4.toInt + 1) := by rw [← ev1]; exact (xz_add (X := x4.toInt) (Y := 1) rfl (by decide) (by omega) (by omega)).trans (by omega)
  refine xi_iadd (pc' := 1028) (v := v1) kc_195_1027 rfl ev1 ?_
  obtain ⟨a2, ea2⟩ : ∃ q : Int32, xs.getD (Int32.toNatClampNeg v1) 0 = q := ⟨_, rfl⟩
  have ra2 := xc_rng a2
  refine xi_ialoadO (pc' := 1029) (v := a2) kc_195_1028 rfl (by decide) hov0 (xi_in (by omega) (by omega)) ea2 ?_
  refine xi_aload_n (pc' := 1030) (x := 1000000) kc_195_1029 rfl rfl ?_
  refine xi_iload (pc' := 1032) (x := x4) kc_195_1030 rfl rfl ?_
  refine xi_iconst (pc' := 1033) (v := 2) kc_195_1032 rfl rfl ?_
  obtain ⟨v3, ev3⟩ : ∃ q : Int32, x4 + 2 = q := ⟨_, rfl⟩
  have zv3 : v3.toInt = (x4.toInt + 2) := by rw [← ev3]; exact (xz_add (X := x4.toInt) (Y := 2) rfl (by decide) (by omega) (by omega)).trans (by omega)
  refine xi_iadd (pc' := 1034) (v := v3) kc_195_1033 rfl ev3 ?_
  obtain ⟨a4, ea4⟩ : ∃ q : Int32, xs.getD (Int32.toNatClampNeg v3) 0 = q := ⟨_, rfl⟩
  have ra4 := xc_rng a4
  refine xi_ialoadO (pc' := 1035) (v := a4) kc_195_1034 rfl (by decide) hov0 (xi_in (by omega) (by omega)) ea4 ?_
  refine xi_aload_n (pc' := 1036) (x := 1000000) kc_195_1035 rfl rfl ?_
  refine xi_iload (pc' := 1038) (x := x4) kc_195_1036 rfl rfl ?_
  refine xi_iconst (pc' := 1039) (v := 3) kc_195_1038 rfl rfl ?_
  obtain ⟨v5, ev5⟩ : ∃ q : Int32, x4 + 3 = q := ⟨_, rfl⟩
  have zv5 : v5.toInt = (x4.toInt + 3) := by rw [← ev5]; exact (xz_add (X := x4.toInt) (Y := 3) rfl (by decide) (by omega) (by omega)).trans (by omega)
  refine xi_iadd (pc' := 1040) (v := v5) kc_195_1039 rfl ev5 ?_
  obtain ⟨a6, ea6⟩ : ∃ q : Int32, xs.getD (Int32.toNatClampNeg v5) 0 = q := ⟨_, rfl⟩
  have ra6 := xc_rng a6
  refine xi_ialoadO (pc' := 1041) (v := a6) kc_195_1040 rfl (by decide) hov0 (xi_in (by omega) (by omega)) ea6 ?_
  refine xi_aload_n (pc' := 1042) (x := 1000000) kc_195_1041 rfl rfl ?_
  refine xi_iload (pc' := 1044) (x := x4) kc_195_1042 rfl rfl ?_
  refine xi_iconst (pc' := 1045) (v := 4) kc_195_1044 rfl rfl ?_
  obtain ⟨v7, ev7⟩ : ∃ q : Int32, x4 + 4 = q := ⟨_, rfl⟩
  have zv7 : v7.toInt = (x4.toInt + 4) := by rw [← ev7]; exact (xz_add (X := x4.toInt) (Y := 4) rfl (by decide) (by omega) (by omega)).trans (by omega)
  refine xi_iadd (pc' := 1046) (v := v7) kc_195_1045 rfl ev7 ?_
  obtain ⟨a8, ea8⟩ : ∃ q : Int32, xs.getD (Int32.toNatClampNeg v7) 0 = q := ⟨_, rfl⟩
  have ra8 := xc_rng a8
  refine xi_ialoadO (pc' := 1047) (v := a8) kc_195_1046 rfl (by decide) hov0 (xi_in (by omega) (by omega)) ea8 ?_
  refine xi_aload_n (pc' := 1048) (x := 1000000) kc_195_1047 rfl rfl ?_
  refine xi_iload (pc' := 1050) (x := x4) kc_195_1048 rfl rfl ?_
  refine xi_iconst (pc' := 1051) (v := 5) kc_195_1050 rfl rfl ?_
  obtain ⟨v9, ev9⟩ : ∃ q : Int32, x4 + 5 = q := ⟨_, rfl⟩
  have zv9 : v9.toInt = (x4.toInt + 5) := by rw [← ev9]; exact (xz_add (X := x4.toInt) (Y := 5) rfl (by decide) (by omega) (by omega)).trans (by omega)
  refine xi_iadd (pc' := 1052) (v := v9) kc_195_1051 rfl ev9 ?_
  obtain ⟨a10, ea10⟩ : ∃ q : Int32, xs.getD (Int32.toNatClampNeg v9) 0 = q := ⟨_, rfl⟩
  have ra10 := xc_rng a10
  refine xi_ialoadO (pc' := 1053) (v := a10) kc_195_1052 rfl (by decide) hov0 (xi_in (by omega) (by omega)) ea10 ?_
  obtain ⟨u11, u12, bu11, bu12, A13⟩ := xq_0 K.1
  refine xi_virtual (mj := 163) (as := [.int a2, .int a4, .int a6, .int a8, .int a10]) (st1 := []) (lv0 := [(0, .ref 0), (1, .int a2), (2, .int a4), (3, .int a6), (4, .int a8), (5, .int a10)]) kc_195_1053 rfl rfl rfl rfl rfl A13 (Nat.le_of_ble_eq_true rfl) (hJ _ _ _ _ (by decide)) (xm_le ml_163 rfl) rfl ?_
  refine mt_163_0 hJ hov1 hov2 (d := 97) (x1 := a2) (x2 := a4) (x3 := a6) (x4 := a8) (x5 := a10) K.1 (fun r14 hh15 br14 K16 => ?_)
  have K17 := xk_tr K K16 rfl
  obtain ⟨u18, u19, bu18, bu19, A20⟩ := xq_0 K17.1
  have e21 : u12 = u19 := xk_eqi (q := 9) K16 rfl A13 A20 rfl rfl
  subst e21
  show xw J ov 100 195 (1056, [(4, .int x4), (3, .ref 167), (2, .ref 115), (1, .ref 0), (0, .ref 1000000)], [.int r14], hh15) _
  refine xi_pop (pc' := 1057) kc_195_1056 rfl rfl ?_
  refine xi_aload_n (pc' := 1058) (x := 115) kc_195_1057 rfl rfl ?_
  refine xi_aload_n (pc' := 1059) (x := 1000000) kc_195_1058 rfl rfl ?_
  refine xi_iload (pc' := 1061) (x := x4) kc_195_1059 rfl rfl ?_
  refine xi_iconst (pc' := 1062) (v := 1) kc_195_1061 rfl rfl ?_
  refine xi_iadd (pc' := 1063) (v := v1) kc_195_1062 rfl ev1 ?_
  refine xi_ialoadO (pc' := 1064) (v := a2) kc_195_1063 rfl (by decide) hov0 (xi_in (by omega) (by omega)) ea2 ?_
  refine xi_aload_n (pc' := 1065) (x := 1000000) kc_195_1064 rfl rfl ?_
  refine xi_iload (pc' := 1067) (x := x4) kc_195_1065 rfl rfl ?_
  refine xi_iconst (pc' := 1068) (v := 2) kc_195_1067 rfl rfl ?_
  refine xi_iadd (pc' := 1069) (v := v3) kc_195_1068 rfl ev3 ?_
  refine xi_ialoadO (pc' := 1070) (v := a4) kc_195_1069 rfl (by decide) hov0 (xi_in (by omega) (by omega)) ea4 ?_
  refine xi_aload_n (pc' := 1071) (x := 1000000) kc_195_1070 rfl rfl ?_
  refine xi_iload (pc' := 1073) (x := x4) kc_195_1071 rfl rfl ?_
  refine xi_iconst (pc' := 1074) (v := 3) kc_195_1073 rfl rfl ?_
  refine xi_iadd (pc' := 1075) (v := v5) kc_195_1074 rfl ev5 ?_
  refine xi_ialoadO (pc' := 1076) (v := a6) kc_195_1075 rfl (by decide) hov0 (xi_in (by omega) (by omega)) ea6 ?_
  refine xi_aload_n (pc' := 1077) (x := 1000000) kc_195_1076 rfl rfl ?_
  refine xi_iload (pc' := 1079) (x := x4) kc_195_1077 rfl rfl ?_
  refine xi_iconst (pc' := 1080) (v := 4) kc_195_1079 rfl rfl ?_
  refine xi_iadd (pc' := 1081) (v := v7) kc_195_1080 rfl ev7 ?_
  refine xi_ialoadO (pc' := 1082) (v := a8) kc_195_1081 rfl (by decide) hov0 (xi_in (by omega) (by omega)) ea8 ?_
  refine xi_aload_n (pc' := 1083) (x := 1000000) kc_195_1082 rfl rfl ?_
  refine xi_iload (pc' := 1085) (x := x4) kc_195_1083 rfl rfl ?_
  refine xi_iconst (pc' := 1086) (v := 5) kc_195_1085 rfl rfl ?_
  refine xi_iadd (pc' := 1087) (v := v9) kc_195_1086 rfl ev9 ?_
  refine xi_ialoadO (pc' := 1088) (v := a10) kc_195_1087 rfl (by decide) hov0 (xi_in (by omega) (by omega)) ea10 ?_
  obtain ⟨u22, u23, u24, u25, u26, u27, u28, u29, u30, u31, u32, u33, u34, bu22, bu23, bu24, bu25, bu26, bu27, bu28, bu29, bu30, bu31, bu32, bu33, bu34, A35⟩ := xq_115 K17.1
  refine xi_virtual (mj := 61) (as := [.int a2, .int a4, .int a6, .int a8, .int a10]) (st1 := []) (lv0 := [(0, .ref 115), (1, .int a2), (2, .int a4), (3, .int a6), (4, .int a8), (5, .int a10)]) kc_195_1088 rfl rfl rfl rfl rfl A35 (Nat.le_of_ble_eq_true rfl) (hJ _ _ _ _ (by decide)) (xm_le ml_61 rfl) rfl ?_
  refine mt_61_0 hJ hov1 hov2 (d := 97) (x1 := a2) (x2 := a4) (x3 := a6) (x4 := a8) (x5 := a10) K17.1 (fun r36 hh37 br36 K38 => ?_)
  have K39 := xk_tr K17 K38 rfl
  obtain ⟨u40, u41, bu40, bu41, A42⟩ := xq_0 K39.1
  have e43 : u12 = u41 := xk_eqi (q := 9) K38 rfl A20 A42 rfl rfl
  subst e43
  obtain ⟨u44, u45, u46, u47, u48, u49, u50, u51, u52, u53, u54, u55, u56, bu44, bu45, bu46, bu47, bu48, bu49, bu50, bu51, bu52, bu53, bu54, bu55, bu56, A57⟩ := xq_115 K39.1
  have e58 : u23 = u45 := xk_eqi (q := 1) K38 rfl A35 A57 rfl rfl
  subst e58
  have e59 : u26 = u48 := xk_eqi (q := 23) K38 rfl A35 A57 rfl rfl
  subst e59
  show xw J ov 100 195 (1091, [(4, .int x4), (3, .ref 167), (2, .ref 115), (1, .ref 0), (0, .ref 1000000)], [.int r36], hh37) _
  refine xi_pop (pc' := 1092) kc_195_1091 rfl rfl ?_
  refine xi_goto (pc' := 1501) kc_195_1092 rfl ?_
  obtain ⟨v60, ev60⟩ : ∃ q : Int32, x4 + 6 = q := ⟨_, rfl⟩
  have zv60 : v60.toInt = (x4.toInt + 6) := by rw [← ev60]; exact (xz_add (X := x4.toInt) (Y := 6) rfl (by decide) (by omega) (by omega)).trans (by omega)
  refine xi_iinc (pc' := 1504) (x := x4) (v := v60) (lv' := [(4, .int v60), (3, .ref 167), (2, .ref 115), (1, .ref 0), (0, .ref 1000000)]) kc_195_1501 rfl rfl ev60 rfl (xm_lt ml_195 rfl) ?_
  refine xi_goto (pc' := 23) kc_195_1504 rfl ?_
  exact kk v60 hh37 (by omega) K39
set_option maxHeartbeats 8000000 in
theorem lc_24 {J : xe_J} {ov : List (List Int32)} (hJ : ∀ d mj as h, mj ≠ xe_loff → J d mj as h = none) (hov1 : ov[1]? = some [10, 0, 0, 0, 0, 0]) (hov2 : ov[2]? = some [99, 30, 50, 50, 1, 99999]) {xs : List Int32} (hov0 : ov[0]? = some xs) {Q : Option Value → xe_H → Prop} {h : xe_H} {x4 : Int32} (hi0 : 0 ≤ x4.toInt) (hi1 : x4.toInt + 6 ≤ xs.length) (hi2 : x4.toInt ≤ 3066) (T : xt h) (kk : ∀ (i : Int32) (h' : xe_H), i.toInt = x4.toInt + 6 → xk [(29, 0), (31, 0), (33, 0), (35, 0), (37, 0), (39, 0), (41, 0), (43, 0), (45, 0), (47, 0), (49, 0), (51, 0), (125, 0), (29, 2), (31, 2), (33, 2), (35, 2), (37, 2), (39, 2), (41, 2), (43, 2), (45, 2), (47, 2), (49, 2), (51, 2), (127, 0), (1, 5), (115, 23)] h h' → xw J ov 100 195 (23, [(4, .int i), (3, .ref 167), (2, .ref 115), (1, .ref 0), (0, .ref 1000000)], [], h') Q) : xw J ov 100 195 (1095, [(4, .int x4), (3, .ref 167), (2, .ref 115), (1, .ref 0), (0, .ref 1000000)], [], h) Q := by
  have K : xk [(29, 0), (31, 0), (33, 0), (35, 0), (37, 0), (39, 0), (41, 0), (43, 0), (45, 0), (47, 0), (49, 0), (51, 0), (125, 0), (29, 2), (31, 2), (33, 2), (35, 2), (37, 2), (39, 2), (41, 2), (43, 2), (45, 2), (47, 2), (49, 2), (51, 2), (127, 0), (1, 5), (115, 23)] h h := xk_re T
  refine xi_aload_n (pc' := 1096) (x := 0) kc_195_1095 rfl rfl ?_
  refine xi_aload_n (pc' := 1097) (x := 1000000) kc_195_1096 rfl rfl ?_
  refine xi_iload (pc' := 1099) (x := x4) kc_195_1097 rfl rfl ?_
  refine xi_iconst (pc' := 1100) (v := 1) kc_195_1099 rfl rfl ?_
  obtain ⟨v1, ev1⟩ : ∃ q : Int32, x4 + 1 = q := ⟨_, rfl⟩
  have zv1 : v1.toInt = (x4.toInt + 1) := by rw [← ev1]; exact (xz_add (X := x4.toInt) (Y := 1) rfl (by decide) (by omega) (by omega)).trans (by omega)
  refine xi_iadd (pc' := 1101) (v := v1) kc_195_1100 rfl ev1 ?_
  obtain ⟨a2, ea2⟩ : ∃ q : Int32, xs.getD (Int32.toNatClampNeg v1) 0 = q := ⟨_, rfl⟩
  have ra2 := xc_rng a2
  refine xi_ialoadO (pc' := 1102) (v := a2) kc_195_1101 rfl (by decide) hov0 (xi_in (by omega) (by omega)) ea2 ?_
  refine xi_aload_n (pc' := 1103) (x := 1000000) kc_195_1102 rfl rfl ?_
  refine xi_iload (pc' := 1105) (x := x4) kc_195_1103 rfl rfl ?_
  refine xi_iconst (pc' := 1106) (v := 2) kc_195_1105 rfl rfl ?_
  obtain ⟨v3, ev3⟩ : ∃ q : Int32, x4 + 2 = q := ⟨_, rfl⟩
  have zv3 : v3.toInt = (x4.toInt + 2) := by rw [← ev3]; exact (xz_add (X := x4.toInt) (Y := 2) rfl (by decide) (by omega) (by omega)).trans (by omega)
  refine xi_iadd (pc' := 1107) (v := v3) kc_195_1106 rfl ev3 ?_
  obtain ⟨a4, ea4⟩ : ∃ q : Int32, xs.getD (Int32.toNatClampNeg v3) 0 = q := ⟨_, rfl⟩
  have ra4 := xc_rng a4
  refine xi_ialoadO (pc' := 1108) (v := a4) kc_195_1107 rfl (by decide) hov0 (xi_in (by omega) (by omega)) ea4 ?_
  obtain ⟨u5, u6, bu5, bu6, A7⟩ := xq_0 K.1
  refine xi_virtual (mj := 165) (as := [.int a2, .int a4]) (st1 := []) (lv0 := [(0, .ref 0), (1, .int a2), (2, .int a4)]) kc_195_1108 rfl rfl rfl rfl rfl A7 (Nat.le_of_ble_eq_true rfl) (hJ _ _ _ _ (by decide)) (xm_le ml_165 rfl) rfl ?_
  refine mt_165_0 hJ hov1 hov2 (d := 97) (x1 := a2) (x2 := a4) K.1 (fun r8 hh9 K10 => ?_)
  have br8 := xc_rng r8
  have K11 := xk_tr K K10 rfl
  obtain ⟨u12, u13, bu12, bu13, A14⟩ := xq_0 K11.1
  have e15 : u6 = u13 := xk_eqi (q := 9) K10 rfl A7 A14 rfl rfl
  subst e15
  show xw J ov 100 195 (1111, [(4, .int x4), (3, .ref 167), (2, .ref 115), (1, .ref 0), (0, .ref 1000000)], [.int r8], hh9) _
  refine xi_pop (pc' := 1112) kc_195_1111 rfl rfl ?_
  refine xi_aload_n (pc' := 1113) (x := 115) kc_195_1112 rfl rfl ?_
  refine xi_aload_n (pc' := 1114) (x := 1000000) kc_195_1113 rfl rfl ?_
  refine xi_iload (pc' := 1116) (x := x4) kc_195_1114 rfl rfl ?_
  refine xi_iconst (pc' := 1117) (v := 1) kc_195_1116 rfl rfl ?_
  refine xi_iadd (pc' := 1118) (v := v1) kc_195_1117 rfl ev1 ?_
  refine xi_ialoadO (pc' := 1119) (v := a2) kc_195_1118 rfl (by decide) hov0 (xi_in (by omega) (by omega)) ea2 ?_
  refine xi_aload_n (pc' := 1120) (x := 1000000) kc_195_1119 rfl rfl ?_
  refine xi_iload (pc' := 1122) (x := x4) kc_195_1120 rfl rfl ?_
  refine xi_iconst (pc' := 1123) (v := 2) kc_195_1122 rfl rfl ?_
  refine xi_iadd (pc' := 1124) (v := v3) kc_195_1123 rfl ev3 ?_
  refine xi_ialoadO (pc' := 1125) (v := a4) kc_195_1124 rfl (by decide) hov0 (xi_in (by omega) (by omega)) ea4 ?_
  obtain ⟨u16, u17, u18, u19, u20, u21, u22, u23, u24, u25, u26, u27, u28, bu16, bu17, bu18, bu19, bu20, bu21, bu22, bu23, bu24, bu25, bu26, bu27, bu28, A29⟩ := xq_115 K11.1
  refine xi_virtual (mj := 62) (as := [.int a2, .int a4]) (st1 := []) (lv0 := [(0, .ref 115), (1, .int a2), (2, .int a4)]) kc_195_1125 rfl rfl rfl rfl rfl A29 (Nat.le_of_ble_eq_true rfl) (hJ _ _ _ _ (by decide)) (xm_le ml_62 rfl) rfl ?_
  refine mt_62_0 hJ hov1 hov2 (d := 97) (x1 := a2) (x2 := a4) K11.1 (fun r30 hh31 K32 => ?_)
  have br30 := xc_rng r30
  have K33 := xk_tr K11 K32 rfl
  obtain ⟨u34, u35, bu34, bu35, A36⟩ := xq_0 K33.1
  have e37 : u6 = u35 := xk_eqi (q := 9) K32 rfl A14 A36 rfl rfl
  subst e37
  obtain ⟨u38, u39, u40, u41, u42, u43, u44, u45, u46, u47, u48, u49, u50, bu38, bu39, bu40, bu41, bu42, bu43, bu44, bu45, bu46, bu47, bu48, bu49, bu50, A51⟩ := xq_115 K33.1
  have e52 : u17 = u39 := xk_eqi (q := 1) K32 rfl A29 A51 rfl rfl
  subst e52
  have e53 : u20 = u42 := xk_eqi (q := 23) K32 rfl A29 A51 rfl rfl
  subst e53
  show xw J ov 100 195 (1128, [(4, .int x4), (3, .ref 167), (2, .ref 115), (1, .ref 0), (0, .ref 1000000)], [.int r30], hh31) _
  refine xi_pop (pc' := 1129) kc_195_1128 rfl rfl ?_
  refine xi_goto (pc' := 1501) kc_195_1129 rfl ?_
  obtain ⟨v54, ev54⟩ : ∃ q : Int32, x4 + 6 = q := ⟨_, rfl⟩
  have zv54 : v54.toInt = (x4.toInt + 6) := by rw [← ev54]; exact (xz_add (X := x4.toInt) (Y := 6) rfl (by decide) (by omega) (by omega)).trans (by omega)
  refine xi_iinc (pc' := 1504) (x := x4) (v := v54) (lv' := [(4, .int v54), (3, .ref 167), (2, .ref 115), (1, .ref 0), (0, .ref 1000000)]) kc_195_1501 rfl rfl ev54 rfl (xm_lt ml_195 rfl) ?_
  refine xi_goto (pc' := 23) kc_195_1504 rfl ?_
  exact kk v54 hh31 (by omega) K33
set_option maxHeartbeats 8000000 in
theorem lc_25 {J : xe_J} {ov : List (List Int32)} (hJ : ∀ d mj as h, mj ≠ xe_loff → J d mj as h = none) (hov1 : ov[1]? = some [10, 0, 0, 0, 0, 0]) (hov2 : ov[2]? = some [99, 30, 50, 50, 1, 99999]) {xs : List Int32} (hov0 : ov[0]? = some xs) {Q : Option Value → xe_H → Prop} {h : xe_H} {x4 : Int32} (hi0 : 0 ≤ x4.toInt) (hi1 : x4.toInt + 6 ≤ xs.length) (hi2 : x4.toInt ≤ 3066) (T : xt h) (kk : ∀ (i : Int32) (h' : xe_H), i.toInt = x4.toInt + 6 → xk [(29, 0), (31, 0), (33, 0), (35, 0), (37, 0), (39, 0), (41, 0), (43, 0), (45, 0), (47, 0), (49, 0), (51, 0), (125, 0), (29, 2), (31, 2), (33, 2), (35, 2), (37, 2), (39, 2), (41, 2), (43, 2), (45, 2), (47, 2), (49, 2), (51, 2), (127, 0), (1, 5), (115, 23)] h h' → xw J ov 100 195 (23, [(4, .int i), (3, .ref 167), (2, .ref 115), (1, .ref 0), (0, .ref 1000000)], [], h') Q) : xw J ov 100 195 (1132, [(4, .int x4), (3, .ref 167), (2, .ref 115), (1, .ref 0), (0, .ref 1000000)], [], h) Q := by
  have K : xk [(29, 0), (31, 0), (33, 0), (35, 0), (37, 0), (39, 0), (41, 0), (43, 0), (45, 0), (47, 0), (49, 0), (51, 0), (125, 0), (29, 2), (31, 2), (33, 2), (35, 2), (37, 2), (39, 2), (41, 2), (43, 2), (45, 2), (47, 2), (49, 2), (51, 2), (127, 0), (1, 5), (115, 23)] h h := xk_re T
  refine xi_aload_n (pc' := 1133) (x := 0) kc_195_1132 rfl rfl ?_
  refine xi_aload_n (pc' := 1134) (x := 1000000) kc_195_1133 rfl rfl ?_
  refine xi_iload (pc' := 1136) (x := x4) kc_195_1134 rfl rfl ?_
  refine xi_iconst (pc' := 1137) (v := 1) kc_195_1136 rfl rfl ?_
  obtain ⟨v1, ev1⟩ : ∃ q : Int32, x4 + 1 = q := ⟨_, rfl⟩
  have zv1 : v1.toInt = (x4.toInt + 1) := by rw [← ev1]; exact (xz_add (X := x4.toInt) (Y := 1) rfl (by decide) (by omega) (by omega)).trans (by omega)
  refine xi_iadd (pc' := 1138) (v := v1) kc_195_1137 rfl ev1 ?_
  obtain ⟨a2, ea2⟩ : ∃ q : Int32, xs.getD (Int32.toNatClampNeg v1) 0 = q := ⟨_, rfl⟩
  have ra2 := xc_rng a2
  refine xi_ialoadO (pc' := 1139) (v := a2) kc_195_1138 rfl (by decide) hov0 (xi_in (by omega) (by omega)) ea2 ?_
  refine xi_aload_n (pc' := 1140) (x := 1000000) kc_195_1139 rfl rfl ?_
  refine xi_iload (pc' := 1142) (x := x4) kc_195_1140 rfl rfl ?_
  refine xi_iconst (pc' := 1143) (v := 2) kc_195_1142 rfl rfl ?_
  obtain ⟨v3, ev3⟩ : ∃ q : Int32, x4 + 2 = q := ⟨_, rfl⟩
  have zv3 : v3.toInt = (x4.toInt + 2) := by rw [← ev3]; exact (xz_add (X := x4.toInt) (Y := 2) rfl (by decide) (by omega) (by omega)).trans (by omega)
  refine xi_iadd (pc' := 1144) (v := v3) kc_195_1143 rfl ev3 ?_
  obtain ⟨a4, ea4⟩ : ∃ q : Int32, xs.getD (Int32.toNatClampNeg v3) 0 = q := ⟨_, rfl⟩
  have ra4 := xc_rng a4
  refine xi_ialoadO (pc' := 1145) (v := a4) kc_195_1144 rfl (by decide) hov0 (xi_in (by omega) (by omega)) ea4 ?_
  refine xi_aload_n (pc' := 1146) (x := 1000000) kc_195_1145 rfl rfl ?_
  refine xi_iload (pc' := 1148) (x := x4) kc_195_1146 rfl rfl ?_
  refine xi_iconst (pc' := 1149) (v := 3) kc_195_1148 rfl rfl ?_
  obtain ⟨v5, ev5⟩ : ∃ q : Int32, x4 + 3 = q := ⟨_, rfl⟩
  have zv5 : v5.toInt = (x4.toInt + 3) := by rw [← ev5]; exact (xz_add (X := x4.toInt) (Y := 3) rfl (by decide) (by omega) (by omega)).trans (by omega)
  refine xi_iadd (pc' := 1150) (v := v5) kc_195_1149 rfl ev5 ?_
  obtain ⟨a6, ea6⟩ : ∃ q : Int32, xs.getD (Int32.toNatClampNeg v5) 0 = q := ⟨_, rfl⟩
  have ra6 := xc_rng a6
  refine xi_ialoadO (pc' := 1151) (v := a6) kc_195_1150 rfl (by decide) hov0 (xi_in (by omega) (by omega)) ea6 ?_
  refine xi_aload_n (pc' := 1152) (x := 1000000) kc_195_1151 rfl rfl ?_
  refine xi_iload (pc' := 1154) (x := x4) kc_195_1152 rfl rfl ?_
  refine xi_iconst (pc' := 1155) (v := 4) kc_195_1154 rfl rfl ?_
  obtain ⟨v7, ev7⟩ : ∃ q : Int32, x4 + 4 = q := ⟨_, rfl⟩
  have zv7 : v7.toInt = (x4.toInt + 4) := by rw [← ev7]; exact (xz_add (X := x4.toInt) (Y := 4) rfl (by decide) (by omega) (by omega)).trans (by omega)
  refine xi_iadd (pc' := 1156) (v := v7) kc_195_1155 rfl ev7 ?_
  obtain ⟨a8, ea8⟩ : ∃ q : Int32, xs.getD (Int32.toNatClampNeg v7) 0 = q := ⟨_, rfl⟩
  have ra8 := xc_rng a8
  refine xi_ialoadO (pc' := 1157) (v := a8) kc_195_1156 rfl (by decide) hov0 (xi_in (by omega) (by omega)) ea8 ?_
  obtain ⟨u9, u10, bu9, bu10, A11⟩ := xq_0 K.1
  refine xi_virtual (mj := 167) (as := [.int a2, .int a4, .int a6, .int a8]) (st1 := []) (lv0 := [(0, .ref 0), (1, .int a2), (2, .int a4), (3, .int a6), (4, .int a8)]) kc_195_1157 rfl rfl rfl rfl rfl A11 (Nat.le_of_ble_eq_true rfl) (hJ _ _ _ _ (by decide)) (xm_le ml_167 rfl) rfl ?_
  refine mt_167_0 hJ hov1 hov2 (d := 98) (x1 := a2) (x2 := a4) (x3 := a6) (x4 := a8) K.1 (fun r12 hh13 br12 K14 => ?_)
  have K15 := xk_tr K K14 rfl
  obtain ⟨u16, u17, bu16, bu17, A18⟩ := xq_0 K15.1
  have e19 : u10 = u17 := xk_eqi (q := 9) K14 rfl A11 A18 rfl rfl
  subst e19
  show xw J ov 100 195 (1160, [(4, .int x4), (3, .ref 167), (2, .ref 115), (1, .ref 0), (0, .ref 1000000)], [.int r12], hh13) _
  refine xi_pop (pc' := 1161) kc_195_1160 rfl rfl ?_
  refine xi_aload_n (pc' := 1162) (x := 115) kc_195_1161 rfl rfl ?_
  refine xi_aload_n (pc' := 1163) (x := 1000000) kc_195_1162 rfl rfl ?_
  refine xi_iload (pc' := 1165) (x := x4) kc_195_1163 rfl rfl ?_
  refine xi_iconst (pc' := 1166) (v := 1) kc_195_1165 rfl rfl ?_
  refine xi_iadd (pc' := 1167) (v := v1) kc_195_1166 rfl ev1 ?_
  refine xi_ialoadO (pc' := 1168) (v := a2) kc_195_1167 rfl (by decide) hov0 (xi_in (by omega) (by omega)) ea2 ?_
  refine xi_aload_n (pc' := 1169) (x := 1000000) kc_195_1168 rfl rfl ?_
  refine xi_iload (pc' := 1171) (x := x4) kc_195_1169 rfl rfl ?_
  refine xi_iconst (pc' := 1172) (v := 2) kc_195_1171 rfl rfl ?_
  refine xi_iadd (pc' := 1173) (v := v3) kc_195_1172 rfl ev3 ?_
  refine xi_ialoadO (pc' := 1174) (v := a4) kc_195_1173 rfl (by decide) hov0 (xi_in (by omega) (by omega)) ea4 ?_
  refine xi_aload_n (pc' := 1175) (x := 1000000) kc_195_1174 rfl rfl ?_
  refine xi_iload (pc' := 1177) (x := x4) kc_195_1175 rfl rfl ?_
  refine xi_iconst (pc' := 1178) (v := 3) kc_195_1177 rfl rfl ?_
  refine xi_iadd (pc' := 1179) (v := v5) kc_195_1178 rfl ev5 ?_
  refine xi_ialoadO (pc' := 1180) (v := a6) kc_195_1179 rfl (by decide) hov0 (xi_in (by omega) (by omega)) ea6 ?_
  refine xi_aload_n (pc' := 1181) (x := 1000000) kc_195_1180 rfl rfl ?_
  refine xi_iload (pc' := 1183) (x := x4) kc_195_1181 rfl rfl ?_
  refine xi_iconst (pc' := 1184) (v := 4) kc_195_1183 rfl rfl ?_
  refine xi_iadd (pc' := 1185) (v := v7) kc_195_1184 rfl ev7 ?_
  refine xi_ialoadO (pc' := 1186) (v := a8) kc_195_1185 rfl (by decide) hov0 (xi_in (by omega) (by omega)) ea8 ?_
  obtain ⟨u20, u21, u22, u23, u24, u25, u26, u27, u28, u29, u30, u31, u32, bu20, bu21, bu22, bu23, bu24, bu25, bu26, bu27, bu28, bu29, bu30, bu31, bu32, A33⟩ := xq_115 K15.1
  refine xi_virtual (mj := 64) (as := [.int a2, .int a4, .int a6, .int a8]) (st1 := []) (lv0 := [(0, .ref 115), (1, .int a2), (2, .int a4), (3, .int a6), (4, .int a8)]) kc_195_1186 rfl rfl rfl rfl rfl A33 (Nat.le_of_ble_eq_true rfl) (hJ _ _ _ _ (by decide)) (xm_le ml_64 rfl) rfl ?_
  refine mt_64_0 hJ hov1 hov2 (d := 98) (x1 := a2) (x2 := a4) (x3 := a6) (x4 := a8) K15.1 (fun r34 hh35 br34 K36 => ?_)
  have K37 := xk_tr K15 K36 rfl
  obtain ⟨u38, u39, bu38, bu39, A40⟩ := xq_0 K37.1
  have e41 : u10 = u39 := xk_eqi (q := 9) K36 rfl A18 A40 rfl rfl
  subst e41
  obtain ⟨u42, u43, u44, u45, u46, u47, u48, u49, u50, u51, u52, u53, u54, bu42, bu43, bu44, bu45, bu46, bu47, bu48, bu49, bu50, bu51, bu52, bu53, bu54, A55⟩ := xq_115 K37.1
  have e56 : u21 = u43 := xk_eqi (q := 1) K36 rfl A33 A55 rfl rfl
  subst e56
  have e57 : u24 = u46 := xk_eqi (q := 23) K36 rfl A33 A55 rfl rfl
  subst e57
  show xw J ov 100 195 (1189, [(4, .int x4), (3, .ref 167), (2, .ref 115), (1, .ref 0), (0, .ref 1000000)], [.int r34], hh35) _
  refine xi_pop (pc' := 1190) kc_195_1189 rfl rfl ?_
  refine xi_goto (pc' := 1501) kc_195_1190 rfl ?_
  obtain ⟨v58, ev58⟩ : ∃ q : Int32, x4 + 6 = q := ⟨_, rfl⟩
  have zv58 : v58.toInt = (x4.toInt + 6) := by rw [← ev58]; exact (xz_add (X := x4.toInt) (Y := 6) rfl (by decide) (by omega) (by omega)).trans (by omega)
  refine xi_iinc (pc' := 1504) (x := x4) (v := v58) (lv' := [(4, .int v58), (3, .ref 167), (2, .ref 115), (1, .ref 0), (0, .ref 1000000)]) kc_195_1501 rfl rfl ev58 rfl (xm_lt ml_195 rfl) ?_
  refine xi_goto (pc' := 23) kc_195_1504 rfl ?_
  exact kk v58 hh35 (by omega) K37
set_option maxHeartbeats 8000000 in
theorem lc_26 {J : xe_J} {ov : List (List Int32)} (hJ : ∀ d mj as h, mj ≠ xe_loff → J d mj as h = none) (hov1 : ov[1]? = some [10, 0, 0, 0, 0, 0]) (hov2 : ov[2]? = some [99, 30, 50, 50, 1, 99999]) {xs : List Int32} (hov0 : ov[0]? = some xs) {Q : Option Value → xe_H → Prop} {h : xe_H} {x4 : Int32} (hi0 : 0 ≤ x4.toInt) (hi1 : x4.toInt + 6 ≤ xs.length) (hi2 : x4.toInt ≤ 3066) (T : xt h) (kk : ∀ (i : Int32) (h' : xe_H), i.toInt = x4.toInt + 6 → xk [(29, 0), (31, 0), (33, 0), (35, 0), (37, 0), (39, 0), (41, 0), (43, 0), (45, 0), (47, 0), (49, 0), (51, 0), (125, 0), (29, 2), (31, 2), (33, 2), (35, 2), (37, 2), (39, 2), (41, 2), (43, 2), (45, 2), (47, 2), (49, 2), (51, 2), (127, 0), (1, 5), (115, 23)] h h' → xw J ov 100 195 (23, [(4, .int i), (3, .ref 167), (2, .ref 115), (1, .ref 0), (0, .ref 1000000)], [], h') Q) : xw J ov 100 195 (1193, [(4, .int x4), (3, .ref 167), (2, .ref 115), (1, .ref 0), (0, .ref 1000000)], [], h) Q := by
  have K : xk [(29, 0), (31, 0), (33, 0), (35, 0), (37, 0), (39, 0), (41, 0), (43, 0), (45, 0), (47, 0), (49, 0), (51, 0), (125, 0), (29, 2), (31, 2), (33, 2), (35, 2), (37, 2), (39, 2), (41, 2), (43, 2), (45, 2), (47, 2), (49, 2), (51, 2), (127, 0), (1, 5), (115, 23)] h h := xk_re T
  refine xi_aload_n (pc' := 1194) (x := 0) kc_195_1193 rfl rfl ?_
  obtain ⟨u1, u2, bu1, bu2, A3⟩ := xq_0 K.1
  refine xi_virtual (mj := 169) (as := []) (st1 := []) (lv0 := [(0, .ref 0)]) kc_195_1194 rfl rfl rfl rfl rfl A3 (Nat.le_of_ble_eq_true rfl) (hJ _ _ _ _ (by decide)) (xm_le ml_169 rfl) rfl ?_
  refine mt_169_0 hJ hov1 hov2 (d := 95)  K.1 (fun r4 hh5 K6 => ?_)
  have br4 := xc_rng r4
  have K7 := xk_tr K K6 rfl
  obtain ⟨u8, u9, bu8, bu9, A10⟩ := xq_0 K7.1
  have e11 : u2 = u9 := xk_eqi (q := 9) K6 rfl A3 A10 rfl rfl
  subst e11
  show xw J ov 100 195 (1197, [(4, .int x4), (3, .ref 167), (2, .ref 115), (1, .ref 0), (0, .ref 1000000)], [.int r4], hh5) _
  refine xi_pop (pc' := 1198) kc_195_1197 rfl rfl ?_
  refine xi_aload_n (pc' := 1199) (x := 115) kc_195_1198 rfl rfl ?_
  obtain ⟨u12, u13, u14, u15, u16, u17, u18, u19, u20, u21, u22, u23, u24, bu12, bu13, bu14, bu15, bu16, bu17, bu18, bu19, bu20, bu21, bu22, bu23, bu24, A25⟩ := xq_115 K7.1
  refine xi_virtual (mj := 65) (as := []) (st1 := []) (lv0 := [(0, .ref 115)]) kc_195_1199 rfl rfl rfl rfl rfl A25 (Nat.le_of_ble_eq_true rfl) (hJ _ _ _ _ (by decide)) (xm_le ml_65 rfl) rfl ?_
  refine mt_65_0 hJ hov1 hov2 (d := 97)  K7.1 (fun r26 hh27 K28 => ?_)
  have br26 := xc_rng r26
  have K29 := xk_tr K7 K28 rfl
  obtain ⟨u30, u31, bu30, bu31, A32⟩ := xq_0 K29.1
  have e33 : u2 = u31 := xk_eqi (q := 9) K28 rfl A10 A32 rfl rfl
  subst e33
  obtain ⟨u34, u35, u36, u37, u38, u39, u40, u41, u42, u43, u44, u45, u46, bu34, bu35, bu36, bu37, bu38, bu39, bu40, bu41, bu42, bu43, bu44, bu45, bu46, A47⟩ := xq_115 K29.1
  have e48 : u13 = u35 := xk_eqi (q := 1) K28 rfl A25 A47 rfl rfl
  subst e48
  have e49 : u16 = u38 := xk_eqi (q := 23) K28 rfl A25 A47 rfl rfl
  subst e49
  show xw J ov 100 195 (1202, [(4, .int x4), (3, .ref 167), (2, .ref 115), (1, .ref 0), (0, .ref 1000000)], [.int r26], hh27) _
  refine xi_pop (pc' := 1203) kc_195_1202 rfl rfl ?_
  refine xi_goto (pc' := 1501) kc_195_1203 rfl ?_
  obtain ⟨v50, ev50⟩ : ∃ q : Int32, x4 + 6 = q := ⟨_, rfl⟩
  have zv50 : v50.toInt = (x4.toInt + 6) := by rw [← ev50]; exact (xz_add (X := x4.toInt) (Y := 6) rfl (by decide) (by omega) (by omega)).trans (by omega)
  refine xi_iinc (pc' := 1504) (x := x4) (v := v50) (lv' := [(4, .int v50), (3, .ref 167), (2, .ref 115), (1, .ref 0), (0, .ref 1000000)]) kc_195_1501 rfl rfl ev50 rfl (xm_lt ml_195 rfl) ?_
  refine xi_goto (pc' := 23) kc_195_1504 rfl ?_
  exact kk v50 hh27 (by omega) K29
set_option maxHeartbeats 8000000 in
theorem lc_27 {J : xe_J} {ov : List (List Int32)} (hJ : ∀ d mj as h, mj ≠ xe_loff → J d mj as h = none) (hov1 : ov[1]? = some [10, 0, 0, 0, 0, 0]) (hov2 : ov[2]? = some [99, 30, 50, 50, 1, 99999]) {xs : List Int32} (hov0 : ov[0]? = some xs) {Q : Option Value → xe_H → Prop} {h : xe_H} {x4 : Int32} (hi0 : 0 ≤ x4.toInt) (hi1 : x4.toInt + 6 ≤ xs.length) (hi2 : x4.toInt ≤ 3066) (T : xt h) (kk : ∀ (i : Int32) (h' : xe_H), i.toInt = x4.toInt + 6 → xk [(29, 0), (31, 0), (33, 0), (35, 0), (37, 0), (39, 0), (41, 0), (43, 0), (45, 0), (47, 0), (49, 0), (51, 0), (125, 0), (29, 2), (31, 2), (33, 2), (35, 2), (37, 2), (39, 2), (41, 2), (43, 2), (45, 2), (47, 2), (49, 2), (51, 2), (127, 0), (1, 5), (115, 23)] h h' → xw J ov 100 195 (23, [(4, .int i), (3, .ref 167), (2, .ref 115), (1, .ref 0), (0, .ref 1000000)], [], h') Q) : xw J ov 100 195 (1206, [(4, .int x4), (3, .ref 167), (2, .ref 115), (1, .ref 0), (0, .ref 1000000)], [], h) Q := by
  have K : xk [(29, 0), (31, 0), (33, 0), (35, 0), (37, 0), (39, 0), (41, 0), (43, 0), (45, 0), (47, 0), (49, 0), (51, 0), (125, 0), (29, 2), (31, 2), (33, 2), (35, 2), (37, 2), (39, 2), (41, 2), (43, 2), (45, 2), (47, 2), (49, 2), (51, 2), (127, 0), (1, 5), (115, 23)] h h := xk_re T
  refine xi_aload_n (pc' := 1207) (x := 0) kc_195_1206 rfl rfl ?_
  refine xi_aload_n (pc' := 1208) (x := 1000000) kc_195_1207 rfl rfl ?_
  refine xi_iload (pc' := 1210) (x := x4) kc_195_1208 rfl rfl ?_
  refine xi_iconst (pc' := 1211) (v := 1) kc_195_1210 rfl rfl ?_
  obtain ⟨v1, ev1⟩ : ∃ q : Int32, x4 + 1 = q := ⟨_, rfl⟩
  have zv1 : v1.toInt = (x4.toInt + 1) := by rw [← ev1]; exact (xz_add (X := x4.toInt) (Y := 1) rfl (by decide) (by omega) (by omega)).trans (by omega)
  refine xi_iadd (pc' := 1212) (v := v1) kc_195_1211 rfl ev1 ?_
  obtain ⟨a2, ea2⟩ : ∃ q : Int32, xs.getD (Int32.toNatClampNeg v1) 0 = q := ⟨_, rfl⟩
  have ra2 := xc_rng a2
  refine xi_ialoadO (pc' := 1213) (v := a2) kc_195_1212 rfl (by decide) hov0 (xi_in (by omega) (by omega)) ea2 ?_
  obtain ⟨u3, u4, bu3, bu4, A5⟩ := xq_0 K.1
  refine xi_virtual (mj := 172) (as := [.int a2]) (st1 := []) (lv0 := [(0, .ref 0), (1, .int a2)]) kc_195_1213 rfl rfl rfl rfl rfl A5 (Nat.le_of_ble_eq_true rfl) (hJ _ _ _ _ (by decide)) (xm_le ml_172 rfl) rfl ?_
  refine mt_172_0 hJ hov1 hov2 (d := 79) (x1 := a2) K.1 (fun r6 hh7 K8 => ?_)
  have br6 := xc_rng r6
  have K9 := xk_tr K K8 rfl
  obtain ⟨u10, u11, bu10, bu11, A12⟩ := xq_0 K9.1
  have e13 : u4 = u11 := xk_eqi (q := 9) K8 rfl A5 A12 rfl rfl
  subst e13
  show xw J ov 100 195 (1216, [(4, .int x4), (3, .ref 167), (2, .ref 115), (1, .ref 0), (0, .ref 1000000)], [.int r6], hh7) _
  refine xi_pop (pc' := 1217) kc_195_1216 rfl rfl ?_
  refine xi_aload_n (pc' := 1218) (x := 115) kc_195_1217 rfl rfl ?_
  refine xi_aload_n (pc' := 1219) (x := 1000000) kc_195_1218 rfl rfl ?_
  refine xi_iload (pc' := 1221) (x := x4) kc_195_1219 rfl rfl ?_
  refine xi_iconst (pc' := 1222) (v := 1) kc_195_1221 rfl rfl ?_
  refine xi_iadd (pc' := 1223) (v := v1) kc_195_1222 rfl ev1 ?_
  refine xi_ialoadO (pc' := 1224) (v := a2) kc_195_1223 rfl (by decide) hov0 (xi_in (by omega) (by omega)) ea2 ?_
  obtain ⟨u14, u15, u16, u17, u18, u19, u20, u21, u22, u23, u24, u25, u26, bu14, bu15, bu16, bu17, bu18, bu19, bu20, bu21, bu22, bu23, bu24, bu25, bu26, A27⟩ := xq_115 K9.1
  refine xi_virtual (mj := 68) (as := [.int a2]) (st1 := []) (lv0 := [(0, .ref 115), (1, .int a2)]) kc_195_1224 rfl rfl rfl rfl rfl A27 (Nat.le_of_ble_eq_true rfl) (hJ _ _ _ _ (by decide)) (xm_le ml_68 rfl) rfl ?_
  refine mt_68_0 hJ hov1 hov2 (d := 97) (x1 := a2) K9.1 (fun r28 hh29 K30 => ?_)
  have br28 := xc_rng r28
  have K31 := xk_tr K9 K30 rfl
  obtain ⟨u32, u33, bu32, bu33, A34⟩ := xq_0 K31.1
  have e35 : u4 = u33 := xk_eqi (q := 9) K30 rfl A12 A34 rfl rfl
  subst e35
  obtain ⟨u36, u37, u38, u39, u40, u41, u42, u43, u44, u45, u46, u47, u48, bu36, bu37, bu38, bu39, bu40, bu41, bu42, bu43, bu44, bu45, bu46, bu47, bu48, A49⟩ := xq_115 K31.1
  have e50 : u15 = u37 := xk_eqi (q := 1) K30 rfl A27 A49 rfl rfl
  subst e50
  have e51 : u18 = u40 := xk_eqi (q := 23) K30 rfl A27 A49 rfl rfl
  subst e51
  show xw J ov 100 195 (1227, [(4, .int x4), (3, .ref 167), (2, .ref 115), (1, .ref 0), (0, .ref 1000000)], [.int r28], hh29) _
  refine xi_pop (pc' := 1228) kc_195_1227 rfl rfl ?_
  refine xi_goto (pc' := 1501) kc_195_1228 rfl ?_
  obtain ⟨v52, ev52⟩ : ∃ q : Int32, x4 + 6 = q := ⟨_, rfl⟩
  have zv52 : v52.toInt = (x4.toInt + 6) := by rw [← ev52]; exact (xz_add (X := x4.toInt) (Y := 6) rfl (by decide) (by omega) (by omega)).trans (by omega)
  refine xi_iinc (pc' := 1504) (x := x4) (v := v52) (lv' := [(4, .int v52), (3, .ref 167), (2, .ref 115), (1, .ref 0), (0, .ref 1000000)]) kc_195_1501 rfl rfl ev52 rfl (xm_lt ml_195 rfl) ?_
  refine xi_goto (pc' := 23) kc_195_1504 rfl ?_
  exact kk v52 hh29 (by omega) K31
set_option maxHeartbeats 8000000 in
theorem lc_28 {J : xe_J} {ov : List (List Int32)} (hJ : ∀ d mj as h, mj ≠ xe_loff → J d mj as h = none) (hov1 : ov[1]? = some [10, 0, 0, 0, 0, 0]) (hov2 : ov[2]? = some [99, 30, 50, 50, 1, 99999]) {xs : List Int32} (hov0 : ov[0]? = some xs) {Q : Option Value → xe_H → Prop} {h : xe_H} {x4 : Int32} (hi0 : 0 ≤ x4.toInt) (hi1 : x4.toInt + 6 ≤ xs.length) (hi2 : x4.toInt ≤ 3066) (T : xt h) (kk : ∀ (i : Int32) (h' : xe_H), i.toInt = x4.toInt + 6 → xk [(29, 0), (31, 0), (33, 0), (35, 0), (37, 0), (39, 0), (41, 0), (43, 0), (45, 0), (47, 0), (49, 0), (51, 0), (125, 0), (29, 2), (31, 2), (33, 2), (35, 2), (37, 2), (39, 2), (41, 2), (43, 2), (45, 2), (47, 2), (49, 2), (51, 2), (127, 0), (1, 5), (115, 23)] h h' → xw J ov 100 195 (23, [(4, .int i), (3, .ref 167), (2, .ref 115), (1, .ref 0), (0, .ref 1000000)], [], h') Q) : xw J ov 100 195 (1231, [(4, .int x4), (3, .ref 167), (2, .ref 115), (1, .ref 0), (0, .ref 1000000)], [], h) Q := by
  have K : xk [(29, 0), (31, 0), (33, 0), (35, 0), (37, 0), (39, 0), (41, 0), (43, 0), (45, 0), (47, 0), (49, 0), (51, 0), (125, 0), (29, 2), (31, 2), (33, 2), (35, 2), (37, 2), (39, 2), (41, 2), (43, 2), (45, 2), (47, 2), (49, 2), (51, 2), (127, 0), (1, 5), (115, 23)] h h := xk_re T
  refine xi_aload_n (pc' := 1232) (x := 0) kc_195_1231 rfl rfl ?_
  refine xi_aload_n (pc' := 1233) (x := 1000000) kc_195_1232 rfl rfl ?_
  refine xi_iload (pc' := 1235) (x := x4) kc_195_1233 rfl rfl ?_
  refine xi_iconst (pc' := 1236) (v := 1) kc_195_1235 rfl rfl ?_
  obtain ⟨v1, ev1⟩ : ∃ q : Int32, x4 + 1 = q := ⟨_, rfl⟩
  have zv1 : v1.toInt = (x4.toInt + 1) := by rw [← ev1]; exact (xz_add (X := x4.toInt) (Y := 1) rfl (by decide) (by omega) (by omega)).trans (by omega)
  refine xi_iadd (pc' := 1237) (v := v1) kc_195_1236 rfl ev1 ?_
  obtain ⟨a2, ea2⟩ : ∃ q : Int32, xs.getD (Int32.toNatClampNeg v1) 0 = q := ⟨_, rfl⟩
  have ra2 := xc_rng a2
  refine xi_ialoadO (pc' := 1238) (v := a2) kc_195_1237 rfl (by decide) hov0 (xi_in (by omega) (by omega)) ea2 ?_
  refine xi_aload_n (pc' := 1239) (x := 1000000) kc_195_1238 rfl rfl ?_
  refine xi_iload (pc' := 1241) (x := x4) kc_195_1239 rfl rfl ?_
  refine xi_iconst (pc' := 1242) (v := 2) kc_195_1241 rfl rfl ?_
  obtain ⟨v3, ev3⟩ : ∃ q : Int32, x4 + 2 = q := ⟨_, rfl⟩
  have zv3 : v3.toInt = (x4.toInt + 2) := by rw [← ev3]; exact (xz_add (X := x4.toInt) (Y := 2) rfl (by decide) (by omega) (by omega)).trans (by omega)
  refine xi_iadd (pc' := 1243) (v := v3) kc_195_1242 rfl ev3 ?_
  obtain ⟨a4, ea4⟩ : ∃ q : Int32, xs.getD (Int32.toNatClampNeg v3) 0 = q := ⟨_, rfl⟩
  have ra4 := xc_rng a4
  refine xi_ialoadO (pc' := 1244) (v := a4) kc_195_1243 rfl (by decide) hov0 (xi_in (by omega) (by omega)) ea4 ?_
  refine xi_aload_n (pc' := 1245) (x := 1000000) kc_195_1244 rfl rfl ?_
  refine xi_iload (pc' := 1247) (x := x4) kc_195_1245 rfl rfl ?_
  refine xi_iconst (pc' := 1248) (v := 3) kc_195_1247 rfl rfl ?_
  obtain ⟨v5, ev5⟩ : ∃ q : Int32, x4 + 3 = q := ⟨_, rfl⟩
  have zv5 : v5.toInt = (x4.toInt + 3) := by rw [← ev5]; exact (xz_add (X := x4.toInt) (Y := 3) rfl (by decide) (by omega) (by omega)).trans (by omega)
  refine xi_iadd (pc' := 1249) (v := v5) kc_195_1248 rfl ev5 ?_
  obtain ⟨a6, ea6⟩ : ∃ q : Int32, xs.getD (Int32.toNatClampNeg v5) 0 = q := ⟨_, rfl⟩
  have ra6 := xc_rng a6
  refine xi_ialoadO (pc' := 1250) (v := a6) kc_195_1249 rfl (by decide) hov0 (xi_in (by omega) (by omega)) ea6 ?_
  refine xi_aload_n (pc' := 1251) (x := 1000000) kc_195_1250 rfl rfl ?_
  refine xi_iload (pc' := 1253) (x := x4) kc_195_1251 rfl rfl ?_
  refine xi_iconst (pc' := 1254) (v := 4) kc_195_1253 rfl rfl ?_
  obtain ⟨v7, ev7⟩ : ∃ q : Int32, x4 + 4 = q := ⟨_, rfl⟩
  have zv7 : v7.toInt = (x4.toInt + 4) := by rw [← ev7]; exact (xz_add (X := x4.toInt) (Y := 4) rfl (by decide) (by omega) (by omega)).trans (by omega)
  refine xi_iadd (pc' := 1255) (v := v7) kc_195_1254 rfl ev7 ?_
  obtain ⟨a8, ea8⟩ : ∃ q : Int32, xs.getD (Int32.toNatClampNeg v7) 0 = q := ⟨_, rfl⟩
  have ra8 := xc_rng a8
  refine xi_ialoadO (pc' := 1256) (v := a8) kc_195_1255 rfl (by decide) hov0 (xi_in (by omega) (by omega)) ea8 ?_
  obtain ⟨u9, u10, bu9, bu10, A11⟩ := xq_0 K.1
  refine xi_virtual (mj := 177) (as := [.int a2, .int a4, .int a6, .int a8]) (st1 := []) (lv0 := [(0, .ref 0), (1, .int a2), (2, .int a4), (3, .int a6), (4, .int a8)]) kc_195_1256 rfl rfl rfl rfl rfl A11 (Nat.le_of_ble_eq_true rfl) (hJ _ _ _ _ (by decide)) (xm_le ml_177 rfl) rfl ?_
  refine mt_177_0 hJ hov1 hov2 (d := 98) (x1 := a2) (x2 := a4) (x3 := a6) (x4 := a8) K.1 (fun r12 hh13 br12 K14 => ?_)
  have K15 := xk_tr K K14 rfl
  obtain ⟨u16, u17, bu16, bu17, A18⟩ := xq_0 K15.1
  have e19 : u10 = u17 := xk_eqi (q := 9) K14 rfl A11 A18 rfl rfl
  subst e19
  show xw J ov 100 195 (1259, [(4, .int x4), (3, .ref 167), (2, .ref 115), (1, .ref 0), (0, .ref 1000000)], [.int r12], hh13) _
  refine xi_pop (pc' := 1260) kc_195_1259 rfl rfl ?_
  refine xi_aload_n (pc' := 1261) (x := 115) kc_195_1260 rfl rfl ?_
  refine xi_aload_n (pc' := 1262) (x := 1000000) kc_195_1261 rfl rfl ?_
  refine xi_iload (pc' := 1264) (x := x4) kc_195_1262 rfl rfl ?_
  refine xi_iconst (pc' := 1265) (v := 1) kc_195_1264 rfl rfl ?_
  refine xi_iadd (pc' := 1266) (v := v1) kc_195_1265 rfl ev1 ?_
  refine xi_ialoadO (pc' := 1267) (v := a2) kc_195_1266 rfl (by decide) hov0 (xi_in (by omega) (by omega)) ea2 ?_
  refine xi_aload_n (pc' := 1268) (x := 1000000) kc_195_1267 rfl rfl ?_
  refine xi_iload (pc' := 1270) (x := x4) kc_195_1268 rfl rfl ?_
  refine xi_iconst (pc' := 1271) (v := 2) kc_195_1270 rfl rfl ?_
  refine xi_iadd (pc' := 1272) (v := v3) kc_195_1271 rfl ev3 ?_
  refine xi_ialoadO (pc' := 1273) (v := a4) kc_195_1272 rfl (by decide) hov0 (xi_in (by omega) (by omega)) ea4 ?_
  refine xi_aload_n (pc' := 1274) (x := 1000000) kc_195_1273 rfl rfl ?_
  refine xi_iload (pc' := 1276) (x := x4) kc_195_1274 rfl rfl ?_
  refine xi_iconst (pc' := 1277) (v := 3) kc_195_1276 rfl rfl ?_
  refine xi_iadd (pc' := 1278) (v := v5) kc_195_1277 rfl ev5 ?_
  refine xi_ialoadO (pc' := 1279) (v := a6) kc_195_1278 rfl (by decide) hov0 (xi_in (by omega) (by omega)) ea6 ?_
  refine xi_aload_n (pc' := 1280) (x := 1000000) kc_195_1279 rfl rfl ?_
  refine xi_iload (pc' := 1282) (x := x4) kc_195_1280 rfl rfl ?_
  refine xi_iconst (pc' := 1283) (v := 4) kc_195_1282 rfl rfl ?_
  refine xi_iadd (pc' := 1284) (v := v7) kc_195_1283 rfl ev7 ?_
  refine xi_ialoadO (pc' := 1285) (v := a8) kc_195_1284 rfl (by decide) hov0 (xi_in (by omega) (by omega)) ea8 ?_
  obtain ⟨u20, u21, u22, u23, u24, u25, u26, u27, u28, u29, u30, u31, u32, bu20, bu21, bu22, bu23, bu24, bu25, bu26, bu27, bu28, bu29, bu30, bu31, bu32, A33⟩ := xq_115 K15.1
  refine xi_virtual (mj := 70) (as := [.int a2, .int a4, .int a6, .int a8]) (st1 := []) (lv0 := [(0, .ref 115), (1, .int a2), (2, .int a4), (3, .int a6), (4, .int a8)]) kc_195_1285 rfl rfl rfl rfl rfl A33 (Nat.le_of_ble_eq_true rfl) (hJ _ _ _ _ (by decide)) (xm_le ml_70 rfl) rfl ?_
  refine mt_70_0 hJ hov1 hov2 (d := 98) (x1 := a2) (x2 := a4) (x3 := a6) (x4 := a8) K15.1 (fun r34 hh35 br34 K36 => ?_)
  have K37 := xk_tr K15 K36 rfl
  obtain ⟨u38, u39, bu38, bu39, A40⟩ := xq_0 K37.1
  have e41 : u10 = u39 := xk_eqi (q := 9) K36 rfl A18 A40 rfl rfl
  subst e41
  obtain ⟨u42, u43, u44, u45, u46, u47, u48, u49, u50, u51, u52, u53, u54, bu42, bu43, bu44, bu45, bu46, bu47, bu48, bu49, bu50, bu51, bu52, bu53, bu54, A55⟩ := xq_115 K37.1
  have e56 : u21 = u43 := xk_eqi (q := 1) K36 rfl A33 A55 rfl rfl
  subst e56
  have e57 : u24 = u46 := xk_eqi (q := 23) K36 rfl A33 A55 rfl rfl
  subst e57
  show xw J ov 100 195 (1288, [(4, .int x4), (3, .ref 167), (2, .ref 115), (1, .ref 0), (0, .ref 1000000)], [.int r34], hh35) _
  refine xi_pop (pc' := 1289) kc_195_1288 rfl rfl ?_
  refine xi_goto (pc' := 1501) kc_195_1289 rfl ?_
  obtain ⟨v58, ev58⟩ : ∃ q : Int32, x4 + 6 = q := ⟨_, rfl⟩
  have zv58 : v58.toInt = (x4.toInt + 6) := by rw [← ev58]; exact (xz_add (X := x4.toInt) (Y := 6) rfl (by decide) (by omega) (by omega)).trans (by omega)
  refine xi_iinc (pc' := 1504) (x := x4) (v := v58) (lv' := [(4, .int v58), (3, .ref 167), (2, .ref 115), (1, .ref 0), (0, .ref 1000000)]) kc_195_1501 rfl rfl ev58 rfl (xm_lt ml_195 rfl) ?_
  refine xi_goto (pc' := 23) kc_195_1504 rfl ?_
  exact kk v58 hh35 (by omega) K37
set_option maxHeartbeats 8000000 in
theorem lc_29 {J : xe_J} {ov : List (List Int32)} (hJ : ∀ d mj as h, mj ≠ xe_loff → J d mj as h = none) (hov1 : ov[1]? = some [10, 0, 0, 0, 0, 0]) (hov2 : ov[2]? = some [99, 30, 50, 50, 1, 99999]) {xs : List Int32} (hov0 : ov[0]? = some xs) {Q : Option Value → xe_H → Prop} {h : xe_H} {x4 : Int32} (hi0 : 0 ≤ x4.toInt) (hi1 : x4.toInt + 6 ≤ xs.length) (hi2 : x4.toInt ≤ 3066) (T : xt h) (kk : ∀ (i : Int32) (h' : xe_H), i.toInt = x4.toInt + 6 → xk [(29, 0), (31, 0), (33, 0), (35, 0), (37, 0), (39, 0), (41, 0), (43, 0), (45, 0), (47, 0), (49, 0), (51, 0), (125, 0), (29, 2), (31, 2), (33, 2), (35, 2), (37, 2), (39, 2), (41, 2), (43, 2), (45, 2), (47, 2), (49, 2), (51, 2), (127, 0), (1, 5), (115, 23)] h h' → xw J ov 100 195 (23, [(4, .int i), (3, .ref 167), (2, .ref 115), (1, .ref 0), (0, .ref 1000000)], [], h') Q) : xw J ov 100 195 (1292, [(4, .int x4), (3, .ref 167), (2, .ref 115), (1, .ref 0), (0, .ref 1000000)], [], h) Q := by
  have K : xk [(29, 0), (31, 0), (33, 0), (35, 0), (37, 0), (39, 0), (41, 0), (43, 0), (45, 0), (47, 0), (49, 0), (51, 0), (125, 0), (29, 2), (31, 2), (33, 2), (35, 2), (37, 2), (39, 2), (41, 2), (43, 2), (45, 2), (47, 2), (49, 2), (51, 2), (127, 0), (1, 5), (115, 23)] h h := xk_re T
  refine xi_aload_n (pc' := 1293) (x := 0) kc_195_1292 rfl rfl ?_
  refine xi_aload_n (pc' := 1294) (x := 1000000) kc_195_1293 rfl rfl ?_
  refine xi_iload (pc' := 1296) (x := x4) kc_195_1294 rfl rfl ?_
  refine xi_iconst (pc' := 1297) (v := 1) kc_195_1296 rfl rfl ?_
  obtain ⟨v1, ev1⟩ : ∃ q : Int32, x4 + 1 = q := ⟨_, rfl⟩
  have zv1 : v1.toInt = (x4.toInt + 1) := by rw [← ev1]; exact (xz_add (X := x4.toInt) (Y := 1) rfl (by decide) (by omega) (by omega)).trans (by omega)
  refine xi_iadd (pc' := 1298) (v := v1) kc_195_1297 rfl ev1 ?_
  obtain ⟨a2, ea2⟩ : ∃ q : Int32, xs.getD (Int32.toNatClampNeg v1) 0 = q := ⟨_, rfl⟩
  have ra2 := xc_rng a2
  refine xi_ialoadO (pc' := 1299) (v := a2) kc_195_1298 rfl (by decide) hov0 (xi_in (by omega) (by omega)) ea2 ?_
  by_cases c3 : a2.toInt = 0
  · refine xi_ift (pc' := 1306) kc_195_1299 rfl (xc_eq_t (X := a2.toInt) (Y := 0) rfl (by decide) (by omega)) ?_
    refine xi_iconst (pc' := 1307) (v := 0) kc_195_1306 rfl rfl ?_
    obtain ⟨u4, u5, bu4, bu5, A6⟩ := xq_0 K.1
    refine xi_virtual (mj := 179) (as := [.int 0]) (st1 := []) (lv0 := [(0, .ref 0), (1, .int 0)]) kc_195_1307 rfl rfl rfl rfl rfl A6 (Nat.le_of_ble_eq_true rfl) (hJ _ _ _ _ (by decide)) (xm_le ml_179 rfl) rfl ?_
    have zc0 : (0 : Int32).toInt = 0 := by decide
    refine mt_179_0 hJ hov1 hov2 (d := 98) (x1 := 0) K.1 (by first | omega | decide) (fun r7 hh8 br7 K9 => ?_)
    have K10 := xk_tr K K9 rfl
    obtain ⟨u11, u12, bu11, bu12, A13⟩ := xq_0 K10.1
    have e14 : u5 = u12 := xk_eqi (q := 9) K9 rfl A6 A13 rfl rfl
    subst e14
    show xw J ov 100 195 (1310, [(4, .int x4), (3, .ref 167), (2, .ref 115), (1, .ref 0), (0, .ref 1000000)], [.int r7], hh8) _
    refine xi_pop (pc' := 1311) kc_195_1310 rfl rfl ?_
    refine xi_aload_n (pc' := 1312) (x := 115) kc_195_1311 rfl rfl ?_
    refine xi_aload_n (pc' := 1313) (x := 1000000) kc_195_1312 rfl rfl ?_
    refine xi_iload (pc' := 1315) (x := x4) kc_195_1313 rfl rfl ?_
    refine xi_iconst (pc' := 1316) (v := 1) kc_195_1315 rfl rfl ?_
    refine xi_iadd (pc' := 1317) (v := v1) kc_195_1316 rfl ev1 ?_
    refine xi_ialoadO (pc' := 1318) (v := a2) kc_195_1317 rfl (by decide) hov0 (xi_in (by omega) (by omega)) ea2 ?_
    refine xi_ift (pc' := 1325) kc_195_1318 rfl (xc_eq_t (X := a2.toInt) (Y := 0) rfl (by decide) (by omega)) ?_
    refine xi_iconst (pc' := 1326) (v := 0) kc_195_1325 rfl rfl ?_
    obtain ⟨u15, u16, u17, u18, u19, u20, u21, u22, u23, u24, u25, u26, u27, bu15, bu16, bu17, bu18, bu19, bu20, bu21, bu22, bu23, bu24, bu25, bu26, bu27, A28⟩ := xq_115 K10.1
    refine xi_virtual (mj := 71) (as := [.int 0]) (st1 := []) (lv0 := [(0, .ref 115), (1, .int 0)]) kc_195_1326 rfl rfl rfl rfl rfl A28 (Nat.le_of_ble_eq_true rfl) (hJ _ _ _ _ (by decide)) (xm_le ml_71 rfl) rfl ?_
    have zc0 : (0 : Int32).toInt = 0 := by decide
    refine mt_71_0 hJ hov1 hov2 (d := 98) (x1 := 0) K10.1 (by first | omega | decide) (fun r29 hh30 br29 K31 => ?_)
    have K32 := xk_tr K10 K31 rfl
    obtain ⟨u33, u34, bu33, bu34, A35⟩ := xq_0 K32.1
    have e36 : u5 = u34 := xk_eqi (q := 9) K31 rfl A13 A35 rfl rfl
    subst e36
    obtain ⟨u37, u38, u39, u40, u41, u42, u43, u44, u45, u46, u47, u48, u49, bu37, bu38, bu39, bu40, bu41, bu42, bu43, bu44, bu45, bu46, bu47, bu48, bu49, A50⟩ := xq_115 K32.1
    have e51 : u16 = u38 := xk_eqi (q := 1) K31 rfl A28 A50 rfl rfl
    subst e51
    have e52 : u19 = u41 := xk_eqi (q := 23) K31 rfl A28 A50 rfl rfl
    subst e52
    show xw J ov 100 195 (1329, [(4, .int x4), (3, .ref 167), (2, .ref 115), (1, .ref 0), (0, .ref 1000000)], [.int r29], hh30) _
    refine xi_pop (pc' := 1330) kc_195_1329 rfl rfl ?_
    refine xi_goto (pc' := 1501) kc_195_1330 rfl ?_
    obtain ⟨v53, ev53⟩ : ∃ q : Int32, x4 + 6 = q := ⟨_, rfl⟩
    have zv53 : v53.toInt = (x4.toInt + 6) := by rw [← ev53]; exact (xz_add (X := x4.toInt) (Y := 6) rfl (by decide) (by omega) (by omega)).trans (by omega)
    refine xi_iinc (pc' := 1504) (x := x4) (v := v53) (lv' := [(4, .int v53), (3, .ref 167), (2, .ref 115), (1, .ref 0), (0, .ref 1000000)]) kc_195_1501 rfl rfl ev53 rfl (xm_lt ml_195 rfl) ?_
    refine xi_goto (pc' := 23) kc_195_1504 rfl ?_
    exact kk v53 hh30 (by omega) K32
  · refine xi_iff (pc' := 1302) kc_195_1299 rfl (xc_eq_f (X := a2.toInt) (Y := 0) rfl (by decide) (by omega)) ?_
    refine xi_iconst (pc' := 1303) (v := 1) kc_195_1302 rfl rfl ?_
    refine xi_goto (pc' := 1307) kc_195_1303 rfl ?_
    obtain ⟨u54, u55, bu54, bu55, A56⟩ := xq_0 K.1
    refine xi_virtual (mj := 179) (as := [.int 1]) (st1 := []) (lv0 := [(0, .ref 0), (1, .int 1)]) kc_195_1307 rfl rfl rfl rfl rfl A56 (Nat.le_of_ble_eq_true rfl) (hJ _ _ _ _ (by decide)) (xm_le ml_179 rfl) rfl ?_
    have zc1 : (1 : Int32).toInt = 1 := by decide
    refine mt_179_0 hJ hov1 hov2 (d := 98) (x1 := 1) K.1 (by first | omega | decide) (fun r57 hh58 br57 K59 => ?_)
    have K60 := xk_tr K K59 rfl
    obtain ⟨u61, u62, bu61, bu62, A63⟩ := xq_0 K60.1
    have e64 : u55 = u62 := xk_eqi (q := 9) K59 rfl A56 A63 rfl rfl
    subst e64
    show xw J ov 100 195 (1310, [(4, .int x4), (3, .ref 167), (2, .ref 115), (1, .ref 0), (0, .ref 1000000)], [.int r57], hh58) _
    refine xi_pop (pc' := 1311) kc_195_1310 rfl rfl ?_
    refine xi_aload_n (pc' := 1312) (x := 115) kc_195_1311 rfl rfl ?_
    refine xi_aload_n (pc' := 1313) (x := 1000000) kc_195_1312 rfl rfl ?_
    refine xi_iload (pc' := 1315) (x := x4) kc_195_1313 rfl rfl ?_
    refine xi_iconst (pc' := 1316) (v := 1) kc_195_1315 rfl rfl ?_
    refine xi_iadd (pc' := 1317) (v := v1) kc_195_1316 rfl ev1 ?_
    refine xi_ialoadO (pc' := 1318) (v := a2) kc_195_1317 rfl (by decide) hov0 (xi_in (by omega) (by omega)) ea2 ?_
    refine xi_iff (pc' := 1321) kc_195_1318 rfl (xc_eq_f (X := a2.toInt) (Y := 0) rfl (by decide) (by omega)) ?_
    refine xi_iconst (pc' := 1322) (v := 1) kc_195_1321 rfl rfl ?_
    refine xi_goto (pc' := 1326) kc_195_1322 rfl ?_
    obtain ⟨u65, u66, u67, u68, u69, u70, u71, u72, u73, u74, u75, u76, u77, bu65, bu66, bu67, bu68, bu69, bu70, bu71, bu72, bu73, bu74, bu75, bu76, bu77, A78⟩ := xq_115 K60.1
    refine xi_virtual (mj := 71) (as := [.int 1]) (st1 := []) (lv0 := [(0, .ref 115), (1, .int 1)]) kc_195_1326 rfl rfl rfl rfl rfl A78 (Nat.le_of_ble_eq_true rfl) (hJ _ _ _ _ (by decide)) (xm_le ml_71 rfl) rfl ?_
    have zc1 : (1 : Int32).toInt = 1 := by decide
    refine mt_71_0 hJ hov1 hov2 (d := 98) (x1 := 1) K60.1 (by first | omega | decide) (fun r79 hh80 br79 K81 => ?_)
    have K82 := xk_tr K60 K81 rfl
    obtain ⟨u83, u84, bu83, bu84, A85⟩ := xq_0 K82.1
    have e86 : u55 = u84 := xk_eqi (q := 9) K81 rfl A63 A85 rfl rfl
    subst e86
    obtain ⟨u87, u88, u89, u90, u91, u92, u93, u94, u95, u96, u97, u98, u99, bu87, bu88, bu89, bu90, bu91, bu92, bu93, bu94, bu95, bu96, bu97, bu98, bu99, A100⟩ := xq_115 K82.1
    have e101 : u66 = u88 := xk_eqi (q := 1) K81 rfl A78 A100 rfl rfl
    subst e101
    have e102 : u69 = u91 := xk_eqi (q := 23) K81 rfl A78 A100 rfl rfl
    subst e102
    show xw J ov 100 195 (1329, [(4, .int x4), (3, .ref 167), (2, .ref 115), (1, .ref 0), (0, .ref 1000000)], [.int r79], hh80) _
    refine xi_pop (pc' := 1330) kc_195_1329 rfl rfl ?_
    refine xi_goto (pc' := 1501) kc_195_1330 rfl ?_
    obtain ⟨v103, ev103⟩ : ∃ q : Int32, x4 + 6 = q := ⟨_, rfl⟩
    have zv103 : v103.toInt = (x4.toInt + 6) := by rw [← ev103]; exact (xz_add (X := x4.toInt) (Y := 6) rfl (by decide) (by omega) (by omega)).trans (by omega)
    refine xi_iinc (pc' := 1504) (x := x4) (v := v103) (lv' := [(4, .int v103), (3, .ref 167), (2, .ref 115), (1, .ref 0), (0, .ref 1000000)]) kc_195_1501 rfl rfl ev103 rfl (xm_lt ml_195 rfl) ?_
    refine xi_goto (pc' := 23) kc_195_1504 rfl ?_
    exact kk v103 hh80 (by omega) K82
set_option maxHeartbeats 8000000 in
theorem lc_30 {J : xe_J} {ov : List (List Int32)} (hJ : ∀ d mj as h, mj ≠ xe_loff → J d mj as h = none) (hov1 : ov[1]? = some [10, 0, 0, 0, 0, 0]) (hov2 : ov[2]? = some [99, 30, 50, 50, 1, 99999]) {xs : List Int32} (hov0 : ov[0]? = some xs) {Q : Option Value → xe_H → Prop} {h : xe_H} {x4 : Int32} (hi0 : 0 ≤ x4.toInt) (hi1 : x4.toInt + 6 ≤ xs.length) (hi2 : x4.toInt ≤ 3066) (T : xt h) (kk : ∀ (i : Int32) (h' : xe_H), i.toInt = x4.toInt + 6 → xk [(29, 0), (31, 0), (33, 0), (35, 0), (37, 0), (39, 0), (41, 0), (43, 0), (45, 0), (47, 0), (49, 0), (51, 0), (125, 0), (29, 2), (31, 2), (33, 2), (35, 2), (37, 2), (39, 2), (41, 2), (43, 2), (45, 2), (47, 2), (49, 2), (51, 2), (127, 0), (1, 5), (115, 23)] h h' → xw J ov 100 195 (23, [(4, .int i), (3, .ref 167), (2, .ref 115), (1, .ref 0), (0, .ref 1000000)], [], h') Q) : xw J ov 100 195 (1333, [(4, .int x4), (3, .ref 167), (2, .ref 115), (1, .ref 0), (0, .ref 1000000)], [], h) Q := by
  have K : xk [(29, 0), (31, 0), (33, 0), (35, 0), (37, 0), (39, 0), (41, 0), (43, 0), (45, 0), (47, 0), (49, 0), (51, 0), (125, 0), (29, 2), (31, 2), (33, 2), (35, 2), (37, 2), (39, 2), (41, 2), (43, 2), (45, 2), (47, 2), (49, 2), (51, 2), (127, 0), (1, 5), (115, 23)] h h := xk_re T
  refine xi_aload_n (pc' := 1334) (x := 0) kc_195_1333 rfl rfl ?_
  refine xi_aload_n (pc' := 1335) (x := 1000000) kc_195_1334 rfl rfl ?_
  refine xi_iload (pc' := 1337) (x := x4) kc_195_1335 rfl rfl ?_
  refine xi_iconst (pc' := 1338) (v := 1) kc_195_1337 rfl rfl ?_
  obtain ⟨v1, ev1⟩ : ∃ q : Int32, x4 + 1 = q := ⟨_, rfl⟩
  have zv1 : v1.toInt = (x4.toInt + 1) := by rw [← ev1]; exact (xz_add (X := x4.toInt) (Y := 1) rfl (by decide) (by omega) (by omega)).trans (by omega)
  refine xi_iadd (pc' := 1339) (v := v1) kc_195_1338 rfl ev1 ?_
  obtain ⟨a2, ea2⟩ : ∃ q : Int32, xs.getD (Int32.toNatClampNeg v1) 0 = q := ⟨_, rfl⟩
  have ra2 := xc_rng a2
  refine xi_ialoadO (pc' := 1340) (v := a2) kc_195_1339 rfl (by decide) hov0 (xi_in (by omega) (by omega)) ea2 ?_
  by_cases c3 : a2.toInt = 0
  · refine xi_ift (pc' := 1347) kc_195_1340 rfl (xc_eq_t (X := a2.toInt) (Y := 0) rfl (by decide) (by omega)) ?_
    refine xi_iconst (pc' := 1348) (v := 0) kc_195_1347 rfl rfl ?_
    refine xi_aload_n (pc' := 1349) (x := 1000000) kc_195_1348 rfl rfl ?_
    refine xi_iload (pc' := 1351) (x := x4) kc_195_1349 rfl rfl ?_
    refine xi_iconst (pc' := 1352) (v := 2) kc_195_1351 rfl rfl ?_
    obtain ⟨v4, ev4⟩ : ∃ q : Int32, x4 + 2 = q := ⟨_, rfl⟩
    have zv4 : v4.toInt = (x4.toInt + 2) := by rw [← ev4]; exact (xz_add (X := x4.toInt) (Y := 2) rfl (by decide) (by omega) (by omega)).trans (by omega)
    refine xi_iadd (pc' := 1353) (v := v4) kc_195_1352 rfl ev4 ?_
    obtain ⟨a5, ea5⟩ : ∃ q : Int32, xs.getD (Int32.toNatClampNeg v4) 0 = q := ⟨_, rfl⟩
    have ra5 := xc_rng a5
    refine xi_ialoadO (pc' := 1354) (v := a5) kc_195_1353 rfl (by decide) hov0 (xi_in (by omega) (by omega)) ea5 ?_
    refine xi_aload_n (pc' := 1355) (x := 1000000) kc_195_1354 rfl rfl ?_
    refine xi_iload (pc' := 1357) (x := x4) kc_195_1355 rfl rfl ?_
    refine xi_iconst (pc' := 1358) (v := 3) kc_195_1357 rfl rfl ?_
    obtain ⟨v6, ev6⟩ : ∃ q : Int32, x4 + 3 = q := ⟨_, rfl⟩
    have zv6 : v6.toInt = (x4.toInt + 3) := by rw [← ev6]; exact (xz_add (X := x4.toInt) (Y := 3) rfl (by decide) (by omega) (by omega)).trans (by omega)
    refine xi_iadd (pc' := 1359) (v := v6) kc_195_1358 rfl ev6 ?_
    obtain ⟨a7, ea7⟩ : ∃ q : Int32, xs.getD (Int32.toNatClampNeg v6) 0 = q := ⟨_, rfl⟩
    have ra7 := xc_rng a7
    refine xi_ialoadO (pc' := 1360) (v := a7) kc_195_1359 rfl (by decide) hov0 (xi_in (by omega) (by omega)) ea7 ?_
    by_cases c8 : a7.toInt = 0
    · refine xi_ift (pc' := 1367) kc_195_1360 rfl (xc_eq_t (X := a7.toInt) (Y := 0) rfl (by decide) (by omega)) ?_
      refine xi_iconst (pc' := 1368) (v := 0) kc_195_1367 rfl rfl ?_
      obtain ⟨u9, u10, bu9, bu10, A11⟩ := xq_0 K.1
      refine xi_virtual (mj := 180) (as := [.int 0, .int a5, .int 0]) (st1 := []) (lv0 := [(0, .ref 0), (1, .int 0), (2, .int a5), (3, .int 0)]) kc_195_1368 rfl rfl rfl rfl rfl A11 (Nat.le_of_ble_eq_true rfl) (hJ _ _ _ _ (by decide)) (xm_le ml_180 rfl) rfl ?_
      have zc0 : (0 : Int32).toInt = 0 := by decide
      refine mt_180_0 hJ hov1 hov2 (d := 97) (x1 := 0) (x2 := a5) (x3 := 0) K.1 (by first | omega | decide) (by first | omega | decide) (fun r12 hh13 br12 K14 => ?_)
      have K15 := xk_tr K K14 rfl
      obtain ⟨u16, u17, bu16, bu17, A18⟩ := xq_0 K15.1
      have e19 : u10 = u17 := xk_eqi (q := 9) K14 rfl A11 A18 rfl rfl
      subst e19
      show xw J ov 100 195 (1371, [(4, .int x4), (3, .ref 167), (2, .ref 115), (1, .ref 0), (0, .ref 1000000)], [.int r12], hh13) _
      refine xi_pop (pc' := 1372) kc_195_1371 rfl rfl ?_
      refine xi_aload_n (pc' := 1373) (x := 115) kc_195_1372 rfl rfl ?_
      refine xi_aload_n (pc' := 1374) (x := 1000000) kc_195_1373 rfl rfl ?_
      refine xi_iload (pc' := 1376) (x := x4) kc_195_1374 rfl rfl ?_
      refine xi_iconst (pc' := 1377) (v := 1) kc_195_1376 rfl rfl ?_
      refine xi_iadd (pc' := 1378) (v := v1) kc_195_1377 rfl ev1 ?_
      refine xi_ialoadO (pc' := 1379) (v := a2) kc_195_1378 rfl (by decide) hov0 (xi_in (by omega) (by omega)) ea2 ?_
      refine xi_ift (pc' := 1386) kc_195_1379 rfl (xc_eq_t (X := a2.toInt) (Y := 0) rfl (by decide) (by omega)) ?_
      refine xi_iconst (pc' := 1387) (v := 0) kc_195_1386 rfl rfl ?_
      refine xi_aload_n (pc' := 1388) (x := 1000000) kc_195_1387 rfl rfl ?_
      refine xi_iload (pc' := 1390) (x := x4) kc_195_1388 rfl rfl ?_
      refine xi_iconst (pc' := 1391) (v := 2) kc_195_1390 rfl rfl ?_
      refine xi_iadd (pc' := 1392) (v := v4) kc_195_1391 rfl ev4 ?_
      refine xi_ialoadO (pc' := 1393) (v := a5) kc_195_1392 rfl (by decide) hov0 (xi_in (by omega) (by omega)) ea5 ?_
      refine xi_aload_n (pc' := 1394) (x := 1000000) kc_195_1393 rfl rfl ?_
      refine xi_iload (pc' := 1396) (x := x4) kc_195_1394 rfl rfl ?_
      refine xi_iconst (pc' := 1397) (v := 3) kc_195_1396 rfl rfl ?_
      refine xi_iadd (pc' := 1398) (v := v6) kc_195_1397 rfl ev6 ?_
      refine xi_ialoadO (pc' := 1399) (v := a7) kc_195_1398 rfl (by decide) hov0 (xi_in (by omega) (by omega)) ea7 ?_
      refine xi_ift (pc' := 1406) kc_195_1399 rfl (xc_eq_t (X := a7.toInt) (Y := 0) rfl (by decide) (by omega)) ?_
      refine xi_iconst (pc' := 1407) (v := 0) kc_195_1406 rfl rfl ?_
      obtain ⟨u20, u21, u22, u23, u24, u25, u26, u27, u28, u29, u30, u31, u32, bu20, bu21, bu22, bu23, bu24, bu25, bu26, bu27, bu28, bu29, bu30, bu31, bu32, A33⟩ := xq_115 K15.1
      refine xi_virtual (mj := 72) (as := [.int 0, .int a5, .int 0]) (st1 := []) (lv0 := [(0, .ref 115), (1, .int 0), (2, .int a5), (3, .int 0)]) kc_195_1407 rfl rfl rfl rfl rfl A33 (Nat.le_of_ble_eq_true rfl) (hJ _ _ _ _ (by decide)) (xm_le ml_72 rfl) rfl ?_
      have zc0 : (0 : Int32).toInt = 0 := by decide
      refine mt_72_0 hJ hov1 hov2 (d := 98) (x1 := 0) (x2 := a5) (x3 := 0) K15.1 (by first | omega | decide) (by first | omega | decide) (fun r34 hh35 br34 K36 => ?_)
      have K37 := xk_tr K15 K36 rfl
      obtain ⟨u38, u39, bu38, bu39, A40⟩ := xq_0 K37.1
      have e41 : u10 = u39 := xk_eqi (q := 9) K36 rfl A18 A40 rfl rfl
      subst e41
      obtain ⟨u42, u43, u44, u45, u46, u47, u48, u49, u50, u51, u52, u53, u54, bu42, bu43, bu44, bu45, bu46, bu47, bu48, bu49, bu50, bu51, bu52, bu53, bu54, A55⟩ := xq_115 K37.1
      have e56 : u21 = u43 := xk_eqi (q := 1) K36 rfl A33 A55 rfl rfl
      subst e56
      have e57 : u24 = u46 := xk_eqi (q := 23) K36 rfl A33 A55 rfl rfl
      subst e57
      show xw J ov 100 195 (1410, [(4, .int x4), (3, .ref 167), (2, .ref 115), (1, .ref 0), (0, .ref 1000000)], [.int r34], hh35) _
      refine xi_pop (pc' := 1411) kc_195_1410 rfl rfl ?_
      refine xi_goto (pc' := 1501) kc_195_1411 rfl ?_
      obtain ⟨v58, ev58⟩ : ∃ q : Int32, x4 + 6 = q := ⟨_, rfl⟩
      have zv58 : v58.toInt = (x4.toInt + 6) := by rw [← ev58]; exact (xz_add (X := x4.toInt) (Y := 6) rfl (by decide) (by omega) (by omega)).trans (by omega)
      refine xi_iinc (pc' := 1504) (x := x4) (v := v58) (lv' := [(4, .int v58), (3, .ref 167), (2, .ref 115), (1, .ref 0), (0, .ref 1000000)]) kc_195_1501 rfl rfl ev58 rfl (xm_lt ml_195 rfl) ?_
      refine xi_goto (pc' := 23) kc_195_1504 rfl ?_
      exact kk v58 hh35 (by omega) K37
    · refine xi_iff (pc' := 1363) kc_195_1360 rfl (xc_eq_f (X := a7.toInt) (Y := 0) rfl (by decide) (by omega)) ?_
      refine xi_iconst (pc' := 1364) (v := 1) kc_195_1363 rfl rfl ?_
      refine xi_goto (pc' := 1368) kc_195_1364 rfl ?_
      obtain ⟨u59, u60, bu59, bu60, A61⟩ := xq_0 K.1
      refine xi_virtual (mj := 180) (as := [.int 0, .int a5, .int 1]) (st1 := []) (lv0 := [(0, .ref 0), (1, .int 0), (2, .int a5), (3, .int 1)]) kc_195_1368 rfl rfl rfl rfl rfl A61 (Nat.le_of_ble_eq_true rfl) (hJ _ _ _ _ (by decide)) (xm_le ml_180 rfl) rfl ?_
      have zc0 : (0 : Int32).toInt = 0 := by decide
      have zc1 : (1 : Int32).toInt = 1 := by decide
      refine mt_180_0 hJ hov1 hov2 (d := 97) (x1 := 0) (x2 := a5) (x3 := 1) K.1 (by first | omega | decide) (by first | omega | decide) (fun r62 hh63 br62 K64 => ?_)
      have K65 := xk_tr K K64 rfl
      obtain ⟨u66, u67, bu66, bu67, A68⟩ := xq_0 K65.1
      have e69 : u60 = u67 := xk_eqi (q := 9) K64 rfl A61 A68 rfl rfl
      subst e69
      show xw J ov 100 195 (1371, [(4, .int x4), (3, .ref 167), (2, .ref 115), (1, .ref 0), (0, .ref 1000000)], [.int r62], hh63) _
      refine xi_pop (pc' := 1372) kc_195_1371 rfl rfl ?_
      refine xi_aload_n (pc' := 1373) (x := 115) kc_195_1372 rfl rfl ?_
      refine xi_aload_n (pc' := 1374) (x := 1000000) kc_195_1373 rfl rfl ?_
      refine xi_iload (pc' := 1376) (x := x4) kc_195_1374 rfl rfl ?_
      refine xi_iconst (pc' := 1377) (v := 1) kc_195_1376 rfl rfl ?_
      refine xi_iadd (pc' := 1378) (v := v1) kc_195_1377 rfl ev1 ?_
      refine xi_ialoadO (pc' := 1379) (v := a2) kc_195_1378 rfl (by decide) hov0 (xi_in (by omega) (by omega)) ea2 ?_
      refine xi_ift (pc' := 1386) kc_195_1379 rfl (xc_eq_t (X := a2.toInt) (Y := 0) rfl (by decide) (by omega)) ?_
      refine xi_iconst (pc' := 1387) (v := 0) kc_195_1386 rfl rfl ?_
      refine xi_aload_n (pc' := 1388) (x := 1000000) kc_195_1387 rfl rfl ?_
      refine xi_iload (pc' := 1390) (x := x4) kc_195_1388 rfl rfl ?_
      refine xi_iconst (pc' := 1391) (v := 2) kc_195_1390 rfl rfl ?_
      refine xi_iadd (pc' := 1392) (v := v4) kc_195_1391 rfl ev4 ?_
      refine xi_ialoadO (pc' := 1393) (v := a5) kc_195_1392 rfl (by decide) hov0 (xi_in (by omega) (by omega)) ea5 ?_
      refine xi_aload_n (pc' := 1394) (x := 1000000) kc_195_1393 rfl rfl ?_
      refine xi_iload (pc' := 1396) (x := x4) kc_195_1394 rfl rfl ?_
      refine xi_iconst (pc' := 1397) (v := 3) kc_195_1396 rfl rfl ?_
      refine xi_iadd (pc' := 1398) (v := v6) kc_195_1397 rfl ev6 ?_
      refine xi_ialoadO (pc' := 1399) (v := a7) kc_195_1398 rfl (by decide) hov0 (xi_in (by omega) (by omega)) ea7 ?_
      refine xi_iff (pc' := 1402) kc_195_1399 rfl (xc_eq_f (X := a7.toInt) (Y := 0) rfl (by decide) (by omega)) ?_
      refine xi_iconst (pc' := 1403) (v := 1) kc_195_1402 rfl rfl ?_
      refine xi_goto (pc' := 1407) kc_195_1403 rfl ?_
      obtain ⟨u70, u71, u72, u73, u74, u75, u76, u77, u78, u79, u80, u81, u82, bu70, bu71, bu72, bu73, bu74, bu75, bu76, bu77, bu78, bu79, bu80, bu81, bu82, A83⟩ := xq_115 K65.1
      refine xi_virtual (mj := 72) (as := [.int 0, .int a5, .int 1]) (st1 := []) (lv0 := [(0, .ref 115), (1, .int 0), (2, .int a5), (3, .int 1)]) kc_195_1407 rfl rfl rfl rfl rfl A83 (Nat.le_of_ble_eq_true rfl) (hJ _ _ _ _ (by decide)) (xm_le ml_72 rfl) rfl ?_
      have zc0 : (0 : Int32).toInt = 0 := by decide
      have zc1 : (1 : Int32).toInt = 1 := by decide
      refine mt_72_0 hJ hov1 hov2 (d := 98) (x1 := 0) (x2 := a5) (x3 := 1) K65.1 (by first | omega | decide) (by first | omega | decide) (fun r84 hh85 br84 K86 => ?_)
      have K87 := xk_tr K65 K86 rfl
      obtain ⟨u88, u89, bu88, bu89, A90⟩ := xq_0 K87.1
      have e91 : u60 = u89 := xk_eqi (q := 9) K86 rfl A68 A90 rfl rfl
      subst e91
      obtain ⟨u92, u93, u94, u95, u96, u97, u98, u99, u100, u101, u102, u103, u104, bu92, bu93, bu94, bu95, bu96, bu97, bu98, bu99, bu100, bu101, bu102, bu103, bu104, A105⟩ := xq_115 K87.1
      have e106 : u71 = u93 := xk_eqi (q := 1) K86 rfl A83 A105 rfl rfl
      subst e106
      have e107 : u74 = u96 := xk_eqi (q := 23) K86 rfl A83 A105 rfl rfl
      subst e107
      show xw J ov 100 195 (1410, [(4, .int x4), (3, .ref 167), (2, .ref 115), (1, .ref 0), (0, .ref 1000000)], [.int r84], hh85) _
      refine xi_pop (pc' := 1411) kc_195_1410 rfl rfl ?_
      refine xi_goto (pc' := 1501) kc_195_1411 rfl ?_
      obtain ⟨v108, ev108⟩ : ∃ q : Int32, x4 + 6 = q := ⟨_, rfl⟩
      have zv108 : v108.toInt = (x4.toInt + 6) := by rw [← ev108]; exact (xz_add (X := x4.toInt) (Y := 6) rfl (by decide) (by omega) (by omega)).trans (by omega)
      refine xi_iinc (pc' := 1504) (x := x4) (v := v108) (lv' := [(4, .int v108), (3, .ref 167), (2, .ref 115), (1, .ref 0), (0, .ref 1000000)]) kc_195_1501 rfl rfl ev108 rfl (xm_lt ml_195 rfl) ?_
      refine xi_goto (pc' := 23) kc_195_1504 rfl ?_
      exact kk v108 hh85 (by omega) K87
  · refine xi_iff (pc' := 1343) kc_195_1340 rfl (xc_eq_f (X := a2.toInt) (Y := 0) rfl (by decide) (by omega)) ?_
    refine xi_iconst (pc' := 1344) (v := 1) kc_195_1343 rfl rfl ?_
    refine xi_goto (pc' := 1348) kc_195_1344 rfl ?_
    refine xi_aload_n (pc' := 1349) (x := 1000000) kc_195_1348 rfl rfl ?_
    refine xi_iload (pc' := 1351) (x := x4) kc_195_1349 rfl rfl ?_
    refine xi_iconst (pc' := 1352) (v := 2) kc_195_1351 rfl rfl ?_
    obtain ⟨v109, ev109⟩ : ∃ q : Int32, x4 + 2 = q := ⟨_, rfl⟩
    have zv109 : v109.toInt = (x4.toInt + 2) := by rw [← ev109]; exact (xz_add (X := x4.toInt) (Y := 2) rfl (by decide) (by omega) (by omega)).trans (by omega)
    refine xi_iadd (pc' := 1353) (v := v109) kc_195_1352 rfl ev109 ?_
    obtain ⟨a110, ea110⟩ : ∃ q : Int32, xs.getD (Int32.toNatClampNeg v109) 0 = q := ⟨_, rfl⟩
    have ra110 := xc_rng a110
    refine xi_ialoadO (pc' := 1354) (v := a110) kc_195_1353 rfl (by decide) hov0 (xi_in (by omega) (by omega)) ea110 ?_
    refine xi_aload_n (pc' := 1355) (x := 1000000) kc_195_1354 rfl rfl ?_
    refine xi_iload (pc' := 1357) (x := x4) kc_195_1355 rfl rfl ?_
    refine xi_iconst (pc' := 1358) (v := 3) kc_195_1357 rfl rfl ?_
    obtain ⟨v111, ev111⟩ : ∃ q : Int32, x4 + 3 = q := ⟨_, rfl⟩
    have zv111 : v111.toInt = (x4.toInt + 3) := by rw [← ev111]; exact (xz_add (X := x4.toInt) (Y := 3) rfl (by decide) (by omega) (by omega)).trans (by omega)
    refine xi_iadd (pc' := 1359) (v := v111) kc_195_1358 rfl ev111 ?_
    obtain ⟨a112, ea112⟩ : ∃ q : Int32, xs.getD (Int32.toNatClampNeg v111) 0 = q := ⟨_, rfl⟩
    have ra112 := xc_rng a112
    refine xi_ialoadO (pc' := 1360) (v := a112) kc_195_1359 rfl (by decide) hov0 (xi_in (by omega) (by omega)) ea112 ?_
    by_cases c113 : a112.toInt = 0
    · refine xi_ift (pc' := 1367) kc_195_1360 rfl (xc_eq_t (X := a112.toInt) (Y := 0) rfl (by decide) (by omega)) ?_
      refine xi_iconst (pc' := 1368) (v := 0) kc_195_1367 rfl rfl ?_
      obtain ⟨u114, u115, bu114, bu115, A116⟩ := xq_0 K.1
      refine xi_virtual (mj := 180) (as := [.int 1, .int a110, .int 0]) (st1 := []) (lv0 := [(0, .ref 0), (1, .int 1), (2, .int a110), (3, .int 0)]) kc_195_1368 rfl rfl rfl rfl rfl A116 (Nat.le_of_ble_eq_true rfl) (hJ _ _ _ _ (by decide)) (xm_le ml_180 rfl) rfl ?_
      have zc0 : (0 : Int32).toInt = 0 := by decide
      have zc1 : (1 : Int32).toInt = 1 := by decide
      refine mt_180_0 hJ hov1 hov2 (d := 97) (x1 := 1) (x2 := a110) (x3 := 0) K.1 (by first | omega | decide) (by first | omega | decide) (fun r117 hh118 br117 K119 => ?_)
      have K120 := xk_tr K K119 rfl
      obtain ⟨u121, u122, bu121, bu122, A123⟩ := xq_0 K120.1
      have e124 : u115 = u122 := xk_eqi (q := 9) K119 rfl A116 A123 rfl rfl
      subst e124
      show xw J ov 100 195 (1371, [(4, .int x4), (3, .ref 167), (2, .ref 115), (1, .ref 0), (0, .ref 1000000)], [.int r117], hh118) _
      refine xi_pop (pc' := 1372) kc_195_1371 rfl rfl ?_
      refine xi_aload_n (pc' := 1373) (x := 115) kc_195_1372 rfl rfl ?_
      refine xi_aload_n (pc' := 1374) (x := 1000000) kc_195_1373 rfl rfl ?_
      refine xi_iload (pc' := 1376) (x := x4) kc_195_1374 rfl rfl ?_
      refine xi_iconst (pc' := 1377) (v := 1) kc_195_1376 rfl rfl ?_
      refine xi_iadd (pc' := 1378) (v := v1) kc_195_1377 rfl ev1 ?_
      refine xi_ialoadO (pc' := 1379) (v := a2) kc_195_1378 rfl (by decide) hov0 (xi_in (by omega) (by omega)) ea2 ?_
      refine xi_iff (pc' := 1382) kc_195_1379 rfl (xc_eq_f (X := a2.toInt) (Y := 0) rfl (by decide) (by omega)) ?_
      refine xi_iconst (pc' := 1383) (v := 1) kc_195_1382 rfl rfl ?_
      refine xi_goto (pc' := 1387) kc_195_1383 rfl ?_
      refine xi_aload_n (pc' := 1388) (x := 1000000) kc_195_1387 rfl rfl ?_
      refine xi_iload (pc' := 1390) (x := x4) kc_195_1388 rfl rfl ?_
      refine xi_iconst (pc' := 1391) (v := 2) kc_195_1390 rfl rfl ?_
      refine xi_iadd (pc' := 1392) (v := v109) kc_195_1391 rfl ev109 ?_
      refine xi_ialoadO (pc' := 1393) (v := a110) kc_195_1392 rfl (by decide) hov0 (xi_in (by omega) (by omega)) ea110 ?_
      refine xi_aload_n (pc' := 1394) (x := 1000000) kc_195_1393 rfl rfl ?_
      refine xi_iload (pc' := 1396) (x := x4) kc_195_1394 rfl rfl ?_
      refine xi_iconst (pc' := 1397) (v := 3) kc_195_1396 rfl rfl ?_
      refine xi_iadd (pc' := 1398) (v := v111) kc_195_1397 rfl ev111 ?_
      refine xi_ialoadO (pc' := 1399) (v := a112) kc_195_1398 rfl (by decide) hov0 (xi_in (by omega) (by omega)) ea112 ?_
      refine xi_ift (pc' := 1406) kc_195_1399 rfl (xc_eq_t (X := a112.toInt) (Y := 0) rfl (by decide) (by omega)) ?_
      refine xi_iconst (pc' := 1407) (v := 0) kc_195_1406 rfl rfl ?_
      obtain ⟨u125, u126, u127, u128, u129, u130, u131, u132, u133, u134, u135, u136, u137, bu125, bu126, bu127, bu128, bu129, bu130, bu131, bu132, bu133, bu134, bu135, bu136, bu137, A138⟩ := xq_115 K120.1
      refine xi_virtual (mj := 72) (as := [.int 1, .int a110, .int 0]) (st1 := []) (lv0 := [(0, .ref 115), (1, .int 1), (2, .int a110), (3, .int 0)]) kc_195_1407 rfl rfl rfl rfl rfl A138 (Nat.le_of_ble_eq_true rfl) (hJ _ _ _ _ (by decide)) (xm_le ml_72 rfl) rfl ?_
      have zc0 : (0 : Int32).toInt = 0 := by decide
      have zc1 : (1 : Int32).toInt = 1 := by decide
      refine mt_72_0 hJ hov1 hov2 (d := 98) (x1 := 1) (x2 := a110) (x3 := 0) K120.1 (by first | omega | decide) (by first | omega | decide) (fun r139 hh140 br139 K141 => ?_)
      have K142 := xk_tr K120 K141 rfl
      obtain ⟨u143, u144, bu143, bu144, A145⟩ := xq_0 K142.1
      have e146 : u115 = u144 := xk_eqi (q := 9) K141 rfl A123 A145 rfl rfl
      subst e146
      obtain ⟨u147, u148, u149, u150, u151, u152, u153, u154, u155, u156, u157, u158, u159, bu147, bu148, bu149, bu150, bu151, bu152, bu153, bu154, bu155, bu156, bu157, bu158, bu159, A160⟩ := xq_115 K142.1
      have e161 : u126 = u148 := xk_eqi (q := 1) K141 rfl A138 A160 rfl rfl
      subst e161
      have e162 : u129 = u151 := xk_eqi (q := 23) K141 rfl A138 A160 rfl rfl
      subst e162
      show xw J ov 100 195 (1410, [(4, .int x4), (3, .ref 167), (2, .ref 115), (1, .ref 0), (0, .ref 1000000)], [.int r139], hh140) _
      refine xi_pop (pc' := 1411) kc_195_1410 rfl rfl ?_
      refine xi_goto (pc' := 1501) kc_195_1411 rfl ?_
      obtain ⟨v163, ev163⟩ : ∃ q : Int32, x4 + 6 = q := ⟨_, rfl⟩
      have zv163 : v163.toInt = (x4.toInt + 6) := by rw [← ev163]; exact (xz_add (X := x4.toInt) (Y := 6) rfl (by decide) (by omega) (by omega)).trans (by omega)
      refine xi_iinc (pc' := 1504) (x := x4) (v := v163) (lv' := [(4, .int v163), (3, .ref 167), (2, .ref 115), (1, .ref 0), (0, .ref 1000000)]) kc_195_1501 rfl rfl ev163 rfl (xm_lt ml_195 rfl) ?_
      refine xi_goto (pc' := 23) kc_195_1504 rfl ?_
      exact kk v163 hh140 (by omega) K142
    · refine xi_iff (pc' := 1363) kc_195_1360 rfl (xc_eq_f (X := a112.toInt) (Y := 0) rfl (by decide) (by omega)) ?_
      refine xi_iconst (pc' := 1364) (v := 1) kc_195_1363 rfl rfl ?_
      refine xi_goto (pc' := 1368) kc_195_1364 rfl ?_
      obtain ⟨u164, u165, bu164, bu165, A166⟩ := xq_0 K.1
      refine xi_virtual (mj := 180) (as := [.int 1, .int a110, .int 1]) (st1 := []) (lv0 := [(0, .ref 0), (1, .int 1), (2, .int a110), (3, .int 1)]) kc_195_1368 rfl rfl rfl rfl rfl A166 (Nat.le_of_ble_eq_true rfl) (hJ _ _ _ _ (by decide)) (xm_le ml_180 rfl) rfl ?_
      have zc1 : (1 : Int32).toInt = 1 := by decide
      refine mt_180_0 hJ hov1 hov2 (d := 97) (x1 := 1) (x2 := a110) (x3 := 1) K.1 (by first | omega | decide) (by first | omega | decide) (fun r167 hh168 br167 K169 => ?_)
      have K170 := xk_tr K K169 rfl
      obtain ⟨u171, u172, bu171, bu172, A173⟩ := xq_0 K170.1
      have e174 : u165 = u172 := xk_eqi (q := 9) K169 rfl A166 A173 rfl rfl
      subst e174
      show xw J ov 100 195 (1371, [(4, .int x4), (3, .ref 167), (2, .ref 115), (1, .ref 0), (0, .ref 1000000)], [.int r167], hh168) _
      refine xi_pop (pc' := 1372) kc_195_1371 rfl rfl ?_
      refine xi_aload_n (pc' := 1373) (x := 115) kc_195_1372 rfl rfl ?_
      refine xi_aload_n (pc' := 1374) (x := 1000000) kc_195_1373 rfl rfl ?_
      refine xi_iload (pc' := 1376) (x := x4) kc_195_1374 rfl rfl ?_
      refine xi_iconst (pc' := 1377) (v := 1) kc_195_1376 rfl rfl ?_
      refine xi_iadd (pc' := 1378) (v := v1) kc_195_1377 rfl ev1 ?_
      refine xi_ialoadO (pc' := 1379) (v := a2) kc_195_1378 rfl (by decide) hov0 (xi_in (by omega) (by omega)) ea2 ?_
      refine xi_iff (pc' := 1382) kc_195_1379 rfl (xc_eq_f (X := a2.toInt) (Y := 0) rfl (by decide) (by omega)) ?_
      refine xi_iconst (pc' := 1383) (v := 1) kc_195_1382 rfl rfl ?_
      refine xi_goto (pc' := 1387) kc_195_1383 rfl ?_
      refine xi_aload_n (pc' := 1388) (x := 1000000) kc_195_1387 rfl rfl ?_
      refine xi_iload (pc' := 1390) (x := x4) kc_195_1388 rfl rfl ?_
      refine xi_iconst (pc' := 1391) (v := 2) kc_195_1390 rfl rfl ?_
      refine xi_iadd (pc' := 1392) (v := v109) kc_195_1391 rfl ev109 ?_
      refine xi_ialoadO (pc' := 1393) (v := a110) kc_195_1392 rfl (by decide) hov0 (xi_in (by omega) (by omega)) ea110 ?_
      refine xi_aload_n (pc' := 1394) (x := 1000000) kc_195_1393 rfl rfl ?_
      refine xi_iload (pc' := 1396) (x := x4) kc_195_1394 rfl rfl ?_
      refine xi_iconst (pc' := 1397) (v := 3) kc_195_1396 rfl rfl ?_
      refine xi_iadd (pc' := 1398) (v := v111) kc_195_1397 rfl ev111 ?_
      refine xi_ialoadO (pc' := 1399) (v := a112) kc_195_1398 rfl (by decide) hov0 (xi_in (by omega) (by omega)) ea112 ?_
      refine xi_iff (pc' := 1402) kc_195_1399 rfl (xc_eq_f (X := a112.toInt) (Y := 0) rfl (by decide) (by omega)) ?_
      refine xi_iconst (pc' := 1403) (v := 1) kc_195_1402 rfl rfl ?_
      refine xi_goto (pc' := 1407) kc_195_1403 rfl ?_
      obtain ⟨u175, u176, u177, u178, u179, u180, u181, u182, u183, u184, u185, u186, u187, bu175, bu176, bu177, bu178, bu179, bu180, bu181, bu182, bu183, bu184, bu185, bu186, bu187, A188⟩ := xq_115 K170.1
      refine xi_virtual (mj := 72) (as := [.int 1, .int a110, .int 1]) (st1 := []) (lv0 := [(0, .ref 115), (1, .int 1), (2, .int a110), (3, .int 1)]) kc_195_1407 rfl rfl rfl rfl rfl A188 (Nat.le_of_ble_eq_true rfl) (hJ _ _ _ _ (by decide)) (xm_le ml_72 rfl) rfl ?_
      have zc1 : (1 : Int32).toInt = 1 := by decide
      refine mt_72_0 hJ hov1 hov2 (d := 98) (x1 := 1) (x2 := a110) (x3 := 1) K170.1 (by first | omega | decide) (by first | omega | decide) (fun r189 hh190 br189 K191 => ?_)
      have K192 := xk_tr K170 K191 rfl
      obtain ⟨u193, u194, bu193, bu194, A195⟩ := xq_0 K192.1
      have e196 : u165 = u194 := xk_eqi (q := 9) K191 rfl A173 A195 rfl rfl
      subst e196
      obtain ⟨u197, u198, u199, u200, u201, u202, u203, u204, u205, u206, u207, u208, u209, bu197, bu198, bu199, bu200, bu201, bu202, bu203, bu204, bu205, bu206, bu207, bu208, bu209, A210⟩ := xq_115 K192.1
      have e211 : u176 = u198 := xk_eqi (q := 1) K191 rfl A188 A210 rfl rfl
      subst e211
      have e212 : u179 = u201 := xk_eqi (q := 23) K191 rfl A188 A210 rfl rfl
      subst e212
      show xw J ov 100 195 (1410, [(4, .int x4), (3, .ref 167), (2, .ref 115), (1, .ref 0), (0, .ref 1000000)], [.int r189], hh190) _
      refine xi_pop (pc' := 1411) kc_195_1410 rfl rfl ?_
      refine xi_goto (pc' := 1501) kc_195_1411 rfl ?_
      obtain ⟨v213, ev213⟩ : ∃ q : Int32, x4 + 6 = q := ⟨_, rfl⟩
      have zv213 : v213.toInt = (x4.toInt + 6) := by rw [← ev213]; exact (xz_add (X := x4.toInt) (Y := 6) rfl (by decide) (by omega) (by omega)).trans (by omega)
      refine xi_iinc (pc' := 1504) (x := x4) (v := v213) (lv' := [(4, .int v213), (3, .ref 167), (2, .ref 115), (1, .ref 0), (0, .ref 1000000)]) kc_195_1501 rfl rfl ev213 rfl (xm_lt ml_195 rfl) ?_
      refine xi_goto (pc' := 23) kc_195_1504 rfl ?_
      exact kk v213 hh190 (by omega) K192
set_option maxHeartbeats 8000000 in
theorem lc_31 {J : xe_J} {ov : List (List Int32)} (hJ : ∀ d mj as h, mj ≠ xe_loff → J d mj as h = none) (hov1 : ov[1]? = some [10, 0, 0, 0, 0, 0]) (hov2 : ov[2]? = some [99, 30, 50, 50, 1, 99999]) {xs : List Int32} (hov0 : ov[0]? = some xs) {Q : Option Value → xe_H → Prop} {h : xe_H} {x4 : Int32} (hi0 : 0 ≤ x4.toInt) (hi1 : x4.toInt + 6 ≤ xs.length) (hi2 : x4.toInt ≤ 3066) (T : xt h) (kk : ∀ (i : Int32) (h' : xe_H), i.toInt = x4.toInt + 6 → xk [(29, 0), (31, 0), (33, 0), (35, 0), (37, 0), (39, 0), (41, 0), (43, 0), (45, 0), (47, 0), (49, 0), (51, 0), (125, 0), (29, 2), (31, 2), (33, 2), (35, 2), (37, 2), (39, 2), (41, 2), (43, 2), (45, 2), (47, 2), (49, 2), (51, 2), (127, 0), (1, 5), (115, 23)] h h' → xw J ov 100 195 (23, [(4, .int i), (3, .ref 167), (2, .ref 115), (1, .ref 0), (0, .ref 1000000)], [], h') Q) : xw J ov 100 195 (1414, [(4, .int x4), (3, .ref 167), (2, .ref 115), (1, .ref 0), (0, .ref 1000000)], [], h) Q := by
  have K : xk [(29, 0), (31, 0), (33, 0), (35, 0), (37, 0), (39, 0), (41, 0), (43, 0), (45, 0), (47, 0), (49, 0), (51, 0), (125, 0), (29, 2), (31, 2), (33, 2), (35, 2), (37, 2), (39, 2), (41, 2), (43, 2), (45, 2), (47, 2), (49, 2), (51, 2), (127, 0), (1, 5), (115, 23)] h h := xk_re T
  refine xi_aload_n (pc' := 1415) (x := 0) kc_195_1414 rfl rfl ?_
  refine xi_aload_n (pc' := 1416) (x := 1000000) kc_195_1415 rfl rfl ?_
  refine xi_iload (pc' := 1418) (x := x4) kc_195_1416 rfl rfl ?_
  refine xi_iconst (pc' := 1419) (v := 1) kc_195_1418 rfl rfl ?_
  obtain ⟨v1, ev1⟩ : ∃ q : Int32, x4 + 1 = q := ⟨_, rfl⟩
  have zv1 : v1.toInt = (x4.toInt + 1) := by rw [← ev1]; exact (xz_add (X := x4.toInt) (Y := 1) rfl (by decide) (by omega) (by omega)).trans (by omega)
  refine xi_iadd (pc' := 1420) (v := v1) kc_195_1419 rfl ev1 ?_
  obtain ⟨a2, ea2⟩ : ∃ q : Int32, xs.getD (Int32.toNatClampNeg v1) 0 = q := ⟨_, rfl⟩
  have ra2 := xc_rng a2
  refine xi_ialoadO (pc' := 1421) (v := a2) kc_195_1420 rfl (by decide) hov0 (xi_in (by omega) (by omega)) ea2 ?_
  refine xi_aload_n (pc' := 1422) (x := 1000000) kc_195_1421 rfl rfl ?_
  refine xi_iload (pc' := 1424) (x := x4) kc_195_1422 rfl rfl ?_
  refine xi_iconst (pc' := 1425) (v := 2) kc_195_1424 rfl rfl ?_
  obtain ⟨v3, ev3⟩ : ∃ q : Int32, x4 + 2 = q := ⟨_, rfl⟩
  have zv3 : v3.toInt = (x4.toInt + 2) := by rw [← ev3]; exact (xz_add (X := x4.toInt) (Y := 2) rfl (by decide) (by omega) (by omega)).trans (by omega)
  refine xi_iadd (pc' := 1426) (v := v3) kc_195_1425 rfl ev3 ?_
  obtain ⟨a4, ea4⟩ : ∃ q : Int32, xs.getD (Int32.toNatClampNeg v3) 0 = q := ⟨_, rfl⟩
  have ra4 := xc_rng a4
  refine xi_ialoadO (pc' := 1427) (v := a4) kc_195_1426 rfl (by decide) hov0 (xi_in (by omega) (by omega)) ea4 ?_
  obtain ⟨u5, u6, bu5, bu6, A7⟩ := xq_0 K.1
  refine xi_virtual (mj := 182) (as := [.int a2, .int a4]) (st1 := []) (lv0 := [(0, .ref 0), (1, .int a2), (2, .int a4)]) kc_195_1427 rfl rfl rfl rfl rfl A7 (Nat.le_of_ble_eq_true rfl) (hJ _ _ _ _ (by decide)) (xm_le ml_182 rfl) rfl ?_
  refine mt_182_0 hJ hov1 hov2 (d := 92) (x1 := a2) (x2 := a4) K.1 (fun r8 hh9 K10 => ?_)
  have br8 := xc_rng r8
  have K11 := xk_tr K K10 rfl
  obtain ⟨u12, u13, bu12, bu13, A14⟩ := xq_0 K11.1
  have e15 : u6 = u13 := xk_eqi (q := 9) K10 rfl A7 A14 rfl rfl
  subst e15
  show xw J ov 100 195 (1430, [(4, .int x4), (3, .ref 167), (2, .ref 115), (1, .ref 0), (0, .ref 1000000)], [.int r8], hh9) _
  refine xi_pop (pc' := 1431) kc_195_1430 rfl rfl ?_
  refine xi_aload_n (pc' := 1432) (x := 115) kc_195_1431 rfl rfl ?_
  refine xi_aload_n (pc' := 1433) (x := 1000000) kc_195_1432 rfl rfl ?_
  refine xi_iload (pc' := 1435) (x := x4) kc_195_1433 rfl rfl ?_
  refine xi_iconst (pc' := 1436) (v := 1) kc_195_1435 rfl rfl ?_
  refine xi_iadd (pc' := 1437) (v := v1) kc_195_1436 rfl ev1 ?_
  refine xi_ialoadO (pc' := 1438) (v := a2) kc_195_1437 rfl (by decide) hov0 (xi_in (by omega) (by omega)) ea2 ?_
  refine xi_aload_n (pc' := 1439) (x := 1000000) kc_195_1438 rfl rfl ?_
  refine xi_iload (pc' := 1441) (x := x4) kc_195_1439 rfl rfl ?_
  refine xi_iconst (pc' := 1442) (v := 2) kc_195_1441 rfl rfl ?_
  refine xi_iadd (pc' := 1443) (v := v3) kc_195_1442 rfl ev3 ?_
  refine xi_ialoadO (pc' := 1444) (v := a4) kc_195_1443 rfl (by decide) hov0 (xi_in (by omega) (by omega)) ea4 ?_
  obtain ⟨u16, u17, u18, u19, u20, u21, u22, u23, u24, u25, u26, u27, u28, bu16, bu17, bu18, bu19, bu20, bu21, bu22, bu23, bu24, bu25, bu26, bu27, bu28, A29⟩ := xq_115 K11.1
  refine xi_virtual (mj := 73) (as := [.int a2, .int a4]) (st1 := []) (lv0 := [(0, .ref 115), (1, .int a2), (2, .int a4)]) kc_195_1444 rfl rfl rfl rfl rfl A29 (Nat.le_of_ble_eq_true rfl) (hJ _ _ _ _ (by decide)) (xm_le ml_73 rfl) rfl ?_
  refine mt_73_0 hJ hov1 hov2 (d := 91) (x1 := a2) (x2 := a4) K11.1 (fun r30 hh31 K32 => ?_)
  have br30 := xc_rng r30
  have K33 := xk_tr K11 K32 rfl
  obtain ⟨u34, u35, bu34, bu35, A36⟩ := xq_0 K33.1
  have e37 : u6 = u35 := xk_eqi (q := 9) K32 rfl A14 A36 rfl rfl
  subst e37
  obtain ⟨u38, u39, u40, u41, u42, u43, u44, u45, u46, u47, u48, u49, u50, bu38, bu39, bu40, bu41, bu42, bu43, bu44, bu45, bu46, bu47, bu48, bu49, bu50, A51⟩ := xq_115 K33.1
  have e52 : u17 = u39 := xk_eqi (q := 1) K32 rfl A29 A51 rfl rfl
  subst e52
  have e53 : u20 = u42 := xk_eqi (q := 23) K32 rfl A29 A51 rfl rfl
  subst e53
  show xw J ov 100 195 (1447, [(4, .int x4), (3, .ref 167), (2, .ref 115), (1, .ref 0), (0, .ref 1000000)], [.int r30], hh31) _
  refine xi_pop (pc' := 1448) kc_195_1447 rfl rfl ?_
  refine xi_goto (pc' := 1501) kc_195_1448 rfl ?_
  obtain ⟨v54, ev54⟩ : ∃ q : Int32, x4 + 6 = q := ⟨_, rfl⟩
  have zv54 : v54.toInt = (x4.toInt + 6) := by rw [← ev54]; exact (xz_add (X := x4.toInt) (Y := 6) rfl (by decide) (by omega) (by omega)).trans (by omega)
  refine xi_iinc (pc' := 1504) (x := x4) (v := v54) (lv' := [(4, .int v54), (3, .ref 167), (2, .ref 115), (1, .ref 0), (0, .ref 1000000)]) kc_195_1501 rfl rfl ev54 rfl (xm_lt ml_195 rfl) ?_
  refine xi_goto (pc' := 23) kc_195_1504 rfl ?_
  exact kk v54 hh31 (by omega) K33
set_option maxHeartbeats 8000000 in
theorem lc_32 {J : xe_J} {ov : List (List Int32)} (hJ : ∀ d mj as h, mj ≠ xe_loff → J d mj as h = none) (hov1 : ov[1]? = some [10, 0, 0, 0, 0, 0]) (hov2 : ov[2]? = some [99, 30, 50, 50, 1, 99999]) {xs : List Int32} (hov0 : ov[0]? = some xs) {Q : Option Value → xe_H → Prop} {h : xe_H} {x4 : Int32} (hi0 : 0 ≤ x4.toInt) (hi1 : x4.toInt + 6 ≤ xs.length) (hi2 : x4.toInt ≤ 3066) (T : xt h) (kk : ∀ (i : Int32) (h' : xe_H), i.toInt = x4.toInt + 6 → xk [(29, 0), (31, 0), (33, 0), (35, 0), (37, 0), (39, 0), (41, 0), (43, 0), (45, 0), (47, 0), (49, 0), (51, 0), (125, 0), (29, 2), (31, 2), (33, 2), (35, 2), (37, 2), (39, 2), (41, 2), (43, 2), (45, 2), (47, 2), (49, 2), (51, 2), (127, 0), (1, 5), (115, 23)] h h' → xw J ov 100 195 (23, [(4, .int i), (3, .ref 167), (2, .ref 115), (1, .ref 0), (0, .ref 1000000)], [], h') Q) : xw J ov 100 195 (1451, [(4, .int x4), (3, .ref 167), (2, .ref 115), (1, .ref 0), (0, .ref 1000000)], [], h) Q := by
  have K : xk [(29, 0), (31, 0), (33, 0), (35, 0), (37, 0), (39, 0), (41, 0), (43, 0), (45, 0), (47, 0), (49, 0), (51, 0), (125, 0), (29, 2), (31, 2), (33, 2), (35, 2), (37, 2), (39, 2), (41, 2), (43, 2), (45, 2), (47, 2), (49, 2), (51, 2), (127, 0), (1, 5), (115, 23)] h h := xk_re T
  refine xi_aload_n (pc' := 1452) (x := 0) kc_195_1451 rfl rfl ?_
  refine xi_aload_n (pc' := 1453) (x := 1000000) kc_195_1452 rfl rfl ?_
  refine xi_iload (pc' := 1455) (x := x4) kc_195_1453 rfl rfl ?_
  refine xi_iconst (pc' := 1456) (v := 1) kc_195_1455 rfl rfl ?_
  obtain ⟨v1, ev1⟩ : ∃ q : Int32, x4 + 1 = q := ⟨_, rfl⟩
  have zv1 : v1.toInt = (x4.toInt + 1) := by rw [← ev1]; exact (xz_add (X := x4.toInt) (Y := 1) rfl (by decide) (by omega) (by omega)).trans (by omega)
  refine xi_iadd (pc' := 1457) (v := v1) kc_195_1456 rfl ev1 ?_
  obtain ⟨a2, ea2⟩ : ∃ q : Int32, xs.getD (Int32.toNatClampNeg v1) 0 = q := ⟨_, rfl⟩
  have ra2 := xc_rng a2
  refine xi_ialoadO (pc' := 1458) (v := a2) kc_195_1457 rfl (by decide) hov0 (xi_in (by omega) (by omega)) ea2 ?_
  obtain ⟨u3, u4, bu3, bu4, A5⟩ := xq_0 K.1
  refine xi_virtual (mj := 188) (as := [.int a2]) (st1 := []) (lv0 := [(0, .ref 0), (1, .int a2)]) kc_195_1458 rfl rfl rfl rfl rfl A5 (Nat.le_of_ble_eq_true rfl) (hJ _ _ _ _ (by decide)) (xm_le ml_188 rfl) rfl ?_
  refine mt_188_0 hJ hov1 hov2 (d := 97) (x1 := a2) K.1 (fun r6 hh7 br6 K8 => ?_)
  have K9 := xk_tr K K8 rfl
  obtain ⟨u10, u11, bu10, bu11, A12⟩ := xq_0 K9.1
  have e13 : u4 = u11 := xk_eqi (q := 9) K8 rfl A5 A12 rfl rfl
  subst e13
  show xw J ov 100 195 (1461, [(4, .int x4), (3, .ref 167), (2, .ref 115), (1, .ref 0), (0, .ref 1000000)], [.int r6], hh7) _
  refine xi_pop (pc' := 1462) kc_195_1461 rfl rfl ?_
  refine xi_aload_n (pc' := 1463) (x := 115) kc_195_1462 rfl rfl ?_
  refine xi_aload_n (pc' := 1464) (x := 1000000) kc_195_1463 rfl rfl ?_
  refine xi_iload (pc' := 1466) (x := x4) kc_195_1464 rfl rfl ?_
  refine xi_iconst (pc' := 1467) (v := 1) kc_195_1466 rfl rfl ?_
  refine xi_iadd (pc' := 1468) (v := v1) kc_195_1467 rfl ev1 ?_
  refine xi_ialoadO (pc' := 1469) (v := a2) kc_195_1468 rfl (by decide) hov0 (xi_in (by omega) (by omega)) ea2 ?_
  obtain ⟨u14, u15, u16, u17, u18, u19, u20, u21, u22, u23, u24, u25, u26, bu14, bu15, bu16, bu17, bu18, bu19, bu20, bu21, bu22, bu23, bu24, bu25, bu26, A27⟩ := xq_115 K9.1
  refine xi_virtual (mj := 74) (as := [.int a2]) (st1 := []) (lv0 := [(0, .ref 115), (1, .int a2)]) kc_195_1469 rfl rfl rfl rfl rfl A27 (Nat.le_of_ble_eq_true rfl) (hJ _ _ _ _ (by decide)) (xm_le ml_74 rfl) rfl ?_
  refine mt_74_0 hJ hov1 hov2 (d := 98) (x1 := a2) K9.1 (fun r28 hh29 br28 K30 => ?_)
  have K31 := xk_tr K9 K30 rfl
  obtain ⟨u32, u33, bu32, bu33, A34⟩ := xq_0 K31.1
  have e35 : u4 = u33 := xk_eqi (q := 9) K30 rfl A12 A34 rfl rfl
  subst e35
  obtain ⟨u36, u37, u38, u39, u40, u41, u42, u43, u44, u45, u46, u47, u48, bu36, bu37, bu38, bu39, bu40, bu41, bu42, bu43, bu44, bu45, bu46, bu47, bu48, A49⟩ := xq_115 K31.1
  have e50 : u15 = u37 := xk_eqi (q := 1) K30 rfl A27 A49 rfl rfl
  subst e50
  have e51 : u18 = u40 := xk_eqi (q := 23) K30 rfl A27 A49 rfl rfl
  subst e51
  show xw J ov 100 195 (1472, [(4, .int x4), (3, .ref 167), (2, .ref 115), (1, .ref 0), (0, .ref 1000000)], [.int r28], hh29) _
  refine xi_pop (pc' := 1473) kc_195_1472 rfl rfl ?_
  refine xi_goto (pc' := 1501) kc_195_1473 rfl ?_
  obtain ⟨v52, ev52⟩ : ∃ q : Int32, x4 + 6 = q := ⟨_, rfl⟩
  have zv52 : v52.toInt = (x4.toInt + 6) := by rw [← ev52]; exact (xz_add (X := x4.toInt) (Y := 6) rfl (by decide) (by omega) (by omega)).trans (by omega)
  refine xi_iinc (pc' := 1504) (x := x4) (v := v52) (lv' := [(4, .int v52), (3, .ref 167), (2, .ref 115), (1, .ref 0), (0, .ref 1000000)]) kc_195_1501 rfl rfl ev52 rfl (xm_lt ml_195 rfl) ?_
  refine xi_goto (pc' := 23) kc_195_1504 rfl ?_
  exact kk v52 hh29 (by omega) K31
set_option maxHeartbeats 8000000 in
theorem lc_33 {J : xe_J} {ov : List (List Int32)} (hJ : ∀ d mj as h, mj ≠ xe_loff → J d mj as h = none) (hov1 : ov[1]? = some [10, 0, 0, 0, 0, 0]) (hov2 : ov[2]? = some [99, 30, 50, 50, 1, 99999]) {xs : List Int32} (hov0 : ov[0]? = some xs) {Q : Option Value → xe_H → Prop} {h : xe_H} {x4 : Int32} (hi0 : 0 ≤ x4.toInt) (hi1 : x4.toInt + 6 ≤ xs.length) (hi2 : x4.toInt ≤ 3066) (T : xt h) (kk : ∀ (i : Int32) (h' : xe_H), i.toInt = x4.toInt + 6 → xk [(29, 0), (31, 0), (33, 0), (35, 0), (37, 0), (39, 0), (41, 0), (43, 0), (45, 0), (47, 0), (49, 0), (51, 0), (125, 0), (29, 2), (31, 2), (33, 2), (35, 2), (37, 2), (39, 2), (41, 2), (43, 2), (45, 2), (47, 2), (49, 2), (51, 2), (127, 0), (1, 5), (115, 23)] h h' → xw J ov 100 195 (23, [(4, .int i), (3, .ref 167), (2, .ref 115), (1, .ref 0), (0, .ref 1000000)], [], h') Q) : xw J ov 100 195 (1476, [(4, .int x4), (3, .ref 167), (2, .ref 115), (1, .ref 0), (0, .ref 1000000)], [], h) Q := by
  have K : xk [(29, 0), (31, 0), (33, 0), (35, 0), (37, 0), (39, 0), (41, 0), (43, 0), (45, 0), (47, 0), (49, 0), (51, 0), (125, 0), (29, 2), (31, 2), (33, 2), (35, 2), (37, 2), (39, 2), (41, 2), (43, 2), (45, 2), (47, 2), (49, 2), (51, 2), (127, 0), (1, 5), (115, 23)] h h := xk_re T
  refine xi_aload_n (pc' := 1477) (x := 0) kc_195_1476 rfl rfl ?_
  refine xi_aload_n (pc' := 1478) (x := 1000000) kc_195_1477 rfl rfl ?_
  refine xi_iload (pc' := 1480) (x := x4) kc_195_1478 rfl rfl ?_
  refine xi_iconst (pc' := 1481) (v := 1) kc_195_1480 rfl rfl ?_
  obtain ⟨v1, ev1⟩ : ∃ q : Int32, x4 + 1 = q := ⟨_, rfl⟩
  have zv1 : v1.toInt = (x4.toInt + 1) := by rw [← ev1]; exact (xz_add (X := x4.toInt) (Y := 1) rfl (by decide) (by omega) (by omega)).trans (by omega)
  refine xi_iadd (pc' := 1482) (v := v1) kc_195_1481 rfl ev1 ?_
  obtain ⟨a2, ea2⟩ : ∃ q : Int32, xs.getD (Int32.toNatClampNeg v1) 0 = q := ⟨_, rfl⟩
  have ra2 := xc_rng a2
  refine xi_ialoadO (pc' := 1483) (v := a2) kc_195_1482 rfl (by decide) hov0 (xi_in (by omega) (by omega)) ea2 ?_
  obtain ⟨u3, u4, bu3, bu4, A5⟩ := xq_0 K.1
  refine xi_virtual (mj := 190) (as := [.int a2]) (st1 := []) (lv0 := [(0, .ref 0), (1, .int a2)]) kc_195_1483 rfl rfl rfl rfl rfl A5 (Nat.le_of_ble_eq_true rfl) (hJ _ _ _ _ (by decide)) (xm_le ml_190 rfl) rfl ?_
  refine mt_190_0 hJ hov1 hov2 (d := 96) (x1 := a2) K.1 (fun r6 hh7 K8 => ?_)
  have br6 := xc_rng r6
  have K9 := xk_tr K K8 rfl
  obtain ⟨u10, u11, bu10, bu11, A12⟩ := xq_0 K9.1
  have e13 : u4 = u11 := xk_eqi (q := 9) K8 rfl A5 A12 rfl rfl
  subst e13
  show xw J ov 100 195 (1486, [(4, .int x4), (3, .ref 167), (2, .ref 115), (1, .ref 0), (0, .ref 1000000)], [.int r6], hh7) _
  refine xi_pop (pc' := 1487) kc_195_1486 rfl rfl ?_
  refine xi_aload_n (pc' := 1488) (x := 115) kc_195_1487 rfl rfl ?_
  refine xi_aload_n (pc' := 1489) (x := 1000000) kc_195_1488 rfl rfl ?_
  refine xi_iload (pc' := 1491) (x := x4) kc_195_1489 rfl rfl ?_
  refine xi_iconst (pc' := 1492) (v := 1) kc_195_1491 rfl rfl ?_
  refine xi_iadd (pc' := 1493) (v := v1) kc_195_1492 rfl ev1 ?_
  refine xi_ialoadO (pc' := 1494) (v := a2) kc_195_1493 rfl (by decide) hov0 (xi_in (by omega) (by omega)) ea2 ?_
  obtain ⟨u14, u15, u16, u17, u18, u19, u20, u21, u22, u23, u24, u25, u26, bu14, bu15, bu16, bu17, bu18, bu19, bu20, bu21, bu22, bu23, bu24, bu25, bu26, A27⟩ := xq_115 K9.1
  refine xi_virtual (mj := 75) (as := [.int a2]) (st1 := []) (lv0 := [(0, .ref 115), (1, .int a2)]) kc_195_1494 rfl rfl rfl rfl rfl A27 (Nat.le_of_ble_eq_true rfl) (hJ _ _ _ _ (by decide)) (xm_le ml_75 rfl) rfl ?_
  refine mt_75_0 hJ hov1 hov2 (d := 97) (x1 := a2) K9.1 (fun r28 hh29 K30 => ?_)
  have br28 := xc_rng r28
  have K31 := xk_tr K9 K30 rfl
  obtain ⟨u32, u33, bu32, bu33, A34⟩ := xq_0 K31.1
  have e35 : u4 = u33 := xk_eqi (q := 9) K30 rfl A12 A34 rfl rfl
  subst e35
  obtain ⟨u36, u37, u38, u39, u40, u41, u42, u43, u44, u45, u46, u47, u48, bu36, bu37, bu38, bu39, bu40, bu41, bu42, bu43, bu44, bu45, bu46, bu47, bu48, A49⟩ := xq_115 K31.1
  have e50 : u15 = u37 := xk_eqi (q := 1) K30 rfl A27 A49 rfl rfl
  subst e50
  have e51 : u18 = u40 := xk_eqi (q := 23) K30 rfl A27 A49 rfl rfl
  subst e51
  show xw J ov 100 195 (1497, [(4, .int x4), (3, .ref 167), (2, .ref 115), (1, .ref 0), (0, .ref 1000000)], [.int r28], hh29) _
  refine xi_pop (pc' := 1498) kc_195_1497 rfl rfl ?_
  refine xi_goto (pc' := 1501) kc_195_1498 rfl ?_
  obtain ⟨v52, ev52⟩ : ∃ q : Int32, x4 + 6 = q := ⟨_, rfl⟩
  have zv52 : v52.toInt = (x4.toInt + 6) := by rw [← ev52]; exact (xz_add (X := x4.toInt) (Y := 6) rfl (by decide) (by omega) (by omega)).trans (by omega)
  refine xi_iinc (pc' := 1504) (x := x4) (v := v52) (lv' := [(4, .int v52), (3, .ref 167), (2, .ref 115), (1, .ref 0), (0, .ref 1000000)]) kc_195_1501 rfl rfl ev52 rfl (xm_lt ml_195 rfl) ?_
  refine xi_goto (pc' := 23) kc_195_1504 rfl ?_
  exact kk v52 hh29 (by omega) K31
